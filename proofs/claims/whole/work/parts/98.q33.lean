/-! CALLS: turn, gone -/
section RI2
variable {n m : Nat} {g : Nat → zC} {I X A : Nat → Nat → Int32} {J : Nat → Nat → Int64} {N S U b : Nat}
/-- the reference's memory with its row kept aside, and given back -/
theorem give_back {M : Nat → Nat → Int32} {c' : Nat → Int32} (hc : ∀ j, 234 ≤ j → c' j = M 148 j) (d : Nat) : zcall d 360 [.ref 143] (mk n m g (zr (zr M 149 (fun j => if j < 234 then M 148 j else M 149 j)) 148 c') J) = some (none, mk n m g (zr M 149 (fun j => if j < 234 then M 148 j else M 149 j)) J) := by
  rw [v_gives]
  have : (fun j => if j < 234 then zr (zr M 149 (fun j => if j < 234 then M 148 j else M 149 j)) 148 c' 149 j else zr (zr M 149 (fun j => if j < 234 then M 148 j else M 149 j)) 148 c' 148 j) = M 148 := by
    funext j
    rw [zr_same, zr_far _ _ (by decide), zr_same]
    by_cases hj : j < 234
    · simp [hj]
    · rw [if_neg hj, hc j (by omega)]
  rw [this, zr_zr, zr_back]
theorem q_turn {x : Int32} (h : Inv I J N S) (d : Nat) : Eqv (d + 30) 185 361 [.int x] n m g I J := by
  have hW := h.W
  have h12 := hW.h12
  have hQ12 := hW.hQ.2
  have wA : WT (tCopy 16 33 I) 33 N S 2999 := hW.copy ap
  have rA : RT (tCopy 16 33 I) 33 (I 148) N S := h.R.copy hW ap
  rcases p_cases x N with ⟨p, hp, rfl⟩ | hx
  · rcases qPlace_case (A := I) (b := 16) (x := nI p) hW.hQ.2 with ⟨e1, e2⟩ | ⟨k, hk, e1, e2⟩
    · refine ⟨.int (-1), zu I 3 0 8, J, st 8 I, J, N, S, ?_, ?_, h.stI⟩
      · rw [m_X11_turn]
        simp only [e_X11_turn_0, e_X11_turn_1, e_X11_turn_4, e_X11_turn_5, e_X11_turn_8, e_X11_turn_11, e_X11_turn_12, e_X11_turn_13, e_X11_turn_16, e_X11_turn_17, e_X11_turn_18, e_X11_turn_21, e_X11_turn_24, e_X11_turn_25, e_X11_turn_28, e_X11_turn_29, e_X11_turn_30, e_X11_turn_31, e_X11_turn_34, e_X11_turn_35, e_X11_turn_37, e_X11_turn_40, e_X11_turn_41, e_X11_turn_42, e_X11_turn_45, e_X11_turn_48, e_X11_turn_51, e_X11_turn_52, e_X11_turn_53, e_X11_turn_54, e_X11_turn_55, e_X11_turn_58, e_X11_turn_59, e_X11_turn_62, e_X11_turn_65, e_X11_turn_66, c_3, c_T0 t16, c_T14 t16, g_3_7, g_T0_19 t16, t_hasP_yes t16 hW.hN h12 hp, q_placeOf t16 hW.hQ.1 hW.hQ.2, e1, n_refuse, Option.bind_some, Option.isSome_some, Option.toList, List.cons_append, List.nil_append, zclr_i, zclr_r, zclr_n, zfit_i, zfit_l, and_self, if_true, if_false] <;> first | rfl | simp
      · have hR1 : RT I 16 ((zu (zu (zu I 3 0 8) 143 1 0) 143 0 0) 148) N S := h.R
        rw [m_X12_turn]
        simp only [e_X12_turn_0, e_X12_turn_1, e_X12_turn_2, e_X12_turn_5, e_X12_turn_6, e_X12_turn_7, e_X12_turn_10, e_X12_turn_11, e_X12_turn_12, e_X12_turn_15, e_X12_turn_18, e_X12_turn_19, e_X12_turn_20, e_X12_turn_23, e_X12_turn_24, e_X12_turn_25, e_X12_turn_26, e_X12_turn_29, e_X12_turn_30, e_X12_turn_31, e_X12_turn_34, e_X12_turn_35, e_X12_turn_37, e_X12_turn_40, e_X12_turn_41, e_X12_turn_42, e_X12_turn_45, e_X12_turn_48, e_X12_turn_49, e_X12_turn_50, e_X12_turn_51, e_X12_turn_52, e_X12_turn_53, e_X12_turn_55, e_X12_turn_56, e_X12_turn_59, e_X12_turn_60, c_143, g_143_0, g_143_1, p_143_0, p_143_1, v_isP_yes hW hR1 hp, v_placeOf hW hR1, e1, v_refuse, st_eq, Option.bind_some, Option.isSome_some, Option.toList, List.cons_append, List.nil_append, zclr_i, zclr_r, zclr_n, zfit_i, zfit_l, and_self, if_true, if_false] <;> first | rfl | simp
    · obtain ⟨s, hs, es⟩ := hW.want k hk
      have kn : ¬ nI k < 0 := nI_pos (by omega)
      have k0 : 0 ≤ nI k := Int32.not_lt.mp kn
      have km : ¬ nI k = -1 := nI_m1 (by omega)
      have hcl : zcall (d + 30) 185 [.ref 3, .int (nI p)] (mk n m g I J) = zexec (d + 30) 185 68 [some (.ref 3), some (.int (nI p)), some (.int (nI k)), some (.int (nI s)), some (.int (nI (0 + 1)))] [] (mk n m g (tCopy 16 33 I) (cpS 16 33 4 12 (cpS 16 33 1 6 J))) := by
        rw [m_X11_turn]
        simp only [e_X11_turn_0, e_X11_turn_1, e_X11_turn_4, e_X11_turn_5, e_X11_turn_8, e_X11_turn_11, e_X11_turn_12, e_X11_turn_13, e_X11_turn_16, e_X11_turn_17, e_X11_turn_18, e_X11_turn_21, e_X11_turn_24, e_X11_turn_25, e_X11_turn_28, e_X11_turn_29, e_X11_turn_30, e_X11_turn_31, e_X11_turn_34, e_X11_turn_35, e_X11_turn_37, e_X11_turn_40, e_X11_turn_41, e_X11_turn_42, e_X11_turn_45, e_X11_turn_48, e_X11_turn_51, e_X11_turn_52, e_X11_turn_53, e_X11_turn_54, e_X11_turn_55, e_X11_turn_58, e_X11_turn_59, e_X11_turn_62, e_X11_turn_65, e_X11_turn_66, c_3, c_T0 t16, c_T0 t33, c_T14 t16, g_3_7, g_3_8, g_T0_19 t16, g_T14_1 t16, t_hasP_yes t16 hW.hN h12 hp, q_placeOf t16 hW.hQ.1 hW.hQ.2, e1, km, l_T16 t16 (show k < 12 by omega), es, t_copyFrom t16 t33, ne_eq, not_false_eq_true, Option.bind_some, Option.isSome_some, Option.toList, List.cons_append, List.nil_append, zclr_i, zclr_r, zclr_n, zfit_i, zfit_l, and_self, if_true, if_false] <;> first | rfl | simp
      have hl := ct_loop (n := n) (m := m) (g := g) (J := cpS 16 33 4 12 (cpS 16 33 1 6 J)) (p := p) (s := s) (pl := k) wA (by omega) hp (d + 26) 150 0 (by omega)
      have hv : ∀ (T : Nat → Nat → Int32) (w : Int32), (∀ a, (∀ i, i < 17 → a ≠ 33 + i) → T a = I a) → ∃ t', zcall (d + 30) 361 [.ref 143, .int (nI p)] (mk n m g (zu T 3 0 w) (cpS 16 33 4 12 (cpS 16 33 1 6 J))) = zexec (d + 30) 361 115 [some (.ref 143), some (.int (nI p)), some (.int (nI k)), some (.int (nI s)), some (.int (oI (zfind (tnC (tCopy 16 33 I) N p s) some none 1 150))), some (.int t')] [] (mk n m g (zr (zu (zu (zu T 3 0 w) 143 1 0) 143 0 0) 149 (fun j => if j < 234 then (zu (zu (zu T 3 0 w) 143 1 0) 143 0 0) 148 j else (zu (zu (zu T 3 0 w) 143 1 0) 143 0 0) 149 j)) (cpS 16 33 4 12 (cpS 16 33 1 6 J))) := by
        intro T w hT
        have h148 : (zu (zu (zu T 3 0 w) 143 1 0) 143 0 0) 148 = I 148 := by
          show T 148 = I 148
          exact hT 148 (fun i _ => by omega)
        have hR1 : RT I 16 ((zu (zu (zu T 3 0 w) 143 1 0) 143 0 0) 148) N S := by rw [h148]; exact h.R
        obtain ⟨c', t', e4, f4⟩ := vt_loop (n := n) (m := m) (g := g) (X := zr (zu (zu (zu T 3 0 w) 143 1 0) 143 0 0) 149 (fun j => if j < 234 then (zu (zu (zu T 3 0 w) 143 1 0) 143 0 0) 148 j else (zu (zu (zu T 3 0 w) 143 1 0) 143 0 0) 149 j)) (J := cpS 16 33 4 12 (cpS 16 33 1 6 J)) (p := p) (s := s) (pl := k) wA (by omega) hp (d + 25) 150 0 ((zu (zu (zu T 3 0 w) 143 1 0) 143 0 0) 148) (by omega) (by rw [h148]; exact rA)
        rw [zr_back] at e4
        have hg := give_back (n := n) (m := m) (g := g) (J := cpS 16 33 4 12 (cpS 16 33 1 6 J)) (M := (zu (zu (zu T 3 0 w) 143 1 0) 143 0 0)) (c' := c') f4 (d + 29)
        refine ⟨t', ?_⟩
        have hst : zcall (d + 30) 361 [.ref 143, .int (nI p)] (mk n m g (zu T 3 0 w) (cpS 16 33 4 12 (cpS 16 33 1 6 J))) = zexec (d + 30) 361 62 [some (.ref 143), some (.int (nI p)), some (.int (nI k)), some (.int (nI s)), some (.int (-1)), some (.int (nI (0 + 1)))] [] (mk n m g (zr (zu (zu (zu T 3 0 w) 143 1 0) 143 0 0) 149 (fun j => if j < 234 then (zu (zu (zu T 3 0 w) 143 1 0) 143 0 0) 148 j else (zu (zu (zu T 3 0 w) 143 1 0) 143 0 0) 149 j)) (cpS 16 33 4 12 (cpS 16 33 1 6 J))) := by
          rw [m_X12_turn]
          simp only [e_X12_turn_0, e_X12_turn_1, e_X12_turn_2, e_X12_turn_5, e_X12_turn_6, e_X12_turn_7, e_X12_turn_10, e_X12_turn_11, e_X12_turn_12, e_X12_turn_15, e_X12_turn_18, e_X12_turn_19, e_X12_turn_20, e_X12_turn_23, e_X12_turn_24, e_X12_turn_25, e_X12_turn_26, e_X12_turn_29, e_X12_turn_30, e_X12_turn_31, e_X12_turn_34, e_X12_turn_35, e_X12_turn_37, e_X12_turn_40, e_X12_turn_41, e_X12_turn_42, e_X12_turn_45, e_X12_turn_48, e_X12_turn_49, e_X12_turn_50, e_X12_turn_51, e_X12_turn_52, e_X12_turn_53, e_X12_turn_55, e_X12_turn_56, e_X12_turn_59, e_X12_turn_60, cA_6, cA_12, cA_18, cA_30, cA_42, cA_54, cA_66, cA_78, cA_90, cA_102, cA_114, cA_126, cA_138, cA_210, cA_222, lc_0, lc_1, lc_2, lc_3, lc_4, lc_5, g_143_20, q_148, nI_neg (show 222 + k < 2 ^ 31 by omega), nI_clamp (show 222 + k < 2 ^ 31 by omega), k_148 (show 222 + k < 2530 by omega), l_148 (show 222 + k < 2530 by omega), c_143, g_143_0, g_143_1, p_143_0, p_143_1, v_isP_yes hW hR1 hp, v_placeOf hW hR1, e1, if_pos k0, hR1.want k hk, es, v_keeps, Option.bind_some, Option.isSome_some, Option.toList, List.cons_append, List.nil_append, zclr_i, zclr_r, zclr_n, zfit_i, zfit_l, and_self, if_true, if_false]
          rfl
        refine hst.trans (e4.trans ?_)
        simp only [e_X12_turn_111, e_X12_turn_112, c_143, hg, Option.bind_some, Option.isSome_some, Option.toList, List.cons_append, List.nil_append, zclr_i, zclr_r, zclr_n, zfit_i, zfit_l, and_self, if_true, if_false]
      cases hz : zfind (tnC (tCopy 16 33 I) N p s) some none 1 150 with
      | none =>
        have hz' : zfind (tnC (tCopy 16 33 I) N p s) some none (0 + 1) 150 = none := hz
        rw [hz'] at hl
        have hX : ∀ a, (∀ i, i < 17 → a ≠ 33 + i) → (tYears (tCopy 16 33 I) 33 N 150).2 a = I a := fun a ha => by rw [tYears_out ha, tCopy_far ha]
        obtain ⟨t', ev⟩ := hv (tYears (tCopy 16 33 I) 33 N 150).2 8 hX
        rw [hz] at ev
        refine ⟨.int (-1), zu (tYears (tCopy 16 33 I) 33 N 150).2 3 0 8, cpS 16 33 4 12 (cpS 16 33 1 6 J), st 8 (zr (tYears (tCopy 16 33 I) 33 N 150).2 149 (fun j => if j < 234 then (zu (zu (zu (tYears (tCopy 16 33 I) 33 N 150).2 3 0 8) 143 1 0) 143 0 0) 148 j else (zu (zu (zu (tYears (tCopy 16 33 I) 33 N 150).2 3 0 8) 143 1 0) 143 0 0) 149 j)), cpS 16 33 4 12 (cpS 16 33 1 6 J), N, S, hcl.trans hl, ev.trans ?_, h.look hX⟩
        rw [← st_149b]
        simp only [e_X12_turn_115, e_X12_turn_117, e_X12_turn_120, e_X12_turn_121, e_X12_turn_123, e_X12_turn_126, e_X12_turn_129, e_X12_turn_131, c_143, oI, v_refuse, Option.bind_some, Option.isSome_some, Option.toList, List.cons_append, List.nil_append, zclr_i, zclr_r, zclr_n, zfit_i, zfit_l, and_self, if_true, if_false]
        rfl
      | some i =>
        have hi := (zfind_some _ _ hz).2.1
        have hz' : zfind (tnC (tCopy 16 33 I) N p s) some none (0 + 1) 150 = some i := hz
        rw [hz'] at hl
        have hX : ∀ a, (∀ i, i < 17 → a ≠ 33 + i) → (tYears (tCopy 16 33 I) 33 N i).2 a = I a := fun a ha => by rw [tYears_out ha, tCopy_far ha]
        obtain ⟨t', ev⟩ := hv (tYears (tCopy 16 33 I) 33 N i).2 0 hX
        rw [hz] at ev
        refine ⟨.int (nI i), zu (tYears (tCopy 16 33 I) 33 N i).2 3 0 0, cpS 16 33 4 12 (cpS 16 33 1 6 J), st 0 (zr (tYears (tCopy 16 33 I) 33 N i).2 149 (fun j => if j < 234 then (zu (zu (zu (tYears (tCopy 16 33 I) 33 N i).2 3 0 0) 143 1 0) 143 0 0) 148 j else (zu (zu (zu (tYears (tCopy 16 33 I) 33 N i).2 3 0 0) 143 1 0) 143 0 0) 149 j)), cpS 16 33 4 12 (cpS 16 33 1 6 J), N, S, hcl.trans hl, ev.trans ?_, h.look hX⟩
        rw [← st_149]
        simp only [e_X12_turn_115, e_X12_turn_117, e_X12_turn_120, e_X12_turn_121, e_X12_turn_123, e_X12_turn_126, e_X12_turn_129, e_X12_turn_131, c_143, oI, if_pos (Int32.not_lt.mp (nI_pos (show i < 2 ^ 31 by omega))), Option.bind_some, Option.isSome_some, Option.toList, List.cons_append, List.nil_append, zclr_i, zclr_r, zclr_n, zfit_i, zfit_l, and_self, if_true, if_false]
  · refine ⟨.int (-1), zu I 3 0 2, J, st 2 I, J, N, S, ?_, ?_, h.stI⟩
    · rw [m_X11_turn]
      simp only [e_X11_turn_0, e_X11_turn_1, e_X11_turn_4, e_X11_turn_5, e_X11_turn_8, e_X11_turn_11, e_X11_turn_12, e_X11_turn_13, e_X11_turn_16, e_X11_turn_17, e_X11_turn_18, e_X11_turn_21, e_X11_turn_24, e_X11_turn_25, e_X11_turn_28, e_X11_turn_29, e_X11_turn_30, e_X11_turn_31, e_X11_turn_34, e_X11_turn_35, e_X11_turn_37, e_X11_turn_40, e_X11_turn_41, e_X11_turn_42, e_X11_turn_45, e_X11_turn_48, e_X11_turn_51, e_X11_turn_52, e_X11_turn_53, e_X11_turn_54, e_X11_turn_55, e_X11_turn_58, e_X11_turn_59, e_X11_turn_62, e_X11_turn_65, e_X11_turn_66, c_3, c_T0 t16, g_3_7, t_hasP_no t16 hW.hN h12 hx, n_refuse, Option.bind_some, Option.isSome_some, Option.toList, List.cons_append, List.nil_append, zclr_i, zclr_r, zclr_n, zfit_i, zfit_l, and_self, if_true, if_false]
    · have hR1 : RT I 16 ((zu (zu (zu I 3 0 2) 143 1 0) 143 0 0) 148) N S := h.R
      rw [m_X12_turn]
      simp only [e_X12_turn_0, e_X12_turn_1, e_X12_turn_2, e_X12_turn_5, e_X12_turn_6, e_X12_turn_7, e_X12_turn_10, e_X12_turn_11, e_X12_turn_12, e_X12_turn_15, e_X12_turn_18, e_X12_turn_19, e_X12_turn_20, e_X12_turn_23, e_X12_turn_24, e_X12_turn_25, e_X12_turn_26, e_X12_turn_29, e_X12_turn_30, e_X12_turn_31, e_X12_turn_34, e_X12_turn_35, e_X12_turn_37, e_X12_turn_40, e_X12_turn_41, e_X12_turn_42, e_X12_turn_45, e_X12_turn_48, e_X12_turn_49, e_X12_turn_50, e_X12_turn_51, e_X12_turn_52, e_X12_turn_53, e_X12_turn_55, e_X12_turn_56, e_X12_turn_59, e_X12_turn_60, c_143, g_143_0, g_143_1, p_143_0, p_143_1, v_isP_no hW hR1 hx, v_refuse, st_eq, Option.bind_some, Option.isSome_some, Option.toList, List.cons_append, List.nil_append, zclr_i, zclr_r, zclr_n, zfit_i, zfit_l, and_self, if_true, if_false]
/-- is a surname gone after t years? -/
def gnC (A : Nat → Nat → Int32) (N s : Nat) (t : Nat) : Bool := decide (sBear (tYears A 33 N t).2 33 (nI s) N = 0)
theorem cg_loop {s : Nat} (hW : WT A 33 N S U) (hU : U + 151 ≤ 9999) (d : Nat) : ∀ f j, j + f = 151 → zexec (d + 4) 186 30 [some (.ref 3), some (.int (nI s)), some (.int (nI j))] [] (mk n m g (tYears A 33 N j).2 J) = match zfind (gnC A N s) some none j f with | some i => some (some (.int (nI i)), mk n m g (zu (tYears A 33 N i).2 3 0 0) J) | none => some (some (.int (-1)), mk n m g (zu (tYears A 33 N 151).2 3 0 8) J) := by
  have h12 := hW.h12
  intro f
  induction f with
  | zero =>
    intro j hj
    have : j = 151 := by omega
    subst this
    rw [e_X11_gone_30]
    simp only [e_X11_gone_31, e_X11_gone_34, e_X11_gone_37, e_X11_gone_38, e_X11_gone_41, e_X11_gone_42, e_X11_gone_45, e_X11_gone_48, e_X11_gone_49, e_X11_gone_50, e_X11_gone_53, e_X11_gone_54, e_X11_gone_55, e_X11_gone_58, e_X11_gone_61, e_X11_gone_62, e_X11_gone_65, e_X11_gone_68, e_X11_gone_69, e_X11_gone_71, e_X11_gone_74, c_3, if_pos (show (150 : Int32) < nI 151 by decide), n_refuse, Option.bind_some, Option.isSome_some, Option.toList, List.cons_append, List.nil_append, zclr_i, zclr_r, zclr_n, zfit_i, zfit_l, and_self, if_true, if_false]
    rfl
  | succ f ih =>
    intro j hj
    have w := hW.tYearsU j (by omega)
    have hlt : ¬ (150 : Int32) < nI j := by
      have : ¬ nI 150 < nI j := by rw [nI_ltq (by decide) (by omega)]; omega
      exact this
    have sb : sSet (fun p => decide ((tYears A 33 N j).2 (33 + 7) p = nI s ∧ (tYears A 33 N j).2 (33 + 6) p = -1)) N = sBear (tYears A 33 N j).2 33 (nI s) N := rfl
    rw [zfind, e_X11_gone_30]
    simp only [e_X11_gone_31, e_X11_gone_34, e_X11_gone_37, e_X11_gone_38, e_X11_gone_41, e_X11_gone_42, e_X11_gone_45, e_X11_gone_48, e_X11_gone_49, e_X11_gone_50, e_X11_gone_53, e_X11_gone_54, e_X11_gone_55, e_X11_gone_58, e_X11_gone_61, e_X11_gone_62, e_X11_gone_65, c_3, c_T0 t33, g_3_8, if_neg hlt, t_bearers t33 w.hN h12, sb, t_passYear t33 h12 w.yWell, ← tYears_s2, n_answer, nI_1, Option.bind_some, Option.isSome_some, Option.toList, List.cons_append, List.nil_append, zclr_i, zclr_r, zclr_n, zfit_i, zfit_l, and_self, if_true, if_false]
    unfold gnC
    by_cases hc : sBear (tYears A 33 N j).2 33 (nI s) N = 0
    · simp [hc]
    · simp only [hc, decide_false, Bool.false_eq_true, if_false, ne_eq, not_false_eq_true, if_true]
      exact ih (j + 1) (by omega)
theorem vg_loop {s : Nat} (hW : WT A 33 N S U) (hU : U + 152 ≤ 9999) (d : Nat) : ∀ f j (c : Nat → Int32), j + f = 151 → RT (tYears A 33 N j).2 33 c N S → ∃ c' t', zexec (d + 5) 362 32 [some (.ref 143), some (.int (nI s)), some (.int (-1)), some (.int (nI j))] [] (mk n m g (zr X 148 c) J) = zexec (d + 5) 362 64 [some (.ref 143), some (.int (nI s)), some (.int (oI (zfind (gnC A N s) some none j f))), some (.int t')] [] (mk n m g (zr X 148 c') J) ∧ ∀ i, 234 ≤ i → c' i = c i := by
  have h12 := hW.h12
  intro f
  induction f with
  | zero =>
    intro j c hj hR
    have : j = 151 := by omega
    subst this
    refine ⟨c, nI 151, ?_, fun _ _ => rfl⟩
    rw [e_X12_gone_32]
    simp only [e_X12_gone_33, e_X12_gone_36, e_X12_gone_39, e_X12_gone_40, if_pos (show (150 : Int32) < nI 151 by decide), Option.bind_some, Option.isSome_some, Option.toList, List.cons_append, List.nil_append, zclr_i, zclr_r, zclr_n, zfit_i, zfit_l, and_self, if_true, if_false]
    rfl
  | succ f ih =>
    intro j c hj hR
    have w := hW.tYearsU j (by omega)
    have hlt : ¬ (150 : Int32) < nI j := by
      have : ¬ nI 150 < nI j := by rw [nI_ltq (by decide) (by omega)]; omega
      exact this
    have hR0 : RT (tYears A 33 N j).2 33 (zr X 148 c 148) N S := by rw [zr_same]; exact hR
    obtain ⟨c1, f1, e1, _, r1, fr1⟩ := v_goesYear (n := n) (m := m) (g := g) (J := J) (I := zr X 148 c) w (by omega) hR0 d
    rw [zr_zr] at e1
    rw [zr_same] at fr1
    rw [← tYears_s2] at r1
    have hstep : zexec (d + 5) 362 32 [some (.ref 143), some (.int (nI s)), some (.int (-1)), some (.int (nI j))] [] (mk n m g (zr X 148 c) J) = zexec (d + 5) 362 32 [some (.ref 143), some (.int (nI s)), some (.int (if gnC A N s j = true then nI j else -1)), some (.int (nI (j + 1)))] [] (mk n m g (zr X 148 c1) J) := by
      rw [e_X12_gone_32]
      simp only [e_X12_gone_33, e_X12_gone_36, e_X12_gone_39, e_X12_gone_40, e_X12_gone_43, e_X12_gone_44, e_X12_gone_45, e_X12_gone_48, e_X12_gone_51, e_X12_gone_52, e_X12_gone_53, e_X12_gone_54, e_X12_gone_57, e_X12_gone_58, e_X12_gone_61, c_143, if_neg hlt, if_neg (show ¬ (0 : Int32) ≤ -1 by decide), v_bearers w hR0, e1, nI_1, Option.bind_some, Option.isSome_some, Option.toList, List.cons_append, List.nil_append, zclr_i, zclr_r, zclr_n, zfit_i, zfit_l, and_self, if_true, if_false]
      unfold gnC
      by_cases h1 : sBear (tYears A 33 N j).2 33 (nI s) N = 0 <;> simp [h1]
    rw [zfind]
    cases hc : gnC A N s j
    · obtain ⟨c', t', e2, f2⟩ := ih (j + 1) c1 (by omega) r1
      simp only [hc, Bool.false_eq_true, if_false] at hstep
      refine ⟨c', t', hstep.trans ?_, fun i hi => by rw [f2 i hi, fr1 i hi]⟩
      simp only [Bool.false_eq_true, if_false]
      exact e2
    · simp only [hc, if_true] at hstep
      refine ⟨c1, nI (j + 1), hstep.trans ?_, fr1⟩
      simp only [if_true]
      rw [e_X12_gone_32]
      by_cases h9 : (150 : Int32) < nI (j + 1)
      · simp only [e_X12_gone_33, e_X12_gone_36, e_X12_gone_39, e_X12_gone_40, if_pos h9, Option.bind_some, Option.isSome_some, Option.toList, List.cons_append, List.nil_append, zclr_i, zclr_r, zclr_n, zfit_i, zfit_l, and_self, if_true, if_false]
        rfl
      · simp only [e_X12_gone_33, e_X12_gone_36, e_X12_gone_39, e_X12_gone_40, if_neg h9, if_pos (Int32.not_lt.mp (nI_pos (show j < 2 ^ 31 by omega))), Option.bind_some, Option.isSome_some, Option.toList, List.cons_append, List.nil_append, zclr_i, zclr_r, zclr_n, zfit_i, zfit_l, and_self, if_true, if_false]
        rfl
theorem q_gone {x : Int32} (h : Inv I J N S) (d : Nat) : Eqv (d + 30) 186 362 [.int x] n m g I J := by
  have hW := h.W
  have h12 := hW.h12
  have h6 := hW.h6
  have wA : WT (tCopy 16 33 I) 33 N S 2999 := hW.copy ap
  have rA : RT (tCopy 16 33 I) 33 (I 148) N S := h.R.copy hW ap
  rcases p_cases x S with ⟨s, hs, rfl⟩ | hx
  · have hcl : zcall (d + 30) 186 [.ref 3, .int (nI s)] (mk n m g I J) = zexec (d + 30) 186 30 [some (.ref 3), some (.int (nI s)), some (.int (nI 0))] [] (mk n m g (tCopy 16 33 I) (cpS 16 33 4 12 (cpS 16 33 1 6 J))) := by
      rw [m_X11_gone]
      simp only [e_X11_gone_0, e_X11_gone_1, e_X11_gone_4, e_X11_gone_5, e_X11_gone_8, e_X11_gone_11, e_X11_gone_12, e_X11_gone_13, e_X11_gone_16, e_X11_gone_17, e_X11_gone_18, e_X11_gone_21, e_X11_gone_22, e_X11_gone_25, e_X11_gone_28, e_X11_gone_29, c_3, c_T0 t16, c_T0 t33, g_3_7, g_3_8, t_hasS_yes t16 hW.hS h6 hs, t_copyFrom t16 t33, Option.bind_some, Option.isSome_some, Option.toList, List.cons_append, List.nil_append, zclr_i, zclr_r, zclr_n, zfit_i, zfit_l, and_self, if_true, if_false] <;> first | rfl | simp
    have hl := cg_loop (n := n) (m := m) (g := g) (J := cpS 16 33 4 12 (cpS 16 33 1 6 J)) (s := s) wA (by omega) (d + 26) 151 0 (by omega)
    have hv : ∀ (T : Nat → Nat → Int32) (w : Int32), (∀ a, (∀ i, i < 17 → a ≠ 33 + i) → T a = I a) → ∃ t', zcall (d + 30) 362 [.ref 143, .int (nI s)] (mk n m g (zu T 3 0 w) (cpS 16 33 4 12 (cpS 16 33 1 6 J))) = zexec (d + 30) 362 68 [some (.ref 143), some (.int (nI s)), some (.int (oI (zfind (gnC (tCopy 16 33 I) N s) some none 0 151))), some (.int t')] [] (mk n m g (zr (zu (zu (zu T 3 0 w) 143 1 0) 143 0 0) 149 (fun j => if j < 234 then (zu (zu (zu T 3 0 w) 143 1 0) 143 0 0) 148 j else (zu (zu (zu T 3 0 w) 143 1 0) 143 0 0) 149 j)) (cpS 16 33 4 12 (cpS 16 33 1 6 J))) := by
      intro T w hT
      have h148 : (zu (zu (zu T 3 0 w) 143 1 0) 143 0 0) 148 = I 148 := by
        show T 148 = I 148
        exact hT 148 (fun i _ => by omega)
      have hR1 : RT I 16 ((zu (zu (zu T 3 0 w) 143 1 0) 143 0 0) 148) N S := by rw [h148]; exact h.R
      obtain ⟨c', t', e4, f4⟩ := vg_loop (n := n) (m := m) (g := g) (X := zr (zu (zu (zu T 3 0 w) 143 1 0) 143 0 0) 149 (fun j => if j < 234 then (zu (zu (zu T 3 0 w) 143 1 0) 143 0 0) 148 j else (zu (zu (zu T 3 0 w) 143 1 0) 143 0 0) 149 j)) (J := cpS 16 33 4 12 (cpS 16 33 1 6 J)) (s := s) wA (by omega) (d + 25) 151 0 ((zu (zu (zu T 3 0 w) 143 1 0) 143 0 0) 148) (by omega) (by rw [h148]; exact rA)
      rw [zr_back] at e4
      have hg := give_back (n := n) (m := m) (g := g) (J := cpS 16 33 4 12 (cpS 16 33 1 6 J)) (M := (zu (zu (zu T 3 0 w) 143 1 0) 143 0 0)) (c' := c') f4 (d + 29)
      refine ⟨t', ?_⟩
      have hst : zcall (d + 30) 362 [.ref 143, .int (nI s)] (mk n m g (zu T 3 0 w) (cpS 16 33 4 12 (cpS 16 33 1 6 J))) = zexec (d + 30) 362 32 [some (.ref 143), some (.int (nI s)), some (.int (-1)), some (.int (nI 0))] [] (mk n m g (zr (zu (zu (zu T 3 0 w) 143 1 0) 143 0 0) 149 (fun j => if j < 234 then (zu (zu (zu T 3 0 w) 143 1 0) 143 0 0) 148 j else (zu (zu (zu T 3 0 w) 143 1 0) 143 0 0) 149 j)) (cpS 16 33 4 12 (cpS 16 33 1 6 J))) := by
        rw [m_X12_gone]
        simp only [e_X12_gone_0, e_X12_gone_1, e_X12_gone_2, e_X12_gone_5, e_X12_gone_6, e_X12_gone_7, e_X12_gone_10, e_X12_gone_11, e_X12_gone_12, e_X12_gone_15, e_X12_gone_18, e_X12_gone_19, e_X12_gone_20, e_X12_gone_23, e_X12_gone_24, e_X12_gone_25, e_X12_gone_26, e_X12_gone_27, e_X12_gone_30, e_X12_gone_31, c_143, g_143_0, g_143_1, p_143_0, p_143_1, v_isS_yes hW hR1 hs, v_keeps, Option.bind_some, Option.isSome_some, Option.toList, List.cons_append, List.nil_append, zclr_i, zclr_r, zclr_n, zfit_i, zfit_l, and_self, if_true, if_false]
        rfl
      refine hst.trans (e4.trans ?_)
      simp only [e_X12_gone_64, e_X12_gone_65, c_143, hg, Option.bind_some, Option.isSome_some, Option.toList, List.cons_append, List.nil_append, zclr_i, zclr_r, zclr_n, zfit_i, zfit_l, and_self, if_true, if_false]
    cases hz : zfind (gnC (tCopy 16 33 I) N s) some none 0 151 with
    | none =>
      rw [hz] at hl
      have hX : ∀ a, (∀ i, i < 17 → a ≠ 33 + i) → (tYears (tCopy 16 33 I) 33 N 151).2 a = I a := fun a ha => by rw [tYears_out ha, tCopy_far ha]
      obtain ⟨t', ev⟩ := hv (tYears (tCopy 16 33 I) 33 N 151).2 8 hX
      rw [hz] at ev
      refine ⟨.int (-1), zu (tYears (tCopy 16 33 I) 33 N 151).2 3 0 8, cpS 16 33 4 12 (cpS 16 33 1 6 J), st 8 (zr (tYears (tCopy 16 33 I) 33 N 151).2 149 (fun j => if j < 234 then (zu (zu (zu (tYears (tCopy 16 33 I) 33 N 151).2 3 0 8) 143 1 0) 143 0 0) 148 j else (zu (zu (zu (tYears (tCopy 16 33 I) 33 N 151).2 3 0 8) 143 1 0) 143 0 0) 149 j)), cpS 16 33 4 12 (cpS 16 33 1 6 J), N, S, hcl.trans hl, ev.trans ?_, h.look hX⟩
      rw [← st_149b]
      simp only [e_X12_gone_68, e_X12_gone_69, e_X12_gone_72, e_X12_gone_73, e_X12_gone_75, e_X12_gone_78, e_X12_gone_81, e_X12_gone_82, c_143, oI, v_refuse, Option.bind_some, Option.isSome_some, Option.toList, List.cons_append, List.nil_append, zclr_i, zclr_r, zclr_n, zfit_i, zfit_l, and_self, if_true, if_false]
      rfl
    | some i =>
      have hi := (zfind_some _ _ hz).2.1
      rw [hz] at hl
      have hX : ∀ a, (∀ i, i < 17 → a ≠ 33 + i) → (tYears (tCopy 16 33 I) 33 N i).2 a = I a := fun a ha => by rw [tYears_out ha, tCopy_far ha]
      obtain ⟨t', ev⟩ := hv (tYears (tCopy 16 33 I) 33 N i).2 0 hX
      rw [hz] at ev
      refine ⟨.int (nI i), zu (tYears (tCopy 16 33 I) 33 N i).2 3 0 0, cpS 16 33 4 12 (cpS 16 33 1 6 J), st 0 (zr (tYears (tCopy 16 33 I) 33 N i).2 149 (fun j => if j < 234 then (zu (zu (zu (tYears (tCopy 16 33 I) 33 N i).2 3 0 0) 143 1 0) 143 0 0) 148 j else (zu (zu (zu (tYears (tCopy 16 33 I) 33 N i).2 3 0 0) 143 1 0) 143 0 0) 149 j)), cpS 16 33 4 12 (cpS 16 33 1 6 J), N, S, hcl.trans hl, ev.trans ?_, h.look hX⟩
      rw [← st_149]
      simp only [e_X12_gone_68, e_X12_gone_69, e_X12_gone_72, e_X12_gone_73, e_X12_gone_75, e_X12_gone_78, e_X12_gone_81, e_X12_gone_82, c_143, oI, if_pos (Int32.not_lt.mp (nI_pos (show i < 2 ^ 31 by omega))), Option.bind_some, Option.isSome_some, Option.toList, List.cons_append, List.nil_append, zclr_i, zclr_r, zclr_n, zfit_i, zfit_l, and_self, if_true, if_false]
  · refine ⟨.int (-1), zu I 3 0 2, J, st 2 I, J, N, S, ?_, ?_, h.stI⟩
    · rw [m_X11_gone]
      simp only [e_X11_gone_0, e_X11_gone_1, e_X11_gone_4, e_X11_gone_5, e_X11_gone_8, e_X11_gone_11, e_X11_gone_12, e_X11_gone_13, e_X11_gone_16, e_X11_gone_17, e_X11_gone_18, e_X11_gone_21, e_X11_gone_22, e_X11_gone_25, e_X11_gone_28, e_X11_gone_29, c_3, c_T0 t16, g_3_7, t_hasS_no t16 hW.hS h6 hx, n_refuse, Option.bind_some, Option.isSome_some, Option.toList, List.cons_append, List.nil_append, zclr_i, zclr_r, zclr_n, zfit_i, zfit_l, and_self, if_true, if_false]
    · have hR1 : RT I 16 ((zu (zu (zu I 3 0 2) 143 1 0) 143 0 0) 148) N S := h.R
      rw [m_X12_gone]
      simp only [e_X12_gone_0, e_X12_gone_1, e_X12_gone_2, e_X12_gone_5, e_X12_gone_6, e_X12_gone_7, e_X12_gone_10, e_X12_gone_11, e_X12_gone_12, e_X12_gone_15, e_X12_gone_18, e_X12_gone_19, e_X12_gone_20, e_X12_gone_23, e_X12_gone_24, e_X12_gone_25, e_X12_gone_26, e_X12_gone_27, e_X12_gone_30, e_X12_gone_31, c_143, g_143_0, g_143_1, p_143_0, p_143_1, v_isS_no hW hR1 hx, v_refuse, st_eq, Option.bind_some, Option.isSome_some, Option.toList, List.cons_append, List.nil_append, zclr_i, zclr_r, zclr_n, zfit_i, zfit_l, and_self, if_true, if_false]
end RI2
