/-! RECOUNT: both -/
section RE
variable {n m : Nat} {g : Nat → zC} {I X Y A : Nat → Nat → Int32} {J : Nat → Nat → Int64} {N S U b : Nat}
theorem j_fill33 {x : Int32} (d : Nat) : zcall d 421 [.ref (33 + 7), .int x] (mk n m g I J) = some (none, mk n m g (zr I (33 + 7) (fun j => if j < 12 then x else I (33 + 7) j)) J) := by
  rw [m_J7_fill_53178]
  simp only [e_J7_fill_53178_0, e_J7_fill_53178_1, e_J7_fill_53178_2, e_J7_fill_53178_3, e_J7_fill_53178_4, e_J7_fill_53178_6, e_J7_fill_53178_7, e_J7_fill_53178_10, e_J7_fill_53178_11, e_J7_fill_53178_12, e_J7_fill_53178_13, e_J7_fill_53178_14, e_J7_fill_53178_17, e_J7_fill_53178_20, n_T7 t33, Option.bind_some, Option.isSome_some, Option.toList, List.cons_append, List.nil_append, zclr_i, zclr_r, zclr_n, zfit_i, zfit_l, and_self, if_true, if_false]
  refine (zloop (fun p (a : Nat → Nat → Int32) => zexec d 421 5 [some (.ref (33 + 7)), some (.int x), some (.int (nI p)), some (.int (nI 12))] [] (mk n m g a J)) (fun p a => zu a (33 + 7) p x) 12 ?_ 12 0 I (by omega)).trans ?_
  · intro p a hp
    rw [e_J7_fill_53178_5]
    simp only [e_J7_fill_53178_0, e_J7_fill_53178_1, e_J7_fill_53178_2, e_J7_fill_53178_3, e_J7_fill_53178_4, e_J7_fill_53178_6, e_J7_fill_53178_7, e_J7_fill_53178_10, e_J7_fill_53178_11, e_J7_fill_53178_12, e_J7_fill_53178_13, e_J7_fill_53178_14, e_J7_fill_53178_17, e_J7_fill_53178_20, if_neg (nI_ge hp (by omega : 12 < 2 ^ 31)), nI_neg (show p < 2 ^ 31 by omega), nI_clamp (show p < 2 ^ 31 by omega), k_T7 t33 hp, q_T7 t33, nI_1, Option.bind_some, Option.isSome_some, Option.toList, List.cons_append, List.nil_append, zclr_i, zclr_r, zclr_n, zfit_i, zfit_l, and_self, if_true, if_false]
  · rw [e_J7_fill_53178_5, zu_fill]
    simp only [e_J7_fill_53178_0, e_J7_fill_53178_1, e_J7_fill_53178_2, e_J7_fill_53178_3, e_J7_fill_53178_4, e_J7_fill_53178_6, e_J7_fill_53178_7, e_J7_fill_53178_10, e_J7_fill_53178_11, e_J7_fill_53178_12, e_J7_fill_53178_13, e_J7_fill_53178_14, e_J7_fill_53178_17, e_J7_fill_53178_20, if_pos (nI_le (Nat.le_refl 12) (by omega : 12 < 2 ^ 31)), Option.bind_some, Option.isSome_some, Option.toList, List.cons_append, List.nil_append, zclr_i, zclr_r, zclr_n, zfit_i, zfit_l, and_self, if_true, if_false]
    congr 3
    funext j
    simp
/-- the draft as the class begins -/
def rcD (M : Nat) (I : Nat → Nat → Int32) : Nat → Nat → Int32 := zr (zu (tCopy 16 33 I) 33 1 (nI M)) (33 + 7) (fun j => if j < 12 then -1 else zu (tCopy 16 33 I) 33 1 (nI M) (33 + 7) j)
theorem rcD_out {M a : Nat} (h : ∀ i, i < 17 → a ≠ 33 + i) : rcD M I a = I a := by
  unfold rcD
  rw [zr_far _ _ (h 7 (by decide)), zu_far _ _ _ (h 0 (by decide)), tCopy_far h]
theorem rcD_drf {M : Nat} (hW : WT I 16 N S U) : drf (rcD M I) I N M (fun _ => -1) := by
  have h12 := hW.h12
  refine ⟨fun i hi => rcD_out (fun j hj => by omega), ?_, ?_, fun p hp => ?_, fun p hp => ?_, fun p hp => ?_⟩
  · unfold rcD
    rw [zr_far _ _ (by decide), zu_row, if_pos rfl]
  · unfold rcD
    rw [zr_far _ _ (by decide), zu_row, if_neg (by decide), tCopy_0 ap (by decide)]
    exact hW.hN
  · unfold rcD
    rw [zr_far _ _ (by decide), zu_far _ _ _ (by decide), tCopy_6 ap, cpR_lt (by omega)]
  · unfold rcD
    rw [zr_far _ _ (by decide), zu_far _ _ _ (by decide), tCopy_5 ap, cpR_lt (by omega)]
  · unfold rcD
    rw [zr_same]
    simp [hp]
theorem Inv.recount {x : Nat → Int32} (h : Inv I J N S) (hX : ∀ a, (∀ i, i < 17 → a ≠ 33 + i) → X a = I a) (hY : ∀ a, a ≠ 156 → Y a = ((zu (zu (zu X 3 0 0) 143 1 0) 143 0 0)) a) : Inv Y (cpS 16 33 4 12 (cpS 16 33 1 6 J)) N S := by
  have hk : ∀ a, keepT a = true → ∀ i, i < 17 → a ≠ 33 + i := by
    intro a ha i hi
    unfold keepT keepI at ha
    simp at ha
    omega
  have h3 : X 3 = I 3 := hX 3 (fun i _ => by omega)
  have h143 : X 143 = I 143 := hX 143 (fun i _ => by omega)
  refine h.same ?_ (fun a ha => ?_) (fun k hk => ?_) (fun k hk => ?_) ?_ (fun a ha => ?_)
  · rw [hY 3 (by decide), hY 143 (by decide)]
    simp [zu_row, zu_far]
  · rw [hY a (keepT_ne ha rfl), zu_far _ _ _ (keepT_ne ha rfl), zu_far _ _ _ (keepT_ne ha rfl), zu_far _ _ _ (keepT_ne ha rfl)]
    exact hX a (hk a ha)
  · rw [hY 3 (by decide), zu_far _ _ _ (by decide), zu_far _ _ _ (by decide), zu_row, if_neg hk, h3]
  · rw [hY 143 (by decide), zu_row, zu_row, if_neg (by omega), if_neg (by omega), zu_far _ _ _ (by decide), h143]
  · have := h.pt
    unfold pointOk at *
    rw [hY 71 (by decide), zu_far _ _ _ (by decide), zu_far _ _ _ (by decide), zu_far _ _ _ (by decide), hX 71 (fun i _ => by omega)]
    exact this
  · unfold cpS
    rw [zr_far _ _ (keepU_ne ha rfl), zr_far _ _ (keepU_ne ha rfl)]
theorem cnt_none {f : Nat → Bool} (h : ∀ q, q < 12 → f q = false) : cnt f 12 = 0 := by
  rw [cnt_congr (f' := fun _ => false) h]
  rfl
theorem q_recount {x : Int32} (h : Inv I J N S) (d : Nat) : Eqv (d + 30) 209 393 [.int x] n m g I J := by
  have hW := h.W
  have h12 := hW.h12
  have h6 := hW.h6
  by_cases hin : 1 ≤ x ∧ x ≤ 9
  · obtain ⟨M, hk1, hk9, rfl⟩ := range_nI (lo := 1) (hi := 9) (by decide) (by decide) hin
    have hd := rcD_drf (M := M) hW
    obtain ⟨r, hr, er, hb⟩ := isS_tLiv (I := rcD M I) (b := 33) h12
    have hb2 : ∀ p, r.testBit p = (decide (p < N) && decide (I (16 + 6) p = -1)) := by
      intro p
      rw [hb]
      by_cases c : p < N
      · simp [c, hd.2.2.2.1 p c]
      · simp [c]
    have hrN : ∀ q, r.testBit q = true → q < N := fun q hq => by
      rw [hb2] at hq
      simp at hq
      exact hq.1
    have er2 : sLiv I 16 N = nI r := by
      rw [← er]
      exact isS_eq (isS_liv (A := I) (b := 16) h12) (isS_tLiv (I := rcD M I) (b := 33) h12) (fun p _ => by rw [← hb2, hb])
    obtain ⟨v, X', k', y', e1, e2, e3⟩ := rc_class (n := n) (m := m) (g := g) (J := cpS 16 33 4 12 (cpS 16 33 1 6 J)) (M := M) hW (by omega) (d + 27) 12 0 r (fun _ => -1) (rcD M I) none rfl hr hrN hd
    have hX : ∀ a, (∀ i, i < 17 → a ≠ 33 + i) → X' a = I a := fun a ha => by rw [e3 a (ha 7 (by decide)), rcD_out ha]
    have hds : jbc (sSet (fun p => decide (X' (33 + 7) p = -1 ∧ X' (33 + 6) p = -1)) N) = nI (dsh I N 0 (rcn I N M 12 r (fun _ => -1))) := by
      rw [isS_jbc (isS_sSet _ h12)]
      unfold dsh
      congr 1
      refine cnt_congr (fun q hq => ?_)
      by_cases c : q < N
      · rw [e2.2.2.2.1 q c, e2.2.2.2.2.2 q hq]
        by_cases c1 : I (16 + 6) q = -1 <;> by_cases c2 : rcn I N M 12 r (fun _ => -1) q = -1 <;> simp [c, c1, c2]
      · simp [c]
    have hX148 : X' 148 = I 148 := hX 148 (fun i _ => by omega)
    have hR1 : RT I 16 (zr ((zu (zu (zu X' 3 0 0) 143 1 0) 143 0 0)) 156 (fun j => if j < 6 then 0 else ((zu (zu (zu X' 3 0 0) 143 1 0) 143 0 0)) 156 j) 148) N S := by
      rw [zr_far _ _ (by decide)]
      show RT I 16 (X' 148) N S
      rw [hX148]
      exact h.R
    have hd0 : dsh I N r (fun _ => -1) = 0 := cnt_none (fun q _ => by
      rw [hb2]
      by_cases c : q < N <;> by_cases c1 : I (16 + 6) q = -1 <;> simp [c, c1])
    obtain ⟨Y, i1, i2⟩ := rc_ref (n := n) (m := m) (g := g) (J := cpS 16 33 4 12 (cpS 16 33 1 6 J)) (M := M) (x1 := 0) hW (by omega) (d + 29) 12 r (fun _ => -1) (zr ((zu (zu (zu X' 3 0 0) 143 1 0) 143 0 0)) 156 (fun j => if j < 6 then 0 else ((zu (zu (zu X' 3 0 0) 143 1 0) 143 0 0)) 156 j)) none none hR1 (fun s hs => by
      rw [zr_same, if_pos (show s < 6 by omega)]
      have : cc I N (fun _ => -1) (nI s) = 0 := cnt_none (fun q _ => by
        have h1 : ¬ (-1 : Int32) = nI s := fun h => nI_m1 (show s < 2 ^ 31 by omega) h.symm
        simp [h1])
      rw [this]
      rfl) hr (fun q hq => ⟨hrN q hq, by
        rw [hb2] at hq
        simp at hq
        exact hq.2, rfl⟩) (by
        have := cnt_le r.testBit 12 0 0
        rw [Nat.zero_add] at this
        exact this)
    rw [hd0] at i1
    refine ⟨.int (nI (dsh I N 0 (rcn I N M 12 r (fun _ => -1)))), zu X' 3 0 0, cpS 16 33 4 12 (cpS 16 33 1 6 J), Y, cpS 16 33 4 12 (cpS 16 33 1 6 J), N, S, ?_, ?_, h.recount (x := fun _ => 0) hX (fun a ha => by rw [i2 a ha, zr_far _ _ ha])⟩
    · have hcp := t_copyFrom (n := n) (m := m) (g := g) (I := I) (J := J) t16 t33 (d + 28)
      have hli := t_living (n := n) (m := m) (g := g) (J := cpS 16 33 4 12 (cpS 16 33 1 6 J)) (I := rcD M I) t33 hd.2.2.1 h12 (d + 28)
      rw [show (1 <<< (nI N &&& 31) - 1) &&& (sSet (fun p => decide (rcD M I (33 + 6) p ≠ -1)) N ^^^ -1) = nI r from er] at hli
      have hfi : zcall (d + 29) 421 [.ref (33 + 7), .int (-1)] (mk n m g (zu (tCopy 16 33 I) 33 1 (nI M)) (cpS 16 33 4 12 (cpS 16 33 1 6 J))) = some (none, mk n m g (rcD M I) (cpS 16 33 4 12 (cpS 16 33 1 6 J))) := j_fill33 _
      have hda := t_dashes (n := n) (m := m) (g := g) (J := cpS 16 33 4 12 (cpS 16 33 1 6 J)) (I := X') t33 e2.2.2.1 h12 (d + 28)
      have hend : zexec (d + 30) 209 104 [some (.ref 3), some (.int (nI M)), some (.int v), some (.int k'), y'.map Value.int] [] (mk n m g X' (cpS 16 33 4 12 (cpS 16 33 1 6 J))) = some (some (.int (nI (dsh I N 0 (rcn I N M 12 r (fun _ => -1))))), mk n m g (zu X' 3 0 0) (cpS 16 33 4 12 (cpS 16 33 1 6 J))) := by
        simp only [e_X11_recount_104, e_X11_recount_105, e_X11_recount_106, e_X11_recount_109, e_X11_recount_112, e_X11_recount_115, e_X11_recount_118, c_3, c_T0 t33, g_3_8, hda, j_bitCount, hds, n_answer, Option.bind_some, Option.isSome_some, Option.toList, List.cons_append, List.nil_append, zclr_i, zclr_r, zclr_n, zfit_i, zfit_l, and_self, if_true, if_false]
      rw [m_X11_recount]
      simp only [e_X11_recount_0, e_X11_recount_1, e_X11_recount_4, e_X11_recount_7, e_X11_recount_8, e_X11_recount_9, e_X11_recount_12, e_X11_recount_13, e_X11_recount_14, e_X11_recount_17, e_X11_recount_18, e_X11_recount_21, e_X11_recount_24, e_X11_recount_25, e_X11_recount_28, e_X11_recount_29, e_X11_recount_32, e_X11_recount_33, e_X11_recount_36, e_X11_recount_39, e_X11_recount_40, e_X11_recount_43, e_X11_recount_44, e_X11_recount_47, e_X11_recount_50, e_X11_recount_51, e_X11_recount_52, c_3, c_T0 t33, c_T0 t16, g_3_7, g_3_8, g_T0_12 t33, p_T0_1 t33, n_isMost, hin, decide_true, bI, show ((1 : Int32) = 0) = False by decide, ne_eq, not_false_eq_true, hcp, hfi, hli, Option.bind_some, Option.isSome_some, Option.toList, List.cons_append, List.nil_append, zclr_i, zclr_r, zclr_n, zfit_i, zfit_l, and_self, if_true, if_false]
      exact e1.trans hend
    · have hl : zexec (d + 30) 393 30 [some (.ref 143), some (.int (nI M)), some (.int (nI 0)), none, none, none] [] (mk n m g ((zu (zu (zu X' 3 0 0) 143 1 0) 143 0 0)) (cpS 16 33 4 12 (cpS 16 33 1 6 J))) = zexec (d + 30) 393 49 [some (.ref 143), some (.int (nI M)), some (.int (nI 6)), none, none, none] [] (mk n m g (zr ((zu (zu (zu X' 3 0 0) 143 1 0) 143 0 0)) 156 (fun j => if j < 6 then 0 else ((zu (zu (zu X' 3 0 0) 143 1 0) 143 0 0)) 156 j)) (cpS 16 33 4 12 (cpS 16 33 1 6 J))) := by
        refine (zloop (fun p (a : Nat → Nat → Int32) => zexec (d + 30) 393 30 [some (.ref 143), some (.int (nI M)), some (.int (nI p)), none, none, none] [] (mk n m g a (cpS 16 33 4 12 (cpS 16 33 1 6 J)))) (fun p a => zu a 156 p 0) 6 ?_ 6 0 _ (by omega)).trans ?_
        · intro p a hp
          rw [e_X12_recount_30]
          simp only [e_X12_recount_31, e_X12_recount_33, e_X12_recount_36, e_X12_recount_37, e_X12_recount_40, e_X12_recount_41, e_X12_recount_42, e_X12_recount_43, e_X12_recount_46, g_143_32, if_neg (show ¬ (6 : Int32) ≤ nI p from nI_ge (b := 6) hp (by decide)), nI_neg (show p < 2 ^ 31 by omega), nI_clamp (show p < 2 ^ 31 by omega), k_156 hp, q_156, nI_1, Option.bind_some, Option.isSome_some, Option.toList, List.cons_append, List.nil_append, zclr_i, zclr_r, zclr_n, zfit_i, zfit_l, and_self, if_true, if_false]
        · rw [e_X12_recount_30, zu_fill]
          simp only [e_X12_recount_31, e_X12_recount_33, if_pos (show (6 : Int32) ≤ nI 6 by decide), Option.bind_some, Option.isSome_some, Option.toList, List.cons_append, List.nil_append, zclr_i, zclr_r, zclr_n, zfit_i, zfit_l, and_self, if_true, if_false]
          congr 3
          funext j
          simp
      have hli := v_living (n := n) (m := m) (g := g) (J := cpS 16 33 4 12 (cpS 16 33 1 6 J)) hW hR1 (d + 28)
      rw [er2] at hli
      rw [m_X12_recount]
      simp only [e_X12_recount_0, e_X12_recount_1, e_X12_recount_2, e_X12_recount_5, e_X12_recount_6, e_X12_recount_7, e_X12_recount_10, e_X12_recount_11, e_X12_recount_12, e_X12_recount_13, e_X12_recount_16, e_X12_recount_19, e_X12_recount_22, e_X12_recount_23, e_X12_recount_24, e_X12_recount_27, e_X12_recount_28, e_X12_recount_29, c_143, g_143_0, g_143_1, p_143_0, p_143_1, v_isIn (nI M) 1 9 1 9 rfl rfl, hin, decide_true, bI, show ((1 : Int32) = 0) = False by decide, ne_eq, not_false_eq_true, Option.bind_some, Option.isSome_some, Option.toList, List.cons_append, List.nil_append, zclr_i, zclr_r, zclr_n, zfit_i, zfit_l, and_self, if_true, if_false]
      refine hl.trans ?_
      simp only [e_X12_recount_49, e_X12_recount_50, e_X12_recount_51, e_X12_recount_52, e_X12_recount_55, c_143, hli, Option.bind_some, Option.isSome_some, Option.toList, List.cons_append, List.nil_append, zclr_i, zclr_r, zclr_n, zfit_i, zfit_l, and_self, if_true, if_false]
      exact i1
  · refine ⟨.int (-1), zu I 3 0 5, J, st 5 I, J, N, S, ?_, ?_, h.stI⟩
    · rw [m_X11_recount]
      simp only [e_X11_recount_0, e_X11_recount_1, e_X11_recount_4, e_X11_recount_7, e_X11_recount_8, e_X11_recount_9, e_X11_recount_12, c_3, n_isMost, hin, decide_false, bI, n_refuse, Option.bind_some, Option.isSome_some, Option.toList, List.cons_append, List.nil_append, zclr_i, zclr_r, zclr_n, zfit_i, zfit_l, and_self, if_true, if_false] <;> first | rfl | simp
    · rw [m_X12_recount]
      simp only [e_X12_recount_0, e_X12_recount_1, e_X12_recount_2, e_X12_recount_5, e_X12_recount_6, e_X12_recount_7, e_X12_recount_10, e_X12_recount_11, e_X12_recount_12, e_X12_recount_13, e_X12_recount_16, e_X12_recount_19, e_X12_recount_22, e_X12_recount_23, e_X12_recount_24, e_X12_recount_27, c_143, g_143_0, g_143_1, p_143_0, p_143_1, v_refuse, st_eq, v_isIn x 1 9 1 9 rfl rfl, hin, decide_false, bI, Option.bind_some, Option.isSome_some, Option.toList, List.cons_append, List.nil_append, zclr_i, zclr_r, zclr_n, zfit_i, zfit_l, and_self, if_true, if_false] <;> first | rfl | simp
end RE
