/-! CALLS: back -/
section RF2
variable {n m : Nat} {g : Nat → zC} {I I2 A A' : Nat → Nat → Int32} {J J2 : Nat → Nat → Int64} {N S N2 S2 U b s s2 : Nat} {c c' : Nat → Int32}
theorem q_back (h : Inv I J N S) (d : Nat) : Eqv (d + 30) 214 409 [] n m g I J := by
  have hW := h.W
  obtain ⟨K1, hK, e3, e143, hm⟩ := h.marks
  rcases Nat.eq_zero_or_pos K1 with rfl | hpos
  · refine ⟨.int (-1), zu I 3 0 8, J, st 8 I, J, N, S, ?_, ?_, h.stI⟩
    · rw [m_X11_back]
      simp only [e_X11_back_0, e_X11_back_1, e_X11_back_4, e_X11_back_7, e_X11_back_8, e_X11_back_10, e_X11_back_13, e_X11_back_14, e_X11_back_15, e_X11_back_16, e_X11_back_19, e_X11_back_20, e_X11_back_21, e_X11_back_24, e_X11_back_25, e_X11_back_28, e_X11_back_29, e_X11_back_32, e_X11_back_33, e_X11_back_36, e_X11_back_37, e_X11_back_40, e_X11_back_41, e_X11_back_44, e_X11_back_45, e_X11_back_48, e_X11_back_49, e_X11_back_52, e_X11_back_53, e_X11_back_56, e_X11_back_57, e_X11_back_58, e_X11_back_61, e_X11_back_64, c_3, g_3_17, e3, if_neg (show ¬ (0 : Int32) < nI 0 by decide), n_refuse, Option.bind_some, Option.isSome_some, Option.toList, List.cons_append, List.nil_append, zclr_i, zclr_r, zclr_n, zfit_i, zfit_l, and_self, if_true, if_false]
    · have c24 : (zu (zu (zu I 3 0 8) 143 1 0) 143 0 0) 143 24 = nI 0 := e143
      rw [m_X12_back]
      simp only [e_X12_back_0, e_X12_back_1, e_X12_back_2, e_X12_back_5, e_X12_back_6, e_X12_back_7, e_X12_back_10, e_X12_back_11, e_X12_back_14, e_X12_back_17, e_X12_back_18, e_X12_back_20, e_X12_back_23, e_X12_back_24, e_X12_back_25, e_X12_back_26, e_X12_back_29, e_X12_back_30, e_X12_back_33, e_X12_back_34, e_X12_back_35, e_X12_back_38, e_X12_back_39, e_X12_back_40, e_X12_back_43, e_X12_back_44, e_X12_back_47, c_143, g_143_0, g_143_1, g_143_24, p_143_0, p_143_1, c24, show (nI 0 = (0 : Int32)) = True by decide, ne_eq, not_true, v_refuse, st_eq, Option.bind_some, Option.isSome_some, Option.toList, List.cons_append, List.nil_append, zclr_i, zclr_r, zclr_n, zfit_i, zfit_l, and_self, if_true, if_false] <;> first | rfl | simp
  · obtain ⟨K, rfl⟩ : ∃ K, K1 = K + 1 := ⟨K1 - 1, by omega⟩
    have hK3 : K < 3 := by omega
    have hb := town_k hK3
    have hs := script_k hK3
    have hd : apart (74 + 23 * K) 16 := town_apart hb t16 (by omega)
    obtain ⟨N1, S1, w1, r1, j1, c1⟩ := hm K (by omega)
    have kpos : (0 : Int32) < nI (K + 1) := by
      have : nI 0 < nI (K + 1) := by rw [nI_ltq (by decide) (by omega)]; omega
      exact this
    have kne : ¬ nI (K + 1) = 0 := fun e => by
      have e2 : nI (K + 1) = nI 0 := e
      rw [nI_eq (by omega) (by omega)] at e2
      omega
    have ksub : nI (K + 1) - 1 = nI K := nI_sub1 (by omega)
    -- the class's memory behind the call, its status aside
    have o1 : ∀ a, (∀ i, i < 17 → a ≠ 16 + i) → tCopy (74 + 23 * K) 16 (zu I 3 17 (nI K)) a = zu I 3 17 (nI K) a := fun a ha => tCopy_far ha
    have hbo : zfit .boolean (.int (tCopy (74 + 23 * K) 16 (zu I 3 17 (nI K)) (91 + 23 * K) 0)) = true := by
      rw [o1 _ (fun i _ => by omega), zu_far _ _ _ (by omega)]
      exact c1.bool
    have hrow : ∀ a, a ≠ 3 → (∀ i, i < 17 → a ≠ 16 + i) → (∀ i, i < 6 → a ≠ 50 + i) → sCopy (91 + 23 * K) 50 (tCopy (74 + 23 * K) 16 (zu I 3 17 (nI K))) a = I a := fun a h0 h1 h2 => by rw [sCopy_out h2, o1 a h1, zu_far _ _ _ h0]
    have r3 : sCopy (91 + 23 * K) 50 (tCopy (74 + 23 * K) 16 (zu I 3 17 (nI K))) 3 = zu I 3 17 (nI K) 3 := by rw [sCopy_out (fun i _ => by omega), o1 3 (fun i _ => by omega)]
    have t3 := o1 3 (fun i _ => by omega)
    have r143 := hrow 143 (by decide) (fun i _ => by omega) (fun i _ => by omega)
    have r148 := hrow 148 (by decide) (fun i _ => by omega) (fun i _ => by omega)
    have i2row : ∀ a, a ≠ 3 → a ≠ 143 → a ≠ 148 → zu (zr (zu (zu (zu (sCopy (91 + 23 * K) 50 (tCopy (74 + 23 * K) 16 (zu I 3 17 (nI K)))) 3 0 0) 143 1 0) 143 0 0) 148 (blkC (I 148) 506 (K + 1) 0)) 143 24 (nI K) a = sCopy (91 + 23 * K) 50 (tCopy (74 + 23 * K) 16 (zu I 3 17 (nI K))) a := by
      intro a a3 a143 a148
      rw [zu_far _ _ _ a143, zr_far _ _ a148, zu_far _ _ _ a143, zu_far _ _ _ a143, zu_far _ _ _ a3]
    have j151 : cpS (74 + 23 * K) 16 4 12 (cpS (74 + 23 * K) 16 1 6 J) 151 = J 151 := by rw [cpS_far _ (by omega), cpS_far _ (by omega)]
    refine ⟨.int (nI K), zu (sCopy (91 + 23 * K) 50 (tCopy (74 + 23 * K) 16 (zu I 3 17 (nI K)))) 3 0 0, cpS (74 + 23 * K) 16 4 12 (cpS (74 + 23 * K) 16 1 6 J), zu (zr (zu (zu (zu (sCopy (91 + 23 * K) 50 (tCopy (74 + 23 * K) 16 (zu I 3 17 (nI K)))) 3 0 0) 143 1 0) 143 0 0) 148 (blkC (I 148) 506 (K + 1) 0)) 143 24 (nI K), zr (cpS (74 + 23 * K) 16 4 12 (cpS (74 + 23 * K) 16 1 6 J)) 151 (blkC (J 151) 18 (K + 1) 0), N1, S1, ?_, ?_, ?_⟩
    · have k17a : zu I 3 17 (nI K) 3 17 = nI K := by rw [zu_row, if_pos rfl]
      have k17b : tCopy (74 + 23 * K) 16 (zu I 3 17 (nI K)) 3 17 = nI K := by rw [t3]; exact k17a
      have k17c : sCopy (91 + 23 * K) 50 (tCopy (74 + 23 * K) 16 (zu I 3 17 (nI K))) 3 17 = nI K := by rw [r3]; exact k17a
      rw [m_X11_back]
      simp only [e_X11_back_0, e_X11_back_1, e_X11_back_4, e_X11_back_7, e_X11_back_8, e_X11_back_10, e_X11_back_13, e_X11_back_14, e_X11_back_15, e_X11_back_16, e_X11_back_19, e_X11_back_20, e_X11_back_21, e_X11_back_24, e_X11_back_25, e_X11_back_28, e_X11_back_29, e_X11_back_32, e_X11_back_33, e_X11_back_36, e_X11_back_37, e_X11_back_40, e_X11_back_41, e_X11_back_44, e_X11_back_45, e_X11_back_48, e_X11_back_49, e_X11_back_52, e_X11_back_53, e_X11_back_56, e_X11_back_57, e_X11_back_58, e_X11_back_61, e_X11_back_64, c_3, c_T0 t16, c_S0 s50, g_3_7, g_3_9, g_3_15, g_3_16, g_3_17, p_3_17, e3, if_pos kpos, ksub, k17a, k17b, k17c, nI_neg (show K < 2 ^ 31 by omega), nI_clamp (show K < 2 ^ 31 by omega), r_72 hK3, r_73 hK3, t_copyFrom hb t16, s_copyFrom hs s50 hbo, n_answer, Option.bind_some, Option.isSome_some, Option.toList, List.cons_append, List.nil_append, zclr_i, zclr_r, zclr_n, zfit_i, zfit_l, and_self, if_true, if_false] <;> first | rfl | simp
    · have c24 : (zu (zu (zu (sCopy (91 + 23 * K) 50 (tCopy (74 + 23 * K) 16 (zu I 3 17 (nI K)))) 3 0 0) 143 1 0) 143 0 0) 143 24 = nI (K + 1) := by
        rw [zu_row, if_neg (by decide), zu_row, if_neg (by decide), zu_far _ _ _ (by decide), r143, e143]
      have hcp := v_copy (n := n) (m := m) (g := g) (I := (zu (zu (zu (sCopy (91 + 23 * K) 50 (tCopy (74 + 23 * K) 16 (zu I 3 17 (nI K)))) 3 0 0) 143 1 0) 143 0 0)) (J := cpS (74 + 23 * K) 16 4 12 (cpS (74 + 23 * K) 16 1 6 J)) (f := K + 1) (t := 0) (by omega) (by omega) (by omega) (d + 29)
      have h148 : (zu (zu (zu (sCopy (91 + 23 * K) 50 (tCopy (74 + 23 * K) 16 (zu I 3 17 (nI K)))) 3 0 0) 143 1 0) 143 0 0) 148 = I 148 := by
        rw [zu_far _ _ _ (by decide), zu_far _ _ _ (by decide), zu_far _ _ _ (by decide), r148]
      rw [h148, j151] at hcp
      have hcp2 : zcall (d + 29) 407 [.ref 143, .int (nI (K + 1)), .int 0] (mk n m g (zu (zu (zu (sCopy (91 + 23 * K) 50 (tCopy (74 + 23 * K) 16 (zu I 3 17 (nI K)))) 3 0 0) 143 1 0) 143 0 0) (cpS (74 + 23 * K) 16 4 12 (cpS (74 + 23 * K) 16 1 6 J))) = _ := hcp
      have c24b : zr (zu (zu (zu (sCopy (91 + 23 * K) 50 (tCopy (74 + 23 * K) 16 (zu I 3 17 (nI K)))) 3 0 0) 143 1 0) 143 0 0) 148 (blkC (I 148) 506 (K + 1) 0) 143 24 = nI (K + 1) := by
        rw [zr_far _ _ (by decide), c24]
      have c24c : zu (zr (zu (zu (zu (sCopy (91 + 23 * K) 50 (tCopy (74 + 23 * K) 16 (zu I 3 17 (nI K)))) 3 0 0) 143 1 0) 143 0 0) 148 (blkC (I 148) 506 (K + 1) 0)) 143 24 (nI K) 143 24 = nI K := by rw [zu_row, if_pos rfl]
      rw [m_X12_back]
      simp only [e_X12_back_0, e_X12_back_1, e_X12_back_2, e_X12_back_5, e_X12_back_6, e_X12_back_7, e_X12_back_10, e_X12_back_11, e_X12_back_14, e_X12_back_17, e_X12_back_18, e_X12_back_20, e_X12_back_23, e_X12_back_24, e_X12_back_25, e_X12_back_26, e_X12_back_29, e_X12_back_30, e_X12_back_33, e_X12_back_34, e_X12_back_35, e_X12_back_38, e_X12_back_39, e_X12_back_40, e_X12_back_43, e_X12_back_44, e_X12_back_47, c_143, g_143_0, g_143_1, g_143_24, p_143_0, p_143_1, p_143_24, c24, kne, hcp2, c24b, ksub, c24c, ne_eq, not_false_eq_true, Option.bind_some, Option.isSome_some, Option.toList, List.cons_append, List.nil_append, zclr_i, zclr_r, zclr_n, zfit_i, zfit_l, and_self, if_true, if_false] <;> first | rfl | simp
    · have hc148 : zu (zr (zu (zu (zu (sCopy (91 + 23 * K) 50 (tCopy (74 + 23 * K) 16 (zu I 3 17 (nI K)))) 3 0 0) 143 1 0) 143 0 0) 148 (blkC (I 148) 506 (K + 1) 0)) 143 24 (nI K) 148 = blkC (I 148) 506 (K + 1) 0 := by rw [zu_far _ _ _ (by decide), zr_same]
      have hnew : ∀ j, j < 506 → blkC (I 148) 506 (K + 1) 0 j = I 148 (506 * (K + 1) + j) := fun j hj => by
        unfold blkC
        rw [if_pos (by omega)]
        exact congrArg (I 148) (by omega)
      have hblk : ∀ k j, j < 506 → blkC (I 148) 506 (K + 1) 0 (506 * (k + 1) + j) = I 148 (506 * (k + 1) + j) := fun k j hj => by unfold blkC; rw [if_neg (by omega)]
      have wnew : ∀ j, j < 18 → blkC (J 151) 18 (K + 1) 0 j = J 151 (18 * (K + 1) + j) := fun j hj => by
        unfold blkC
        rw [if_pos (by omega)]
        exact congrArg (J 151) (by omega)
      have wblk : ∀ k j, j < 18 → blkC (J 151) 18 (K + 1) 0 (18 * (k + 1) + j) = J 151 (18 * (k + 1) + j) := fun k j hj => by unfold blkC; rw [if_neg (by omega)]
      have tb : ∀ i, i < 17 → zu I 3 17 (nI K) (74 + 23 * K + i) = I (74 + 23 * K + i) := fun i _ => zu_far _ _ _ (by omega)
      have wb := w1.far tb
      have rb := r1.far tb
      have wn := wb.copy hd
      have rn : ∀ i, i < 17 → zu (zr (zu (zu (zu (sCopy (91 + 23 * K) 50 (tCopy (74 + 23 * K) 16 (zu I 3 17 (nI K)))) 3 0 0) 143 1 0) 143 0 0) 148 (blkC (I 148) 506 (K + 1) 0)) 143 24 (nI K) (16 + i) = tCopy (74 + 23 * K) 16 (zu I 3 17 (nI K)) (16 + i) := fun i hi => by rw [i2row _ (by omega) (by omega) (by omega), sCopy_out (fun i _ => by omega)]
      have jr : ∀ a, a ≠ 17 → a ≠ 20 → a ≠ 151 → zr (cpS (74 + 23 * K) 16 4 12 (cpS (74 + 23 * K) 16 1 6 J)) 151 (blkC (J 151) 18 (K + 1) 0) a = J a := fun a h17 h20 h151 => by rw [zr_far _ _ h151, cpS_far _ h20, cpS_far _ h17]
      refine h.mkI (wn.far rn) ?_ ?_ ?_ ⟨K, by omega, ?_, ?_, fun k hk => ?_⟩ ?_ (fun a ha => ?_) ?_ (fun k hk => ?_) (fun a ha => ?_)
      · rw [hc148]
        exact ((rb.copy wb hd).far rn).cells (wn.far rn) (fun j hj => hnew j (by omega))
      · rw [zr_same]
        refine j1.cells w1.h12 w1.h6 wnew (fun s hs => ?_) (fun p hp => ?_)
        · have := w1.h6
          rw [zr_far _ _ (by decide), cpS_far _ (by decide), cpS_at, cpR_lt (by omega)]
        · have := w1.h12
          rw [zr_far _ _ (by decide), cpS_at, cpR_lt (by omega), cpS_far _ (by omega)]
      · rw [hc148]
        refine c1.move (fun f hf => ?_) (fun r a h1 h2 ha => ?_) (fun j _ hj => hnew j hj)
        · rw [i2row _ (by omega) (by omega) (by omega), sCopy_0 (by omega) hf, o1 _ (fun i _ => by omega), zu_far _ _ _ (by omega)]
        · rw [i2row _ (by omega) (by omega) (by omega), sCopy_r (by omega) h1 h2 ha, o1 _ (fun i _ => by omega), zu_far _ _ _ (by omega)]
      · rw [zu_far _ _ _ (by decide), zr_far _ _ (by decide), zu_far _ _ _ (by decide), zu_far _ _ _ (by decide), zu_row, if_neg (by decide), r3, zu_row, if_pos rfl]
      · rw [zu_row, if_pos rfl]
      · obtain ⟨N9, S9, w9, r9, j9, c9⟩ := hm k (by omega)
        have rk : ∀ i, i < 17 → zu (zr (zu (zu (zu (sCopy (91 + 23 * K) 50 (tCopy (74 + 23 * K) 16 (zu I 3 17 (nI K)))) 3 0 0) 143 1 0) 143 0 0) 148 (blkC (I 148) 506 (K + 1) 0)) 143 24 (nI K) (74 + 23 * k + i) = I (74 + 23 * k + i) := fun i hi => by rw [i2row _ (by omega) (by omega) (by omega), hrow _ (by omega) (fun i _ => by omega) (fun i _ => by omega)]
        refine ⟨N9, S9, w9.far rk, ?_, ?_, ?_⟩
        · rw [hc148]
          exact (r9.far rk).cells (w9.far rk) (fun j hj => hblk k j (by omega))
        · rw [zr_same]
          exact j9.cells w9.h12 w9.h6 (fun j hj => wblk k j hj) (fun s _ => by rw [jr _ (by omega) (by omega) (by omega)]) (fun p _ => by rw [jr _ (by omega) (by omega) (by omega)])
        · rw [hc148]
          exact c9.far (fun r hr => by rw [i2row _ (by omega) (by omega) (by omega), hrow _ (by omega) (fun i _ => by omega) (fun i _ => by omega)]) (fun j _ hj => hblk k j hj)
      · rw [zu_far _ _ _ (by decide), zr_far _ _ (by decide), zu_row, if_neg (by decide), zr_far _ _ (by decide), zu_far _ _ _ (by decide), zu_far _ _ _ (by decide), zu_row, if_pos rfl, zu_row, if_pos rfl]
      · simp only [Bool.or_eq_true, beq_iff_eq] at ha
        rw [i2row _ (by omega) (by omega) (by omega), hrow _ (by omega) (fun i _ => by omega) (fun i _ => by omega)]
      · rw [zu_far _ _ _ (by decide), zr_far _ _ (by decide), zu_far _ _ _ (by decide), zu_far _ _ _ (by decide), zu_row, if_neg (by decide), r3, zu_row, if_neg (by decide)]
      · rw [zu_row, if_neg (by omega), zr_far _ _ (by decide), zu_row, if_neg (by omega), zu_row, if_neg (by omega), zu_far _ _ _ (by decide), r143]
      · simp only [Bool.or_eq_true, beq_iff_eq] at ha
        exact jr a (by omega) (by omega) (by omega)
end RF2
