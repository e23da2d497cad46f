/-! CALLS: write, read -/
section QW
variable {n m : Nat} {g : Nat → zC} {I I2 A : Nat → Nat → Int32} {J J2 : Nat → Nat → Int64} {N S : Nat}
theorem v_placed {x p : Int32} (hw : yWellT A) (he : ∀ t, t < 4 → I 145 t = A 6 t) (d : Nat) : zcall (d + 1) 245 [.ref 143, .int x, .int p] (mk n m g I J) = some (some (.int (yPlace A x p)), mk n m g I J) := by
  rw [m_X12_placed]
  have ht : zcall d 244 [.ref 143, .int x] (mk n m g I J) = some (some (.int (yTrouble A x)), mk n m g I J) := by
    rw [m_X12_trayed]
    unfold yTrouble
    by_cases h : 0 ≤ x ∧ x < 4
    · obtain ⟨t, ht, rfl⟩ := tray_cases x h
      simp only [e_X12_trayed_0, e_X12_trayed_1, e_X12_trayed_4, e_X12_trayed_5, e_X12_trayed_6, e_X12_trayed_9, e_X12_trayed_10, e_X12_trayed_13, e_X12_trayed_14, e_X12_trayed_17, e_X12_trayed_18, e_X12_trayed_19, e_X12_trayed_22, e_X12_trayed_23, e_X12_trayed_26, e_X12_trayed_27, g_143_5, l_145 ht, he t ht, if_neg (Int32.not_lt.mpr h.1), if_pos h.2, nI_clamp (show t < 2 ^ 31 by omega), Option.bind_some, Option.isSome_some, Option.toList, List.cons_append, List.nil_append, zclr_i, zclr_r, zclr_n, zfit_i, zfit_l, and_self, if_true, if_false]
      rcases hw t ht with e | ⟨k, hk, e⟩
      · simp [e, h]
      · have e1 : ¬ nI k = -1 := nI_m1 (by omega)
        have e2 : 0 ≤ nI k := Int32.not_lt.mp (nI_pos (by omega))
        simp [e, h, e1, e2]
    · simp only [e_X12_trayed_0, e_X12_trayed_1, e_X12_trayed_4, e_X12_trayed_5, e_X12_trayed_6, e_X12_trayed_9, e_X12_trayed_10, e_X12_trayed_13, e_X12_trayed_14, e_X12_trayed_17, e_X12_trayed_18, e_X12_trayed_19, e_X12_trayed_22, e_X12_trayed_23, e_X12_trayed_26, e_X12_trayed_27, Option.bind_some, Option.isSome_some, Option.toList, List.cons_append, List.nil_append, zclr_i, zclr_r, zclr_n, zfit_i, zfit_l, and_self, if_true, if_false]
      by_cases g1 : x < 0
      · simp [g1, h]
      · have g2 : ¬ x < 4 := fun e => h ⟨Int32.not_lt.mp g1, e⟩
        simp [g1, g2]
  unfold yPlace
  by_cases h : yTrouble A x = 0
  · obtain ⟨t, ht4, rfl⟩ := yTrouble_0 h
    have hm : A 6 t ≠ -1 := by
      intro e
      unfold yTrouble at h
      have h04 : (0 : Int32) ≤ nI t ∧ nI t < 4 := ⟨Int32.not_lt.mp (nI_pos (by omega)), by
        have : nI t < nI 4 := by rw [nI_ltq (by omega) (by omega)]; exact ht4
        exact this⟩
      rw [if_pos h04, nI_clamp (by omega), if_pos e] at h
      exact absurd h (by decide)
    obtain ⟨k, hk, ek⟩ : ∃ k, k ≤ 60 ∧ A 6 t = nI k := by
      rcases hw t ht4 with e | e
      · exact absurd e hm
      · exact e
    simp only [e_X12_placed_0, e_X12_placed_1, e_X12_placed_2, e_X12_placed_5, e_X12_placed_6, e_X12_placed_7, e_X12_placed_10, e_X12_placed_11, e_X12_placed_14, e_X12_placed_15, e_X12_placed_18, e_X12_placed_19, e_X12_placed_20, e_X12_placed_23, e_X12_placed_24, e_X12_placed_25, e_X12_placed_28, e_X12_placed_29, e_X12_placed_32, e_X12_placed_33, c_143, ht, h, g_143_5, l_145 ht4, he t ht4, ek, nI_clamp (show t < 2 ^ 31 by omega), Option.bind_some, Option.isSome_some, Option.toList, List.cons_append, List.nil_append, zclr_i, zclr_r, zclr_n, zfit_i, zfit_l, and_self, if_true, if_false]
    by_cases g1 : p < 0
    · have : ¬ 0 ≤ p := Int32.not_le.mpr g1
      simp [g1, this]
    · have g1' := Int32.not_lt.mp g1
      by_cases g2 : p < nI k
      · have gk : 1 ≤ k := by
          rcases Nat.eq_zero_or_pos k with e | e
          · subst e
            exact absurd g2 g1
          · exact e
        have g3 : (1 : Int32) ≤ nI k := by
          have : nI 1 ≤ nI k := by rw [nI_leq (by omega) (by omega)]; exact gk
          exact this
        have g4 : p ≤ nI k - 1 := by
          rw [Int32.le_iff_toInt_le, nI_predI (by omega)]
          rw [Int32.lt_iff_toInt_lt, nI_toInt (by omega)] at g2
          omega
        simp [g1, g1', g2, g3, g4]
      · have g4 : ¬ p ≤ nI k - 1 := by
          rw [Int32.le_iff_toInt_le, nI_predI (by omega)]
          rw [Int32.lt_iff_toInt_lt, nI_toInt (by omega)] at g2
          omega
        simp [g1, g2, g4]
  · have h3 : 0 < yTrouble A x := by
      unfold yTrouble at h ⊢
      split
      · split
        · decide
        · rename_i a b
          rw [if_pos a, if_neg b] at h
          exact absurd rfl h
      · decide
    simp only [e_X12_placed_0, e_X12_placed_1, e_X12_placed_2, e_X12_placed_5, e_X12_placed_6, e_X12_placed_7, e_X12_placed_10, e_X12_placed_11, e_X12_placed_14, e_X12_placed_15, e_X12_placed_18, e_X12_placed_19, e_X12_placed_20, e_X12_placed_23, e_X12_placed_24, e_X12_placed_25, e_X12_placed_28, e_X12_placed_29, e_X12_placed_32, e_X12_placed_33, c_143, ht, if_neg (Int32.not_le.mpr h3), Option.bind_some, Option.isSome_some, Option.toList, List.cons_append, List.nil_append, zclr_i, zclr_r, zclr_n, zfit_i, zfit_l, and_self, if_true, if_false]
    simp [h]
theorem v_cut {s : Int32} {v : Int64} (d : Nat) (h : zH) : zcall d 242 [.int s, .long v] h = some (some (.long (cutV s v)), h) := by
  rw [m_X12_cut]
  simp only [e_X12_cut_0, e_X12_cut_1, e_X12_cut_4, e_X12_cut_5, e_X12_cut_6, e_X12_cut_7, e_X12_cut_8, e_X12_cut_11, e_X12_cut_12, e_X12_cut_13, e_X12_cut_16, e_X12_cut_17, e_X12_cut_18, e_X12_cut_19, e_X12_cut_20, e_X12_cut_23, e_X12_cut_24, e_X12_cut_25, e_X12_cut_28, e_X12_cut_29, e_X12_cut_30, e_X12_cut_31, e_X12_cut_34, e_X12_cut_35, Option.bind_some, Option.isSome_some, Option.toList, List.cons_append, List.nil_append, zclr_i, zclr_r, zclr_n, zfit_i, zfit_l, and_self, if_true, if_false]
  unfold cutV
  by_cases h0 : s = 0
  · simp [h0]
  · by_cases h1 : s = 1
    · simp [h1]
    · by_cases h2 : s = 2 <;> simp [h0, h1, h2]
theorem yTrouble_vals {x : Int32} : yTrouble A x = 0 ∨ yTrouble A x = 1 ∨ yTrouble A x = 3 := by
  unfold yTrouble
  by_cases a : 0 ≤ x ∧ x < 4
  · rw [if_pos a]
    by_cases b : A 6 x.toNatClampNeg = -1
    · rw [if_pos b]
      exact Or.inr (Or.inr rfl)
    · rw [if_neg b]
      exact Or.inl rfl
  · rw [if_neg a]
    exact Or.inr (Or.inl rfl)
theorem yPlace_pos {x p : Int32} (h : yPlace A x p ≠ 0) : 0 < yPlace A x p := by
  unfold yPlace at h ⊢
  by_cases a : yTrouble A x = 0
  · rw [if_pos a] at h ⊢
    by_cases b : 0 ≤ p ∧ 1 ≤ A 6 x.toNatClampNeg ∧ p ≤ A 6 x.toNatClampNeg - 1
    · rw [if_pos b] at h
      exact absurd rfl h
    · rw [if_neg b]
      decide
  · rw [if_neg a]
    rcases yTrouble_vals (A := A) (x := x) with e | e | e
    · exact absurd e a
    · rw [e]
      decide
    · rw [e]
      decide
theorem q_read {x p : Int32} (h : Inv I J N S) (d : Nat) : Eqv (d + 30) 159 247 [.int x, .int p] n m g I J := by
  obtain ⟨y1, y2, y3⟩ := h.tray
  have hn := n_read (n := n) (m := m) (g := g) (I := I) (J := J) (x := x) (p := p) y1 (d + 27)
  have hp := v_placed (n := n) (m := m) (g := g) (J := J) (I := zu (zu I 3 0 (yPlace I x p)) 143 1 0) (x := x) (p := p) y1 (fun t ht => (y2 t ht).2.symm) (d + 28)
  have hm : zu (zu (zu I 3 0 (yPlace I x p)) 143 1 0) 143 0 (yPlace I x p) = st (yPlace I x p) I := rfl
  by_cases h0 : yPlace I x p = 0
  · obtain ⟨t, k, ht, hk, rfl, rfl⟩ := yPlace_0 y1 h0
    have hlt : nI k < I 6 t := by
      have h9 := h0
      unfold yPlace at h9
      split at h9
      · split at h9
        · rename_i a b
          rw [nI_clamp (by omega)] at b
          rcases y1 t ht with e | ⟨K, hK, e⟩
          · rw [e] at b
            exact absurd b.2.1 (by decide)
          · rw [e] at b ⊢
            have := (in_iff (show K ≤ 2 ^ 30 by omega) (nI k)).mp ⟨b.1, b.2.2⟩
            obtain ⟨j, hj, ej⟩ := this
            rw [ej, nI_ltq (by omega) (by omega)]
            exact hj
        · exact absurd h9 (by decide)
      · rename_i a
        exact absurd h9 a
    rw [h0] at hn hp hm
    simp only [if_true, nI_clamp (show t < 2 ^ 31 by omega), nI_clamp (show k < 2 ^ 31 by omega)] at hn
    refine ⟨_, _, _, st 0 I, J, N, S, hn, ?_, h.stI⟩
    rw [m_X12_read]
    simp only [e_X12_read_0, e_X12_read_1, e_X12_read_2, e_X12_read_5, e_X12_read_6, e_X12_read_7, e_X12_read_8, e_X12_read_9, e_X12_read_12, e_X12_read_15, e_X12_read_16, e_X12_read_19, e_X12_read_22, e_X12_read_25, e_X12_read_28, e_X12_read_29, e_X12_read_32, e_X12_read_34, e_X12_read_35, e_X12_read_36, e_X12_read_37, e_X12_read_38, e_X12_read_39, c_143, g_143_0, g_143_1, g_143_6, p_143_0, p_143_1, hp, zu_row, nI_60, k_146 (show 60 * t + k < 240 by omega), nI_neg (show 60 * t + k < 2 ^ 31 by omega), nI_clamp (show 60 * t + k < 2 ^ 31 by omega), y3 t k ht hk hlt, hm, Option.bind_some, Option.isSome_some, Option.toList, List.cons_append, List.nil_append, zclr_i, zclr_r, zclr_n, zfit_i, zfit_l, and_self, if_true, if_false] <;> first | rfl | simp
  · have hpos := yPlace_pos h0
    simp only [h0, if_false] at hn
    refine ⟨_, _, _, st (yPlace I x p) I, J, N, S, hn, ?_, h.stI⟩
    rw [m_X12_read]
    simp only [e_X12_read_0, e_X12_read_1, e_X12_read_2, e_X12_read_5, e_X12_read_6, e_X12_read_7, e_X12_read_8, e_X12_read_9, e_X12_read_12, e_X12_read_15, e_X12_read_16, e_X12_read_19, e_X12_read_22, e_X12_read_25, e_X12_read_28, e_X12_read_29, e_X12_read_32, e_X12_read_34, e_X12_read_35, e_X12_read_36, e_X12_read_37, e_X12_read_38, e_X12_read_39, c_143, g_143_0, g_143_1, p_143_0, p_143_1, hp, zu_row, if_neg (Int32.not_le.mpr hpos), hm, Option.bind_some, Option.isSome_some, Option.toList, List.cons_append, List.nil_append, zclr_i, zclr_r, zclr_n, zfit_i, zfit_l, and_self, if_true, if_false] <;> first | rfl | simp [st_143, Int32.not_le.mpr hpos]
theorem q_write {x p : Int32} {v : Int64} (h : Inv I J N S) (d : Nat) : Eqv (d + 30) 158 246 [.int x, .int p, .long v] n m g I J := by
  obtain ⟨y1, y2, y3⟩ := h.tray
  have hn := n_write (n := n) (m := m) (g := g) (I := I) (J := J) (x := x) (p := p) (v := v) y1 (d + 27)
  by_cases h0 : yPlace I x p = 0
  · obtain ⟨t, k, ht, hk, rfl, rfl⟩ := yPlace_0 y1 h0
    rw [h0] at hn
    simp only [if_true, decide_true, bI, nI_clamp (show t < 2 ^ 31 by omega), nI_clamp (show k < 2 ^ 31 by omega)] at hn
    have hp := v_placed (n := n) (m := m) (g := g) (J := zu J (8 + t) k (cutV (I 5 t) v)) (I := zu (zu I 3 0 0) 143 1 0) (x := nI t) (p := nI k) y1 (fun t ht => (y2 t ht).2.symm) (d + 28)
    rw [h0] at hp
    have h144 : st 0 I 144 t = I 5 t := by
      rw [st_far (by decide) (by decide)]
      exact (y2 t ht).1.symm
    have hm : zu (zu (zu I 3 0 0) 143 1 0) 143 0 0 = st 0 I := rfl
    refine ⟨_, _, _, st 0 I, zu (zu J (8 + t) k (cutV (I 5 t) v)) 146 (60 * t + k) (cutV (I 5 t) v), N, S, hn, ?_, Inv.stI (h.tr (fun _ _ _ _ _ => rfl) (fun a a8 a146 => ?_) ⟨y1, y2, fun u j hu hj hlt => ?_⟩)⟩
    · rw [m_X12_write]
      simp only [e_X12_write_0, e_X12_write_1, e_X12_write_2, e_X12_write_5, e_X12_write_6, e_X12_write_7, e_X12_write_8, e_X12_write_9, e_X12_write_12, e_X12_write_15, e_X12_write_16, e_X12_write_19, e_X12_write_22, e_X12_write_23, e_X12_write_24, e_X12_write_25, e_X12_write_28, e_X12_write_30, e_X12_write_31, e_X12_write_32, e_X12_write_33, e_X12_write_34, e_X12_write_35, e_X12_write_38, e_X12_write_39, e_X12_write_40, e_X12_write_41, e_X12_write_44, e_X12_write_45, e_X12_write_46, c_143, g_143_0, g_143_1, g_143_4, g_143_6, p_143_0, p_143_1, hp, hm, h144, nI_60, l_144 ht, v_cut, k_146 (show 60 * t + k < 240 by omega), nI_neg (show 60 * t + k < 2 ^ 31 by omega), nI_clamp (show 60 * t + k < 2 ^ 31 by omega), q_146, zfit_b1, zclr_l, Option.bind_some, Option.isSome_some, Option.toList, List.cons_append, List.nil_append, zclr_i, zclr_r, zclr_n, zfit_i, zfit_l, and_self, if_true, if_false] <;> first | rfl | simp [st_143]
    · rw [zu_far _ _ _ a146, zu_far _ _ _ (by omega)]
    · rw [zu_far _ _ _ (show 8 + u ≠ 146 by omega), zu_row]
      by_cases e1 : u = t
      · subst e1
        rw [zu_row]
        by_cases e2 : j = k
        · subst e2
          rw [if_pos rfl, if_pos rfl]
        · rw [if_neg e2, if_neg (by omega), zu_far _ _ _ (by omega)]
          exact y3 u j hu hj hlt
      · rw [zu_far _ _ _ (by omega), if_neg (by omega), zu_far _ _ _ (by omega)]
        exact y3 u j hu hj hlt
  · have hpos := yPlace_pos h0
    simp only [h0, if_false, decide_false, bI, Bool.false_eq_true] at hn
    have hp := v_placed (n := n) (m := m) (g := g) (J := J) (I := zu (zu I 3 0 (yPlace I x p)) 143 1 0) (x := x) (p := p) y1 (fun t ht => (y2 t ht).2.symm) (d + 28)
    have hm : zu (zu (zu I 3 0 (yPlace I x p)) 143 1 0) 143 0 (yPlace I x p) = st (yPlace I x p) I := rfl
    refine ⟨_, _, _, st (yPlace I x p) I, J, N, S, hn, ?_, h.stI⟩
    rw [m_X12_write]
    simp only [e_X12_write_0, e_X12_write_1, e_X12_write_2, e_X12_write_5, e_X12_write_6, e_X12_write_7, e_X12_write_8, e_X12_write_9, e_X12_write_12, e_X12_write_15, e_X12_write_16, e_X12_write_19, e_X12_write_22, e_X12_write_23, e_X12_write_24, e_X12_write_25, e_X12_write_28, e_X12_write_30, e_X12_write_31, e_X12_write_32, e_X12_write_33, e_X12_write_34, e_X12_write_35, e_X12_write_38, e_X12_write_39, e_X12_write_40, e_X12_write_41, e_X12_write_44, e_X12_write_45, e_X12_write_46, c_143, g_143_0, g_143_1, p_143_0, p_143_1, hp, zu_row, if_neg (Int32.not_le.mpr hpos), hm, zfit_b0, zclr_l, Option.bind_some, Option.isSome_some, Option.toList, List.cons_append, List.nil_append, zclr_i, zclr_r, zclr_n, zfit_i, zfit_l, and_self, if_true, if_false] <;> first | rfl | simp [st_143, Int32.not_le.mpr hpos]
end QW
