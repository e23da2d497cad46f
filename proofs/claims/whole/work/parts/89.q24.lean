/-! CALLS: copyNames -/
section QZ
variable {n m : Nat} {g : Nat → zC} {I I2 A : Nat → Nat → Int32} {J J2 : Nat → Nat → Int64} {N S : Nat}
theorem v_isTray {x : Int32} (d : Nat) (h : zH) : zcall (d + 1) 250 [.ref 143, .int x] h = some (some (.int (bI (decide (0 ≤ x ∧ x < 4)))), h) := by
  rw [m_X12_isTray]
  have e : (0 ≤ x ∧ x ≤ 3) ↔ (0 ≤ x ∧ x < 4) := by
    rw [Int32.le_iff_toInt_le, Int32.le_iff_toInt_le, Int32.lt_iff_toInt_lt, show (0 : Int32).toInt = 0 from rfl, show (3 : Int32).toInt = 3 from rfl, show (4 : Int32).toInt = 4 from rfl]
    omega
  simp only [e_X12_isTray_0, e_X12_isTray_1, e_X12_isTray_2, e_X12_isTray_3, e_X12_isTray_6, e_X12_isTray_9, v_isIn x 0 3 0 3 rfl rfl, zfit_bI, e, Option.bind_some, Option.isSome_some, Option.toList, List.cons_append, List.nil_append, zclr_i, zclr_r, zclr_n, zfit_i, zfit_l, and_self, if_true, if_false]
theorem cut_small {s x : Int32} (h : x = -1 ∨ ∃ k, k < 6 ∧ x = nI k) : cutV s x.toInt64 = x.toInt64 := by
  have key : ∀ y : Int32, y ∈ ([-1, 0, 1, 2, 3, 4, 5] : List Int32) → y.toInt64.toInt32.toInt8.toInt32.toInt64 = y.toInt64 ∧ y.toInt64.toInt32.toInt16.toInt32.toInt64 = y.toInt64 ∧ y.toInt64.toInt32.toInt64 = y.toInt64 := by decide
  have hx : x ∈ ([-1, 0, 1, 2, 3, 4, 5] : List Int32) := by
    rcases h with rfl | ⟨k, hk, rfl⟩
    · decide
    · have : k = 0 ∨ k = 1 ∨ k = 2 ∨ k = 3 ∨ k = 4 ∨ k = 5 := by omega
      rcases this with rfl | rfl | rfl | rfl | rfl | rfl <;> decide
  obtain ⟨h1, h2, h3⟩ := key x hx
  unfold cutV
  split
  · exact h1
  · split
    · exact h2
    · split
      · exact h3
      · rfl
theorem tray_good {t : Nat} {J J2 : Nat → Nat → Int64} {I I2 : Nat → Nat → Int32} (ht : t < 4) (h : yTrouble I (nI t) = 0) (hw : yWellT I) : ∃ L, L ≤ 60 ∧ I 6 t = nI L := by
  unfold yTrouble at h
  have h04 : (0 : Int32) ≤ nI t ∧ nI t < 4 := ⟨Int32.not_lt.mp (nI_pos (by omega)), by
    have : nI t < nI 4 := by rw [nI_ltq (by omega) (by omega)]; exact ht
    exact this⟩
  rw [if_pos h04, nI_clamp (by omega)] at h
  rcases hw t ht with e | e
  · rw [if_pos e] at h
    exact absurd h (by decide)
  · exact e
theorem q_copyNames {x : Int32} (h : Inv I J N S) (d : Nat) : Eqv (d + 30) 170 326 [.int x] n m g I J := by
  have hW := h.W
  have h12 := hW.h12
  have h6 := hW.h6
  obtain ⟨y1, y2, y3⟩ := h.tray
  by_cases hx : 0 ≤ x ∧ x < 4
  · obtain ⟨t, ht, rfl⟩ := tray_cases x hx
    have m1 : ∀ w : Int32, (zu (zu (zu I 3 0 w) 143 1 0) 143 0 0) 145 t = I 6 t := fun w => (y2 t ht).2.symm
    rcases y1 t ht with e | ⟨L, hL, e⟩
    · have ey : yTrouble I (nI t) = 3 := by
        unfold yTrouble
        rw [if_pos hx, nI_clamp (by omega), if_pos e]
      refine ⟨.int (-1), zu I 3 0 3, J, st 3 I, J, N, S, ?_, ?_, h.stI⟩
      · rw [m_X11_copyNames]
        simp only [e_X11_copyNames_0, e_X11_copyNames_1, e_X11_copyNames_2, e_X11_copyNames_5, e_X11_copyNames_6, e_X11_copyNames_7, e_X11_copyNames_10, e_X11_copyNames_11, e_X11_copyNames_12, e_X11_copyNames_15, e_X11_copyNames_16, e_X11_copyNames_17, e_X11_copyNames_20, e_X11_copyNames_21, e_X11_copyNames_24, e_X11_copyNames_25, e_X11_copyNames_28, e_X11_copyNames_31, e_X11_copyNames_34, e_X11_copyNames_35, e_X11_copyNames_36, e_X11_copyNames_39, e_X11_copyNames_40, e_X11_copyNames_41, c_3, n_trayTrouble, ey, n_refuse, Option.bind_some, Option.isSome_some, Option.toList, List.cons_append, List.nil_append, zclr_i, zclr_r, zclr_n, zfit_i, zfit_l, and_self, if_true, if_false] <;> first | rfl | simp
      · rw [m_X12_copyNames]
        simp only [e_X12_copyNames_0, e_X12_copyNames_1, e_X12_copyNames_2, e_X12_copyNames_5, e_X12_copyNames_6, e_X12_copyNames_7, e_X12_copyNames_10, e_X12_copyNames_11, e_X12_copyNames_12, e_X12_copyNames_15, e_X12_copyNames_18, e_X12_copyNames_19, e_X12_copyNames_20, e_X12_copyNames_23, e_X12_copyNames_24, e_X12_copyNames_25, e_X12_copyNames_28, e_X12_copyNames_29, e_X12_copyNames_30, e_X12_copyNames_33, e_X12_copyNames_34, e_X12_copyNames_35, e_X12_copyNames_38, e_X12_copyNames_39, e_X12_copyNames_40, e_X12_copyNames_43, e_X12_copyNames_44, e_X12_copyNames_45, e_X12_copyNames_46, e_X12_copyNames_49, e_X12_copyNames_50, e_X12_copyNames_51, e_X12_copyNames_54, e_X12_copyNames_55, e_X12_copyNames_56, e_X12_copyNames_59, e_X12_copyNames_60, e_X12_copyNames_61, c_143, g_143_0, g_143_1, g_143_5, p_143_0, p_143_1, v_isTray, hx, and_self, decide_true, bI, l_145 ht, m1, e, v_refuse, st_eq, Option.bind_some, Option.isSome_some, Option.toList, List.cons_append, List.nil_append, zclr_i, zclr_r, zclr_n, zfit_i, zfit_l, and_self, if_true, if_false] <;> first | rfl | simp
    · have ey : yTrouble I (nI t) = 0 := by
        unfold yTrouble
        rw [if_pos hx, nI_clamp (by omega), if_neg (by rw [e]; exact nI_m1 (by omega))]
      have ge : 0 ≤ nI L := Int32.not_lt.mp (nI_pos (by omega))
      have hle : (nI N ≤ nI L) = (N ≤ L) := nI_leq (by omega) (by omega)
      by_cases hN : N ≤ L
      · have hNL : nI N ≤ nI L := by rw [hle]; exact hN
        have hR1 : RT I 16 ((zu (zu (zu I 3 0 0) 143 1 0) 143 0 0) 148) N S := h.R
        have hcut : ∀ p, p < N → cutV (I 5 t) (I (16 + 7) p).toInt64 = (I (16 + 7) p).toInt64 := fun p hp => cut_small (hW.bear6 p hp)
        have hc := zloop (fun p (r : Nat → Int64) => zexec (d + 30) 170 42 [some (.ref 3), some (.int (nI t)), some (.int 0), some (.int (nI p))] [] (mk n m g I (zr J (8 + t) r))) (fun p r => fu r p (I (16 + 7) p).toInt64) N ?_ N 0 (J (8 + t)) (by omega)
        · have hv : ∀ (J : Nat → Nat → Int64), zexec (d + 30) 326 62 [some (.ref 143), some (.int (nI t)), some (.int (nI 0))] [] (mk n m g (zu (zu (zu I 3 0 0) 143 1 0) 143 0 0) (zr J 146 (J 146))) = zexec (d + 30) 326 62 [some (.ref 143), some (.int (nI t)), some (.int (nI N))] [] (mk n m g (zu (zu (zu I 3 0 0) 143 1 0) 143 0 0) (zr J 146 (zfor (fun p r => fu r (60 * t + p) (I (16 + 7) p).toInt64) 0 N (J 146)))) := by
            intro J
            refine zloop (fun p (r : Nat → Int64) => zexec (d + 30) 326 62 [some (.ref 143), some (.int (nI t)), some (.int (nI p))] [] (mk n m g (zu (zu (zu I 3 0 0) 143 1 0) 143 0 0) (zr J 146 r))) (fun p r => fu r (60 * t + p) (I (16 + 7) p).toInt64) N ?_ N 0 (J 146) (by omega)
            intro p r hp
            rw [e_X12_copyNames_62]
            simp only [e_X12_copyNames_63, e_X12_copyNames_64, e_X12_copyNames_67, e_X12_copyNames_68, e_X12_copyNames_69, e_X12_copyNames_72, e_X12_copyNames_73, e_X12_copyNames_76, e_X12_copyNames_78, e_X12_copyNames_79, e_X12_copyNames_80, e_X12_copyNames_81, e_X12_copyNames_82, e_X12_copyNames_83, e_X12_copyNames_86, e_X12_copyNames_88, e_X12_copyNames_89, e_X12_copyNames_90, e_X12_copyNames_91, e_X12_copyNames_92, e_X12_copyNames_93, e_X12_copyNames_96, cA_6, cA_12, cA_18, cA_30, cA_42, cA_54, cA_66, cA_78, cA_90, cA_102, cA_114, cA_126, cA_138, cA_210, cA_222, lc_0, lc_1, lc_2, lc_3, lc_4, lc_5, g_143_20, q_148, nI_neg (show 30 + p < 2 ^ 31 by omega), nI_clamp (show 30 + p < 2 ^ 31 by omega), k_148 (show 30 + p < 2530 by omega), l_148 (show 30 + p < 2530 by omega), g_143_6, hW.c1 hR1, if_neg (nI_ge hp (show N < 2 ^ 31 by omega)), hR1.bears p hp, nI_60, nI_neg (show 60 * t + p < 2 ^ 31 by omega), nI_clamp (show 60 * t + p < 2 ^ 31 by omega), k_146 (show 60 * t + p < 240 by omega), q_146, zu_zr, nI_1, Option.bind_some, Option.isSome_some, Option.toList, List.cons_append, List.nil_append, zclr_i, zclr_r, zclr_n, zfit_i, zfit_l, and_self, if_true, if_false]
          have hz1 : ∀ j, zfor (fun p r => fu r p (I (16 + 7) p).toInt64) 0 N (J (8 + t)) j = if j < N then (I (16 + 7) j).toInt64 else J (8 + t) j := by
            intro j
            have hz := zfor_inv (f := fun p (r : Nat → Int64) => fu r p (I (16 + 7) p).toInt64) (P := fun p r => r j = if j < p then (I (16 + 7) j).toInt64 else J (8 + t) j) ?_ N 0 (J (8 + t)) (by simp)
            · rw [Nat.zero_add] at hz
              exact hz
            · intro p r hr
              by_cases e : j = p
              · subst e
                rw [fu_eq, if_pos (by omega)]
              · rw [fu_ne _ _ e, hr]
                by_cases e2 : j < p
                · rw [if_pos e2, if_pos (by omega)]
                · rw [if_neg e2, if_neg (by omega)]
          have hz2 : ∀ u j, u < 4 → j < 60 → zfor (fun p r => fu r (60 * t + p) (I (16 + 7) p).toInt64) 0 N (J 146) (60 * u + j) = if u = t ∧ j < N then (I (16 + 7) j).toInt64 else J 146 (60 * u + j) := by
            intro u j hu hj
            have hz := zfor_inv (f := fun p (r : Nat → Int64) => fu r (60 * t + p) (I (16 + 7) p).toInt64) (P := fun p r => p ≤ N → r (60 * u + j) = if u = t ∧ j < p then (I (16 + 7) j).toInt64 else J 146 (60 * u + j)) ?_ N 0 (J 146) (fun _ => by rw [if_neg (by omega)])
            · rw [Nat.zero_add] at hz
              exact hz (Nat.le_refl N)
            · intro p r hr hp
              have hr := hr (by omega)
              by_cases e : u = t ∧ j = p
              · obtain ⟨rfl, rfl⟩ := e
                rw [fu_eq, if_pos (by omega)]
              · rw [fu_ne _ _ (by omega), hr]
                by_cases e2 : u = t ∧ j < p
                · rw [if_pos e2, if_pos (by omega)]
                · rw [if_neg e2, if_neg (by omega)]
          have hJ146 : zr J (8 + t) (zfor (fun p r => fu r p (I (16 + 7) p).toInt64) 0 N (J (8 + t))) 146 = J 146 := zr_far _ _ (by omega)
          have hv2 := hv (zr J (8 + t) (zfor (fun p r => fu r p (I (16 + 7) p).toInt64) 0 N (J (8 + t))))
          rw [zr_id, hJ146] at hv2
          rw [zr_id] at hc
          refine ⟨.int (nI N), zu I 3 0 0, zr J (8 + t) (zfor (fun p r => fu r p (I (16 + 7) p).toInt64) 0 N (J (8 + t))), st 0 I, zr (zr J (8 + t) (zfor (fun p r => fu r p (I (16 + 7) p).toInt64) 0 N (J (8 + t)))) 146 (zfor (fun p r => fu r (60 * t + p) (I (16 + 7) p).toInt64) 0 N (J 146)), N, S, ?_, ?_, Inv.stI (h.tr (fun _ _ _ _ _ => rfl) (fun c c8 c146 => by rw [zr_far _ _ c146, zr_far _ _ (by omega)]) ⟨y1, y2, fun u j hu hj hlt => ?_⟩)⟩
          · rw [m_X11_copyNames]
            simp only [e_X11_copyNames_0, e_X11_copyNames_1, e_X11_copyNames_2, e_X11_copyNames_5, e_X11_copyNames_6, e_X11_copyNames_7, e_X11_copyNames_10, e_X11_copyNames_11, e_X11_copyNames_12, e_X11_copyNames_15, e_X11_copyNames_16, e_X11_copyNames_17, e_X11_copyNames_20, e_X11_copyNames_21, e_X11_copyNames_24, e_X11_copyNames_25, e_X11_copyNames_28, e_X11_copyNames_31, e_X11_copyNames_34, e_X11_copyNames_35, e_X11_copyNames_36, e_X11_copyNames_39, e_X11_copyNames_40, e_X11_copyNames_41, c_3, c_4, g_3_3, g_3_7, g_T0_4 t16, hW.hN, n_trayTrouble, ey, y_length ht, e, if_pos hNL, Option.bind_some, Option.isSome_some, Option.toList, List.cons_append, List.nil_append, zclr_i, zclr_r, zclr_n, zfit_i, zfit_l, and_self, if_true, if_false]
            refine (show _ from hc).trans ?_
            rw [e_X11_copyNames_42]
            simp only [e_X11_copyNames_43, e_X11_copyNames_44, e_X11_copyNames_47, e_X11_copyNames_50, e_X11_copyNames_53, e_X11_copyNames_54, e_X11_copyNames_57, e_X11_copyNames_58, e_X11_copyNames_59, e_X11_copyNames_60, e_X11_copyNames_63, e_X11_copyNames_66, e_X11_copyNames_67, e_X11_copyNames_68, e_X11_copyNames_69, e_X11_copyNames_72, e_X11_copyNames_75, e_X11_copyNames_78, e_X11_copyNames_79, e_X11_copyNames_80, e_X11_copyNames_83, e_X11_copyNames_86, e_X11_copyNames_89, c_3, g_3_7, g_T0_4 t16, hW.hN, if_pos (nI_le (Nat.le_refl N) (show N < 2 ^ 31 by omega)), n_answer, Option.bind_some, Option.isSome_some, Option.toList, List.cons_append, List.nil_append, zclr_i, zclr_r, zclr_n, zfit_i, zfit_l, and_self, if_true, if_false]
          · rw [m_X12_copyNames]
            simp only [e_X12_copyNames_0, e_X12_copyNames_1, e_X12_copyNames_2, e_X12_copyNames_5, e_X12_copyNames_6, e_X12_copyNames_7, e_X12_copyNames_10, e_X12_copyNames_11, e_X12_copyNames_12, e_X12_copyNames_15, e_X12_copyNames_18, e_X12_copyNames_19, e_X12_copyNames_20, e_X12_copyNames_23, e_X12_copyNames_24, e_X12_copyNames_25, e_X12_copyNames_28, e_X12_copyNames_29, e_X12_copyNames_30, e_X12_copyNames_33, e_X12_copyNames_34, e_X12_copyNames_35, e_X12_copyNames_38, e_X12_copyNames_39, e_X12_copyNames_40, e_X12_copyNames_43, e_X12_copyNames_44, e_X12_copyNames_45, e_X12_copyNames_46, e_X12_copyNames_49, e_X12_copyNames_50, e_X12_copyNames_51, e_X12_copyNames_54, e_X12_copyNames_55, e_X12_copyNames_56, e_X12_copyNames_59, e_X12_copyNames_60, e_X12_copyNames_61, cA_6, cA_12, cA_18, cA_30, cA_42, cA_54, cA_66, cA_78, cA_90, cA_102, cA_114, cA_126, cA_138, cA_210, cA_222, lc_0, lc_1, lc_2, lc_3, lc_4, lc_5, g_143_20, q_148, c_143, g_143_0, g_143_1, g_143_5, p_143_0, p_143_1, v_isTray, hx, and_self, decide_true, bI, l_145 ht, m1, e, ge, hW.c1 hR1, if_pos hNL, Option.bind_some, Option.isSome_some, Option.toList, List.cons_append, List.nil_append, zclr_i, zclr_r, zclr_n, zfit_i, zfit_l, and_self, if_true, if_false]
            refine (show _ from hv2).trans ?_
            rw [e_X12_copyNames_62]
            simp only [e_X12_copyNames_63, e_X12_copyNames_64, e_X12_copyNames_67, e_X12_copyNames_68, e_X12_copyNames_69, e_X12_copyNames_72, e_X12_copyNames_73, e_X12_copyNames_76, e_X12_copyNames_78, e_X12_copyNames_79, e_X12_copyNames_80, e_X12_copyNames_81, e_X12_copyNames_82, e_X12_copyNames_83, e_X12_copyNames_86, e_X12_copyNames_88, e_X12_copyNames_89, e_X12_copyNames_90, e_X12_copyNames_91, e_X12_copyNames_92, e_X12_copyNames_93, e_X12_copyNames_96, e_X12_copyNames_99, e_X12_copyNames_100, e_X12_copyNames_103, e_X12_copyNames_104, e_X12_copyNames_105, cA_6, cA_12, cA_18, cA_30, cA_42, cA_54, cA_66, cA_78, cA_90, cA_102, cA_114, cA_126, cA_138, cA_210, cA_222, lc_0, lc_1, lc_2, lc_3, lc_4, lc_5, g_143_20, q_148, hW.c1 hR1, if_pos (nI_le (Nat.le_refl N) (show N < 2 ^ 31 by omega)), Option.bind_some, Option.isSome_some, Option.toList, List.cons_append, List.nil_append, zclr_i, zclr_r, zclr_n, zfit_i, zfit_l, and_self, if_true, if_false]
            rfl
          · rw [zr_same, zr_far _ _ (show 8 + u ≠ 146 by omega), hz2 u j hu hj]
            by_cases eu : u = t
            · subst eu
              rw [zr_same, hz1 j]
              by_cases ej : j < N
              · rw [if_pos ej, if_pos ⟨rfl, ej⟩]
              · rw [if_neg ej, if_neg (fun e => ej e.2)]
                exact y3 u j hu hj hlt
            · rw [zr_far _ _ (by omega), if_neg (fun e => eu e.1)]
              exact y3 u j hu hj hlt
        · intro p r hp
          have hp60 : p < 60 := by omega
          rw [e_X11_copyNames_42]
          simp only [e_X11_copyNames_43, e_X11_copyNames_44, e_X11_copyNames_47, e_X11_copyNames_50, e_X11_copyNames_53, e_X11_copyNames_54, e_X11_copyNames_57, e_X11_copyNames_58, e_X11_copyNames_59, e_X11_copyNames_60, e_X11_copyNames_63, e_X11_copyNames_66, e_X11_copyNames_67, e_X11_copyNames_68, e_X11_copyNames_69, e_X11_copyNames_72, e_X11_copyNames_75, c_3, c_4, g_3_3, g_3_7, g_T0_4 t16, g_T0_12 t16, hW.hN, if_neg (nI_ge hp (show N < 2 ^ 31 by omega)), l_T7 t16 (show p < 12 by omega), y_put ht hp60, hcut p hp, zu_zr, nI_1, Option.bind_some, Option.isSome_some, Option.toList, List.cons_append, List.nil_append, zclr_i, zclr_r, zclr_n, zfit_i, zfit_l, and_self, if_true, if_false]
      · have hNL : ¬ nI N ≤ nI L := by rw [hle]; exact hN
        have hR1 : RT I 16 ((zu (zu (zu I 3 0 4) 143 1 0) 143 0 0) 148) N S := h.R
        refine ⟨.int (-1), zu I 3 0 4, J, st 4 I, J, N, S, ?_, ?_, h.stI⟩
        · rw [m_X11_copyNames]
          simp only [e_X11_copyNames_0, e_X11_copyNames_1, e_X11_copyNames_2, e_X11_copyNames_5, e_X11_copyNames_6, e_X11_copyNames_7, e_X11_copyNames_10, e_X11_copyNames_11, e_X11_copyNames_12, e_X11_copyNames_15, e_X11_copyNames_16, e_X11_copyNames_17, e_X11_copyNames_20, e_X11_copyNames_21, e_X11_copyNames_24, e_X11_copyNames_25, e_X11_copyNames_28, e_X11_copyNames_31, e_X11_copyNames_34, e_X11_copyNames_35, e_X11_copyNames_36, e_X11_copyNames_39, e_X11_copyNames_40, e_X11_copyNames_41, c_3, c_4, g_3_3, g_3_7, g_T0_4 t16, hW.hN, n_trayTrouble, ey, y_length ht, e, if_neg hNL, n_refuse, Option.bind_some, Option.isSome_some, Option.toList, List.cons_append, List.nil_append, zclr_i, zclr_r, zclr_n, zfit_i, zfit_l, and_self, if_true, if_false] <;> first | rfl | simp
        · rw [m_X12_copyNames]
          simp only [e_X12_copyNames_0, e_X12_copyNames_1, e_X12_copyNames_2, e_X12_copyNames_5, e_X12_copyNames_6, e_X12_copyNames_7, e_X12_copyNames_10, e_X12_copyNames_11, e_X12_copyNames_12, e_X12_copyNames_15, e_X12_copyNames_18, e_X12_copyNames_19, e_X12_copyNames_20, e_X12_copyNames_23, e_X12_copyNames_24, e_X12_copyNames_25, e_X12_copyNames_28, e_X12_copyNames_29, e_X12_copyNames_30, e_X12_copyNames_33, e_X12_copyNames_34, e_X12_copyNames_35, e_X12_copyNames_38, e_X12_copyNames_39, e_X12_copyNames_40, e_X12_copyNames_43, e_X12_copyNames_44, e_X12_copyNames_45, e_X12_copyNames_46, e_X12_copyNames_49, e_X12_copyNames_50, e_X12_copyNames_51, e_X12_copyNames_54, e_X12_copyNames_55, e_X12_copyNames_56, e_X12_copyNames_59, e_X12_copyNames_60, e_X12_copyNames_61, cA_6, cA_12, cA_18, cA_30, cA_42, cA_54, cA_66, cA_78, cA_90, cA_102, cA_114, cA_126, cA_138, cA_210, cA_222, lc_0, lc_1, lc_2, lc_3, lc_4, lc_5, g_143_20, q_148, c_143, g_143_0, g_143_1, g_143_5, p_143_0, p_143_1, v_isTray, hx, and_self, decide_true, bI, l_145 ht, m1, e, ge, hW.c1 hR1, if_neg hNL, v_refuse, st_eq, Option.bind_some, Option.isSome_some, Option.toList, List.cons_append, List.nil_append, zclr_i, zclr_r, zclr_n, zfit_i, zfit_l, and_self, if_true, if_false] <;> first | rfl | simp
  · have ey : yTrouble I x = 1 := by
      unfold yTrouble
      rw [if_neg hx]
    refine ⟨.int (-1), zu I 3 0 1, J, st 1 I, J, N, S, ?_, ?_, h.stI⟩
    · rw [m_X11_copyNames]
      simp only [e_X11_copyNames_0, e_X11_copyNames_1, e_X11_copyNames_2, e_X11_copyNames_5, e_X11_copyNames_6, e_X11_copyNames_7, e_X11_copyNames_10, e_X11_copyNames_11, e_X11_copyNames_12, e_X11_copyNames_15, e_X11_copyNames_16, e_X11_copyNames_17, e_X11_copyNames_20, e_X11_copyNames_21, e_X11_copyNames_24, e_X11_copyNames_25, e_X11_copyNames_28, e_X11_copyNames_31, e_X11_copyNames_34, e_X11_copyNames_35, e_X11_copyNames_36, e_X11_copyNames_39, e_X11_copyNames_40, e_X11_copyNames_41, c_3, n_trayTrouble, ey, n_refuse, Option.bind_some, Option.isSome_some, Option.toList, List.cons_append, List.nil_append, zclr_i, zclr_r, zclr_n, zfit_i, zfit_l, and_self, if_true, if_false] <;> first | rfl | simp
    · rw [m_X12_copyNames]
      simp only [e_X12_copyNames_0, e_X12_copyNames_1, e_X12_copyNames_2, e_X12_copyNames_5, e_X12_copyNames_6, e_X12_copyNames_7, e_X12_copyNames_10, e_X12_copyNames_11, e_X12_copyNames_12, e_X12_copyNames_15, e_X12_copyNames_18, e_X12_copyNames_19, e_X12_copyNames_20, e_X12_copyNames_23, e_X12_copyNames_24, e_X12_copyNames_25, e_X12_copyNames_28, e_X12_copyNames_29, e_X12_copyNames_30, e_X12_copyNames_33, e_X12_copyNames_34, e_X12_copyNames_35, e_X12_copyNames_38, e_X12_copyNames_39, e_X12_copyNames_40, e_X12_copyNames_43, e_X12_copyNames_44, e_X12_copyNames_45, e_X12_copyNames_46, e_X12_copyNames_49, e_X12_copyNames_50, e_X12_copyNames_51, e_X12_copyNames_54, e_X12_copyNames_55, e_X12_copyNames_56, e_X12_copyNames_59, e_X12_copyNames_60, e_X12_copyNames_61, c_143, g_143_0, g_143_1, p_143_0, p_143_1, v_isTray, bI_f hx, v_refuse, st_eq, Option.bind_some, Option.isSome_some, Option.toList, List.cons_append, List.nil_append, zclr_i, zclr_r, zclr_n, zfit_i, zfit_l, and_self, if_true, if_false] <;> first | rfl | simp
end QZ
