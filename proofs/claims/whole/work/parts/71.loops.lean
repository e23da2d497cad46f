/-! THE REFERENCE: years gone in a loop -/
section LY
variable {n m : Nat} {g : Nat → zC} {I A : Nat → Nat → Int32} {J : Nat → Nat → Int64} {b N S U k : Nat}
theorem lp_year {w : Int32} (hW : WT A b N S U) (hU : U + k ≤ 9999) (hR : RT A b (I 148) N S) (d : Nat) : ∃ c', zexec (d + 5) 333 56 [some (.ref 143), some (.int (nI k)), some (.int w), some (.int (nI 0))] [] (mk n m g I J) = zexec (d + 5) 333 56 [some (.ref 143), some (.int (nI k)), some (.int w), some (.int (nI k))] [] (mk n m g (zr I 148 c') J) ∧ RT (tYears A b N k).2 b c' N S ∧ ∀ j, 234 ≤ j → c' j = I 148 j := by
  have l1 := zloopR (fun t (c : Nat → Int32) => zexec (d + 5) 333 56 [some (.ref 143), some (.int (nI k)), some (.int w), some (.int (nI t))] [] (mk n m g (zr I 148 c) J)) (fun t (x : Int32 × (Nat → Nat → Int32)) c => WT x.2 b N S (U + t) ∧ RT x.2 b c N S ∧ ∀ j, 234 ≤ j → c j = I 148 j) (fun _ x => (x.1 ||| (yDead x.2 b N).1, tYear x.2 b N)) k ?_ k 0 (0, A) (I 148) (by omega) ⟨hW, hR, fun _ _ => rfl⟩
  · obtain ⟨c', h1, h2, h3, h4⟩ := l1
    rw [zr_id] at h1
    exact ⟨c', h1, h3, h4⟩
  · rintro t x c ht ⟨w, r, f⟩
    obtain ⟨c1, f1, e1, _, r1, fr1⟩ := v_goesYear (n := n) (m := m) (g := g) (J := J) (I := zr I 148 c) w (by omega) (by rw [zr_same]; exact r) d
    rw [zr_zr] at e1
    rw [zr_same] at fr1
    refine ⟨c1, ?_, w.yearW (by omega), r1, fun j hj => by rw [fr1 j hj, f j hj]⟩
    rw [e_X12_year_56]
    simp only [e_X12_year_0, e_X12_year_1, e_X12_year_2, e_X12_year_5, e_X12_year_6, e_X12_year_7, e_X12_year_10, e_X12_year_11, e_X12_year_12, e_X12_year_13, e_X12_year_16, e_X12_year_19, e_X12_year_22, e_X12_year_23, e_X12_year_24, e_X12_year_27, e_X12_year_28, e_X12_year_29, e_X12_year_32, e_X12_year_33, e_X12_year_34, e_X12_year_35, e_X12_year_36, e_X12_year_39, e_X12_year_42, e_X12_year_43, e_X12_year_45, e_X12_year_48, e_X12_year_49, e_X12_year_50, e_X12_year_53, e_X12_year_54, e_X12_year_55, e_X12_year_57, e_X12_year_58, e_X12_year_61, e_X12_year_62, e_X12_year_65, e_X12_year_66, e_X12_year_69, e_X12_year_72, e_X12_year_73, e_X12_year_74, e_X12_year_77, e_X12_year_78, e_X12_year_79, e_X12_year_80, c_143, if_neg (nI_ge ht (show k < 2 ^ 31 by omega)), e1, nI_1, Option.bind_some, Option.isSome_some, Option.toList, List.cons_append, List.nil_append, zclr_i, zclr_r, zclr_n, zfit_i, zfit_l, and_self, if_true, if_false]
theorem lp_livingIn (hW : WT A b N S U) (hU : U + k ≤ 9999) (hR : RT A b (I 148) N S) (d : Nat) : ∃ c', zexec (d + 5) 363 34 [some (.ref 143), some (.int (nI k)), some (.int (nI 0))] [] (mk n m g I J) = zexec (d + 5) 363 34 [some (.ref 143), some (.int (nI k)), some (.int (nI k))] [] (mk n m g (zr I 148 c') J) ∧ RT (tYears A b N k).2 b c' N S ∧ ∀ j, 234 ≤ j → c' j = I 148 j := by
  have l1 := zloopR (fun t (c : Nat → Int32) => zexec (d + 5) 363 34 [some (.ref 143), some (.int (nI k)), some (.int (nI t))] [] (mk n m g (zr I 148 c) J)) (fun t (x : Int32 × (Nat → Nat → Int32)) c => WT x.2 b N S (U + t) ∧ RT x.2 b c N S ∧ ∀ j, 234 ≤ j → c j = I 148 j) (fun _ x => (x.1 ||| (yDead x.2 b N).1, tYear x.2 b N)) k ?_ k 0 (0, A) (I 148) (by omega) ⟨hW, hR, fun _ _ => rfl⟩
  · obtain ⟨c', h1, h2, h3, h4⟩ := l1
    rw [zr_id] at h1
    exact ⟨c', h1, h3, h4⟩
  · rintro t x c ht ⟨w, r, f⟩
    obtain ⟨c1, f1, e1, _, r1, fr1⟩ := v_goesYear (n := n) (m := m) (g := g) (J := J) (I := zr I 148 c) w (by omega) (by rw [zr_same]; exact r) d
    rw [zr_zr] at e1
    rw [zr_same] at fr1
    refine ⟨c1, ?_, w.yearW (by omega), r1, fun j hj => by rw [fr1 j hj, f j hj]⟩
    rw [e_X12_livingIn_34]
    simp only [e_X12_livingIn_0, e_X12_livingIn_1, e_X12_livingIn_2, e_X12_livingIn_5, e_X12_livingIn_6, e_X12_livingIn_7, e_X12_livingIn_10, e_X12_livingIn_11, e_X12_livingIn_12, e_X12_livingIn_13, e_X12_livingIn_16, e_X12_livingIn_19, e_X12_livingIn_22, e_X12_livingIn_23, e_X12_livingIn_24, e_X12_livingIn_27, e_X12_livingIn_28, e_X12_livingIn_29, e_X12_livingIn_32, e_X12_livingIn_33, e_X12_livingIn_35, e_X12_livingIn_36, e_X12_livingIn_39, e_X12_livingIn_40, e_X12_livingIn_43, e_X12_livingIn_44, e_X12_livingIn_47, e_X12_livingIn_50, e_X12_livingIn_51, e_X12_livingIn_54, e_X12_livingIn_55, e_X12_livingIn_56, e_X12_livingIn_59, e_X12_livingIn_60, c_143, if_neg (nI_ge ht (show k < 2 ^ 31 by omega)), e1, nI_1, Option.bind_some, Option.isSome_some, Option.toList, List.cons_append, List.nil_append, zclr_i, zclr_r, zclr_n, zfit_i, zfit_l, and_self, if_true, if_false]
theorem lp_bearsIn {w : Int32} (hW : WT A b N S U) (hU : U + k ≤ 9999) (hR : RT A b (I 148) N S) (d : Nat) : ∃ c', zexec (d + 5) 364 48 [some (.ref 143), some (.int w), some (.int (nI k)), some (.int (nI 0))] [] (mk n m g I J) = zexec (d + 5) 364 48 [some (.ref 143), some (.int w), some (.int (nI k)), some (.int (nI k))] [] (mk n m g (zr I 148 c') J) ∧ RT (tYears A b N k).2 b c' N S ∧ ∀ j, 234 ≤ j → c' j = I 148 j := by
  have l1 := zloopR (fun t (c : Nat → Int32) => zexec (d + 5) 364 48 [some (.ref 143), some (.int w), some (.int (nI k)), some (.int (nI t))] [] (mk n m g (zr I 148 c) J)) (fun t (x : Int32 × (Nat → Nat → Int32)) c => WT x.2 b N S (U + t) ∧ RT x.2 b c N S ∧ ∀ j, 234 ≤ j → c j = I 148 j) (fun _ x => (x.1 ||| (yDead x.2 b N).1, tYear x.2 b N)) k ?_ k 0 (0, A) (I 148) (by omega) ⟨hW, hR, fun _ _ => rfl⟩
  · obtain ⟨c', h1, h2, h3, h4⟩ := l1
    rw [zr_id] at h1
    exact ⟨c', h1, h3, h4⟩
  · rintro t x c ht ⟨w, r, f⟩
    obtain ⟨c1, f1, e1, _, r1, fr1⟩ := v_goesYear (n := n) (m := m) (g := g) (J := J) (I := zr I 148 c) w (by omega) (by rw [zr_same]; exact r) d
    rw [zr_zr] at e1
    rw [zr_same] at fr1
    refine ⟨c1, ?_, w.yearW (by omega), r1, fun j hj => by rw [fr1 j hj, f j hj]⟩
    rw [e_X12_bearsIn_48]
    simp only [e_X12_bearsIn_0, e_X12_bearsIn_1, e_X12_bearsIn_2, e_X12_bearsIn_5, e_X12_bearsIn_6, e_X12_bearsIn_7, e_X12_bearsIn_10, e_X12_bearsIn_11, e_X12_bearsIn_12, e_X12_bearsIn_15, e_X12_bearsIn_18, e_X12_bearsIn_19, e_X12_bearsIn_20, e_X12_bearsIn_23, e_X12_bearsIn_24, e_X12_bearsIn_25, e_X12_bearsIn_26, e_X12_bearsIn_27, e_X12_bearsIn_30, e_X12_bearsIn_33, e_X12_bearsIn_36, e_X12_bearsIn_37, e_X12_bearsIn_38, e_X12_bearsIn_41, e_X12_bearsIn_42, e_X12_bearsIn_43, e_X12_bearsIn_46, e_X12_bearsIn_47, e_X12_bearsIn_49, e_X12_bearsIn_50, e_X12_bearsIn_53, e_X12_bearsIn_54, e_X12_bearsIn_57, e_X12_bearsIn_58, e_X12_bearsIn_61, e_X12_bearsIn_64, e_X12_bearsIn_65, e_X12_bearsIn_66, e_X12_bearsIn_69, e_X12_bearsIn_72, e_X12_bearsIn_73, e_X12_bearsIn_76, e_X12_bearsIn_78, e_X12_bearsIn_79, e_X12_bearsIn_80, e_X12_bearsIn_81, e_X12_bearsIn_84, e_X12_bearsIn_85, e_X12_bearsIn_86, e_X12_bearsIn_87, e_X12_bearsIn_90, e_X12_bearsIn_91, e_X12_bearsIn_94, e_X12_bearsIn_95, e_X12_bearsIn_97, e_X12_bearsIn_100, e_X12_bearsIn_103, e_X12_bearsIn_104, c_143, if_neg (nI_ge ht (show k < 2 ^ 31 by omega)), e1, nI_1, Option.bind_some, Option.isSome_some, Option.toList, List.cons_append, List.nil_append, zclr_i, zclr_r, zclr_n, zfit_i, zfit_l, and_self, if_true, if_false]
theorem lp_dashesIn (hW : WT A b N S U) (hU : U + k ≤ 9999) (hR : RT A b (I 148) N S) (d : Nat) : ∃ c', zexec (d + 5) 365 34 [some (.ref 143), some (.int (nI k)), some (.int (nI 0))] [] (mk n m g I J) = zexec (d + 5) 365 34 [some (.ref 143), some (.int (nI k)), some (.int (nI k))] [] (mk n m g (zr I 148 c') J) ∧ RT (tYears A b N k).2 b c' N S ∧ ∀ j, 234 ≤ j → c' j = I 148 j := by
  have l1 := zloopR (fun t (c : Nat → Int32) => zexec (d + 5) 365 34 [some (.ref 143), some (.int (nI k)), some (.int (nI t))] [] (mk n m g (zr I 148 c) J)) (fun t (x : Int32 × (Nat → Nat → Int32)) c => WT x.2 b N S (U + t) ∧ RT x.2 b c N S ∧ ∀ j, 234 ≤ j → c j = I 148 j) (fun _ x => (x.1 ||| (yDead x.2 b N).1, tYear x.2 b N)) k ?_ k 0 (0, A) (I 148) (by omega) ⟨hW, hR, fun _ _ => rfl⟩
  · obtain ⟨c', h1, h2, h3, h4⟩ := l1
    rw [zr_id] at h1
    exact ⟨c', h1, h3, h4⟩
  · rintro t x c ht ⟨w, r, f⟩
    obtain ⟨c1, f1, e1, _, r1, fr1⟩ := v_goesYear (n := n) (m := m) (g := g) (J := J) (I := zr I 148 c) w (by omega) (by rw [zr_same]; exact r) d
    rw [zr_zr] at e1
    rw [zr_same] at fr1
    refine ⟨c1, ?_, w.yearW (by omega), r1, fun j hj => by rw [fr1 j hj, f j hj]⟩
    rw [e_X12_dashesIn_34]
    simp only [e_X12_dashesIn_0, e_X12_dashesIn_1, e_X12_dashesIn_2, e_X12_dashesIn_5, e_X12_dashesIn_6, e_X12_dashesIn_7, e_X12_dashesIn_10, e_X12_dashesIn_11, e_X12_dashesIn_12, e_X12_dashesIn_13, e_X12_dashesIn_16, e_X12_dashesIn_19, e_X12_dashesIn_22, e_X12_dashesIn_23, e_X12_dashesIn_24, e_X12_dashesIn_27, e_X12_dashesIn_28, e_X12_dashesIn_29, e_X12_dashesIn_32, e_X12_dashesIn_33, e_X12_dashesIn_35, e_X12_dashesIn_36, e_X12_dashesIn_39, e_X12_dashesIn_40, e_X12_dashesIn_43, e_X12_dashesIn_44, e_X12_dashesIn_47, e_X12_dashesIn_50, e_X12_dashesIn_51, e_X12_dashesIn_54, e_X12_dashesIn_57, e_X12_dashesIn_58, e_X12_dashesIn_59, e_X12_dashesIn_62, e_X12_dashesIn_63, c_143, if_neg (nI_ge ht (show k < 2 ^ 31 by omega)), e1, nI_1, Option.bind_some, Option.isSome_some, Option.toList, List.cons_append, List.nil_append, zclr_i, zclr_r, zclr_n, zfit_i, zfit_l, and_self, if_true, if_false]
end LY
