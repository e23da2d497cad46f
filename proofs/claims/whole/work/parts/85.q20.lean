/-! CALLS: tray, write, read -/
section QV
variable {n m : Nat} {g : Nat → zC} {I I2 A : Nat → Nat → Int32} {J J2 : Nat → Nat → Int64} {N S : Nat}
def keepB (a : Nat) : Bool := (16 ≤ a && a < 33) || (50 ≤ a && a < 56) || a == 148 || (74 ≤ a && a < 143)
def keepC (a : Nat) : Bool := a == 17 || a == 20 || a == 151 || (74 ≤ a && a < 143)
theorem keepB_ne {a r : Nat} (ha : keepB a = true) (hr : keepB r = false) : a ≠ r := fun e => by rw [e, hr] at ha; exact absurd ha (by decide)
theorem keepC_ne {a r : Nat} (ha : keepC a = true) (hr : keepC r = false) : a ≠ r := fun e => by rw [e, hr] at ha; exact absurd ha (by decide)
theorem Inv.build (h : Inv I J N S) (hI : ∀ a, keepB a = true → I2 a = I a) (hJ : ∀ a, keepC a = true → J2 a = J a) (h1 : I2 3 0 = I2 143 0) (h2 : J2 3 1 = J2 143 2 ∧ J2 3 2 = J2 143 3) (h3 : trayOk I2 J2) (h4 : tapeOk I2) (h5 : readOk I2 J2) (h6 : pointOk I2) (h7 : lifeOk I2) (h8 : I2 3 17 = I 3 17) (h9 : I2 143 24 = I 143 24) : Inv I2 J2 N S := by
  have ht : ∀ i, i < 17 → I2 (16 + i) = I (16 + i) := fun i hi => hI _ (by unfold keepB; simp; omega)
  have hs : ∀ r, r < 6 → I2 (50 + r) = I (50 + r) := fun i hi => hI _ (by unfold keepB; simp; omega)
  have h148 : I2 148 = I 148 := hI 148 rfl
  have h151 : J2 151 = J 151 := hJ 151 rfl
  refine ⟨h.W.far ht, by rw [h148]; exact h.R.far ht, ?_, ?_, h1, h2, h3, h4, h5, h6, h7, ?_⟩
  · have := h.jw
    unfold JW at *
    rw [h151, hJ (16 + 1) rfl, hJ (16 + 4) rfl]
    exact this
  · rw [h148]
    exact h.cs.far hs (fun _ _ _ => rfl)
  · obtain ⟨K, k1, k2, k3, k4⟩ := h.marks
    refine ⟨K, k1, by rw [h8]; exact k2, by rw [h9]; exact k3, fun k hk => ?_⟩
    obtain ⟨N1, S1, w1, r1, j1, c1⟩ := k4 k hk
    have hk1 : ∀ r, r < 17 → I2 (74 + 23 * k + r) = I (74 + 23 * k + r) := fun r hr => hI _ (by unfold keepB; simp; omega)
    have hk2 : ∀ r, r < 6 → I2 (91 + 23 * k + r) = I (91 + 23 * k + r) := fun r hr => hI _ (by unfold keepB; simp; omega)
    have hk3 : ∀ r, r < 17 → J2 (74 + 23 * k + r) = J (74 + 23 * k + r) := fun r hr => hJ _ (by unfold keepC; simp; omega)
    refine ⟨N1, S1, w1.far hk1, ?_, ?_, ?_⟩
    · rw [h148]
      exact r1.far hk1
    · rw [h151]
      unfold JW
      rw [hk3 1 (by decide), hk3 4 (by decide)]
      exact j1
    · rw [h148]
      exact c1.far hk2 (fun _ _ _ => rfl)
/-- trays alone are other -/
theorem Inv.tr (h : Inv I J N S) (hI : ∀ a, a ≠ 5 → a ≠ 6 → a ≠ 144 → a ≠ 145 → I2 a = I a) (hJ : ∀ a, (a < 8 ∨ 12 ≤ a) → a ≠ 146 → J2 a = J a) (ht : trayOk I2 J2) : Inv I2 J2 N S := by
  have e3 : I2 3 = I 3 := hI 3 (by decide) (by decide) (by decide) (by decide)
  have e143 : I2 143 = I 143 := hI 143 (by decide) (by decide) (by decide) (by decide)
  refine h.build (fun a ha => hI a (keepB_ne ha rfl) (keepB_ne ha rfl) (keepB_ne ha rfl) (keepB_ne ha rfl)) (fun a ha => hJ a (by unfold keepC at ha; simp at ha; omega) (keepC_ne ha rfl)) ?_ ?_ ht ?_ ?_ ?_ ?_ ?_ ?_
  · rw [e3, e143]; exact h.stq
  · rw [hJ 3 (Or.inl (by decide)) (by decide), hJ 143 (Or.inr (by decide)) (by decide)]; exact h.tb
  · unfold tapeOk
    rw [e3, e143, hI 12 (by decide) (by decide) (by decide) (by decide), hI 147 (by decide) (by decide) (by decide) (by decide)]
    exact h.tape
  · unfold readOk
    rw [e143, hI 13 (by decide) (by decide) (by decide) (by decide), hJ 14 (Or.inr (by decide)) (by decide)]
    exact h.rd
  · unfold pointOk
    rw [hI 71 (by decide) (by decide) (by decide) (by decide)]
    exact h.pt
  · unfold lifeOk
    rw [e143, hI 62 (by decide) (by decide) (by decide) (by decide), hI 157 (by decide) (by decide) (by decide) (by decide)]
    exact h.life
  · rw [e3]
  · rw [e143]
theorem nI_60 (t k : Nat) : (60 : Int32) * nI t + nI k = nI (60 * t + k) := by
  rw [show (60 : Int32) = nI 60 from rfl, pk_mul, nI_add]
theorem q_tray {x s k : Int32} (h : Inv I J N S) (d : Nat) : Eqv (d + 30) 157 243 [.int x, .int s, .int k] n m g I J := by
  have hn := n_tray (n := n) (m := m) (g := g) (I := I) (J := J) (x := x) (s := s) (k := k) (d + 28)
  by_cases hx : (0 ≤ x ∧ x < 4) ∧ (0 ≤ s ∧ s ≤ 3)
  · by_cases h1 : 60 < k
    · have e : yNew x s k = 5 := by simp [yNew, hx, h1]
      rw [e] at hn
      refine ⟨.int 0, zu I 3 0 5, J, st 5 I, J, N, S, hn, ?_, h.stI⟩
      rw [m_X12_tray]
      simp only [e_X12_tray_0, e_X12_tray_1, e_X12_tray_2, e_X12_tray_5, e_X12_tray_6, e_X12_tray_7, e_X12_tray_10, e_X12_tray_11, e_X12_tray_14, e_X12_tray_15, e_X12_tray_16, e_X12_tray_19, e_X12_tray_20, e_X12_tray_23, e_X12_tray_24, e_X12_tray_25, e_X12_tray_28, e_X12_tray_29, e_X12_tray_30, e_X12_tray_33, e_X12_tray_34, e_X12_tray_35, e_X12_tray_37, e_X12_tray_40, e_X12_tray_41, e_X12_tray_42, e_X12_tray_45, e_X12_tray_46, e_X12_tray_47, e_X12_tray_50, e_X12_tray_51, e_X12_tray_53, e_X12_tray_56, e_X12_tray_57, e_X12_tray_58, e_X12_tray_61, e_X12_tray_62, e_X12_tray_63, e_X12_tray_64, e_X12_tray_65, e_X12_tray_68, e_X12_tray_69, e_X12_tray_70, e_X12_tray_71, e_X12_tray_72, e_X12_tray_74, e_X12_tray_76, e_X12_tray_77, e_X12_tray_80, e_X12_tray_81, e_X12_tray_84, e_X12_tray_86, e_X12_tray_87, e_X12_tray_88, e_X12_tray_90, e_X12_tray_91, e_X12_tray_92, e_X12_tray_93, e_X12_tray_96, e_X12_tray_99, e_X12_tray_100, c_143, g_143_0, g_143_1, p_143_0, p_143_1, v_no, st_eq, if_neg (Int32.not_lt.mpr hx.1.1), if_neg (Int32.not_le.mpr hx.1.2), if_neg (Int32.not_lt.mpr hx.2.1), if_pos hx.2.2, if_neg (Int32.not_le.mpr h1), zfit_b0, Option.bind_some, Option.isSome_some, Option.toList, List.cons_append, List.nil_append, zclr_i, zclr_r, zclr_n, zfit_i, zfit_l, and_self, if_true, if_false]
    · by_cases h2 : k < 0
      · have e : yNew x s k = 6 := by simp [yNew, hx, h1, h2]
        rw [e] at hn
        refine ⟨.int 0, zu I 3 0 6, J, st 6 I, J, N, S, hn, ?_, h.stI⟩
        rw [m_X12_tray]
        simp only [e_X12_tray_0, e_X12_tray_1, e_X12_tray_2, e_X12_tray_5, e_X12_tray_6, e_X12_tray_7, e_X12_tray_10, e_X12_tray_11, e_X12_tray_14, e_X12_tray_15, e_X12_tray_16, e_X12_tray_19, e_X12_tray_20, e_X12_tray_23, e_X12_tray_24, e_X12_tray_25, e_X12_tray_28, e_X12_tray_29, e_X12_tray_30, e_X12_tray_33, e_X12_tray_34, e_X12_tray_35, e_X12_tray_37, e_X12_tray_40, e_X12_tray_41, e_X12_tray_42, e_X12_tray_45, e_X12_tray_46, e_X12_tray_47, e_X12_tray_50, e_X12_tray_51, e_X12_tray_53, e_X12_tray_56, e_X12_tray_57, e_X12_tray_58, e_X12_tray_61, e_X12_tray_62, e_X12_tray_63, e_X12_tray_64, e_X12_tray_65, e_X12_tray_68, e_X12_tray_69, e_X12_tray_70, e_X12_tray_71, e_X12_tray_72, e_X12_tray_74, e_X12_tray_76, e_X12_tray_77, e_X12_tray_80, e_X12_tray_81, e_X12_tray_84, e_X12_tray_86, e_X12_tray_87, e_X12_tray_88, e_X12_tray_90, e_X12_tray_91, e_X12_tray_92, e_X12_tray_93, e_X12_tray_96, e_X12_tray_99, e_X12_tray_100, c_143, g_143_0, g_143_1, p_143_0, p_143_1, v_no, st_eq, if_neg (Int32.not_lt.mpr hx.1.1), if_neg (Int32.not_le.mpr hx.1.2), if_neg (Int32.not_lt.mpr hx.2.1), if_pos hx.2.2, if_pos (Int32.not_lt.mp h1), if_neg (Int32.not_le.mpr h2), zfit_b0, Option.bind_some, Option.isSome_some, Option.toList, List.cons_append, List.nil_append, zclr_i, zclr_r, zclr_n, zfit_i, zfit_l, and_self, if_true, if_false]
      · have e : yNew x s k = 0 := by simp [yNew, hx, h1, h2]
        obtain ⟨t, ht, rfl⟩ := tray_cases x hx.1
        obtain ⟨K, _, hK, rfl⟩ := range_nI (x := k) (lo := 0) (hi := 60) (by decide) (by decide) ⟨Int32.not_lt.mp h2, Int32.not_lt.mp h1⟩
        rw [e, nI_clamp (by omega)] at hn
        simp only [if_true, decide_true, bI] at hn
        have hst : zcall (d + 30) 243 [.ref 143, .int (nI t), .int s, .int (nI K)] (mk n m g (zu (zu (zu I 5 t s) 6 t (nI K)) 3 0 0) (zr J (8 + t) (fun j => if j < 60 then 0 else J (8 + t) j))) = zexec (d + 30) 243 74 [some (.ref 143), some (.int (nI t)), some (.int s), some (.int (nI K)), some (.int (nI 0))] [] (mk n m g (zu (zu (zu (zu (zu (zu (zu I 5 t s) 6 t (nI K)) 3 0 0) 143 1 0) 143 0 0) 144 t s) 145 t (nI K)) (zr J (8 + t) (fun j => if j < 60 then 0 else J (8 + t) j))) := by
          rw [m_X12_tray]
          simp only [e_X12_tray_0, e_X12_tray_1, e_X12_tray_2, e_X12_tray_5, e_X12_tray_6, e_X12_tray_7, e_X12_tray_10, e_X12_tray_11, e_X12_tray_14, e_X12_tray_15, e_X12_tray_16, e_X12_tray_19, e_X12_tray_20, e_X12_tray_23, e_X12_tray_24, e_X12_tray_25, e_X12_tray_28, e_X12_tray_29, e_X12_tray_30, e_X12_tray_33, e_X12_tray_34, e_X12_tray_35, e_X12_tray_37, e_X12_tray_40, e_X12_tray_41, e_X12_tray_42, e_X12_tray_45, e_X12_tray_46, e_X12_tray_47, e_X12_tray_50, e_X12_tray_51, e_X12_tray_53, e_X12_tray_56, e_X12_tray_57, e_X12_tray_58, e_X12_tray_61, e_X12_tray_62, e_X12_tray_63, e_X12_tray_64, e_X12_tray_65, e_X12_tray_68, e_X12_tray_69, e_X12_tray_70, e_X12_tray_71, e_X12_tray_72, c_143, g_143_0, g_143_1, g_143_4, g_143_5, p_143_0, p_143_1, if_neg (Int32.not_lt.mpr hx.1.1), if_neg (Int32.not_le.mpr hx.1.2), if_neg (Int32.not_lt.mpr hx.2.1), if_pos hx.2.2, if_pos (Int32.not_lt.mp h1), if_pos (Int32.not_lt.mp h2), nI_neg (show t < 2 ^ 31 by omega), nI_clamp (show t < 2 ^ 31 by omega), k_144 ht, k_145 ht, q_144, q_145, Option.bind_some, Option.isSome_some, Option.toList, List.cons_append, List.nil_append, zclr_i, zclr_r, zclr_n, zfit_i, zfit_l, and_self, if_true, if_false]
          rfl
        have hl := zloop (fun j (x : Nat → Int64) => zexec (d + 30) 243 74 [some (.ref 143), some (.int (nI t)), some (.int s), some (.int (nI K)), some (.int (nI j))] [] (mk n m g (zu (zu (zu (zu (zu (zu (zu I 5 t s) 6 t (nI K)) 3 0 0) 143 1 0) 143 0 0) 144 t s) 145 t (nI K)) (zr (zr J (8 + t) (fun j => if j < 60 then 0 else J (8 + t) j)) 146 x))) (fun j x => fu x (60 * t + j) 0) K ?_ K 0 (J 146) (by omega)
        · refine ⟨.int 1, _, _, st 0 (zu (zu (zu (zu I 5 t s) 6 t (nI K)) 144 t s) 145 t (nI K)), zr (zr J (8 + t) (fun j => if j < 60 then 0 else J (8 + t) j)) 146 (zfor (fun j x => fu x (60 * t + j) 0) 0 K (J 146)), N, S, hn, hst.trans ?_, Inv.stI (h.tr ?_ ?_ ?_)⟩
          · have hz : zr (zr J (8 + t) (fun j => if j < 60 then 0 else J (8 + t) j)) 146 (J 146) = zr J (8 + t) (fun j => if j < 60 then 0 else J (8 + t) j) := by
              have : J 146 = zr J (8 + t) (fun j => if j < 60 then 0 else J (8 + t) j) 146 := (zr_far _ _ (by omega)).symm
              rw [this, zr_id]
            rw [hz] at hl
            refine hl.trans ?_
            rw [e_X12_tray_74]
            simp only [e_X12_tray_76, e_X12_tray_77, e_X12_tray_80, e_X12_tray_81, e_X12_tray_84, e_X12_tray_86, e_X12_tray_87, e_X12_tray_88, e_X12_tray_90, e_X12_tray_91, e_X12_tray_92, e_X12_tray_93, e_X12_tray_96, e_X12_tray_99, e_X12_tray_100, if_pos (nI_le (Nat.le_refl K) (show K < 2 ^ 31 by omega)), zfit_b1, Option.bind_some, Option.isSome_some, Option.toList, List.cons_append, List.nil_append, zclr_i, zclr_r, zclr_n, zfit_i, zfit_l, and_self, if_true, if_false]
            have : zu (zu (zu (zu (zu (zu (zu I 5 t s) 6 t (nI K)) 3 0 0) 143 1 0) 143 0 0) 144 t s) 145 t (nI K) = st 0 (zu (zu (zu (zu I 5 t s) 6 t (nI K)) 144 t s) 145 t (nI K)) := by
              unfold st
              rw [zu_comm _ 143 144 _ _ _ _ (by decide), zu_comm _ 143 144 _ _ _ _ (by decide), zu_comm _ 3 144 _ _ _ _ (by decide), zu_comm _ 143 145 _ _ _ _ (by decide), zu_comm _ 143 145 _ _ _ _ (by decide), zu_comm _ 3 145 _ _ _ _ (by decide)]
            rw [this]
          · intro a a5 a6 a144 a145
            rw [zu_far _ _ _ a145, zu_far _ _ _ a144, zu_far _ _ _ a6, zu_far _ _ _ a5]
          · intro a a8 a146
            rw [zr_far _ _ a146, zr_far _ _ (by omega)]
          · obtain ⟨y1, y2, y3⟩ := h.tray
            have hcell : ∀ u j, u < 4 → j < 60 → zfor (fun j x => fu x (60 * t + j) 0) 0 K (J 146) (60 * u + j) = if u = t ∧ j < K then 0 else J 146 (60 * u + j) := by
              intro u j hu hj
              have hz := zfor_inv (f := fun i (x : Nat → Int64) => fu x (60 * t + i) 0) (P := fun i x => i ≤ K → x (60 * u + j) = if u = t ∧ j < i then 0 else J 146 (60 * u + j)) ?_ K 0 (J 146) (fun _ => by rw [if_neg (by omega)])
              · rw [Nat.zero_add] at hz
                exact hz (Nat.le_refl K)
              · intro i x hx hi
                have hx := hx (by omega)
                by_cases e1 : u = t ∧ j = i
                · obtain ⟨rfl, rfl⟩ := e1
                  rw [fu_eq, if_pos (by omega)]
                · rw [fu_ne _ _ (by omega), hx]
                  by_cases e2 : u = t ∧ j < i
                  · rw [if_pos e2, if_pos (by omega)]
                  · rw [if_neg e2, if_neg (by omega)]
            refine ⟨?_, ?_, ?_⟩
            · intro u hu
              rw [zu_far _ _ _ (by decide), zu_far _ _ _ (by decide), zu_row]
              by_cases e1 : u = t
              · rw [if_pos e1]
                exact Or.inr ⟨K, hK, rfl⟩
              · rw [if_neg e1, zu_far _ _ _ (by decide)]
                exact y1 u hu
            · intro u hu
              obtain ⟨e1, e2⟩ := y2 u hu
              rw [zu_far _ _ _ (by decide), zu_far _ _ _ (by decide), zu_far _ _ _ (by decide), zu_row, zu_far _ _ _ (by decide), zu_row, zu_far _ _ _ (by decide), zu_far _ _ _ (by decide), zu_far _ _ _ (by decide), zu_far _ _ _ (by decide), zu_row, zu_far _ _ _ (by decide), zu_row, zu_far _ _ _ (by decide), zu_far _ _ _ (by decide), zu_far _ _ _ (by decide), e1, e2]
              exact ⟨rfl, rfl⟩
            · intro u j hu hj hlt
              rw [zu_far _ _ _ (by decide), zu_far _ _ _ (by decide), zu_row] at hlt
              rw [zr_same, zr_far _ _ (show 8 + u ≠ 146 by omega), hcell u j hu hj]
              by_cases e1 : u = t
              · subst e1
                rw [if_pos rfl, nI_ltq (by omega) (by omega)] at hlt
                rw [zr_same, if_pos hj, if_pos ⟨rfl, hlt⟩]
              · rw [if_neg e1, zu_far _ _ _ (by decide)] at hlt
                rw [zr_far _ _ (by omega), if_neg (by omega)]
                exact y3 u j hu hj hlt
        · intro j x hj
          rw [e_X12_tray_74]
          simp only [e_X12_tray_76, e_X12_tray_77, e_X12_tray_80, e_X12_tray_81, e_X12_tray_84, e_X12_tray_86, e_X12_tray_87, e_X12_tray_88, e_X12_tray_90, e_X12_tray_91, e_X12_tray_92, e_X12_tray_93, e_X12_tray_96, g_143_6, nI_60, if_neg (nI_ge hj (show K < 2 ^ 31 by omega)), nI_neg (show 60 * t + j < 2 ^ 31 by omega), nI_clamp (show 60 * t + j < 2 ^ 31 by omega), k_146 (show 60 * t + j < 240 by omega), q_146, zu_zr, nI_1, Option.bind_some, Option.isSome_some, Option.toList, List.cons_append, List.nil_append, zclr_i, zclr_r, zclr_n, zfit_i, zfit_l, and_self, if_true, if_false]
  · have e : yNew x s k = 1 := by
      unfold yNew
      rw [if_neg hx]
    rw [e] at hn
    refine ⟨.int 0, zu I 3 0 1, J, st 1 I, J, N, S, hn, ?_, h.stI⟩
    rw [m_X12_tray]
    simp only [e_X12_tray_0, e_X12_tray_1, e_X12_tray_2, e_X12_tray_5, e_X12_tray_6, e_X12_tray_7, e_X12_tray_10, e_X12_tray_11, e_X12_tray_14, e_X12_tray_15, e_X12_tray_16, e_X12_tray_19, e_X12_tray_20, e_X12_tray_23, e_X12_tray_24, e_X12_tray_25, e_X12_tray_28, e_X12_tray_29, e_X12_tray_30, e_X12_tray_33, e_X12_tray_34, e_X12_tray_35, e_X12_tray_37, e_X12_tray_40, e_X12_tray_41, e_X12_tray_42, e_X12_tray_45, e_X12_tray_46, e_X12_tray_47, e_X12_tray_50, e_X12_tray_51, e_X12_tray_53, e_X12_tray_56, e_X12_tray_57, e_X12_tray_58, e_X12_tray_61, e_X12_tray_62, e_X12_tray_63, e_X12_tray_64, e_X12_tray_65, e_X12_tray_68, e_X12_tray_69, e_X12_tray_70, e_X12_tray_71, e_X12_tray_72, c_143, g_143_0, g_143_1, p_143_0, p_143_1, v_no, st_eq, zfit_b0, Option.bind_some, Option.isSome_some, Option.toList, List.cons_append, List.nil_append, zclr_i, zclr_r, zclr_n, zfit_i, zfit_l, and_self, if_true, if_false]
    by_cases g1 : x < 0
    · simp [g1]
    · by_cases g2 : 4 ≤ x
      · simp [g1, g2]
      · by_cases g3 : s < 0
        · simp [g1, g2, g3]
        · have g4 : ¬ s ≤ 3 := fun e => hx ⟨⟨Int32.not_lt.mp g1, Int32.not_le.mp g2⟩, Int32.not_lt.mp g3, e⟩
          simp [g1, g2, g3, g4]
end QV
