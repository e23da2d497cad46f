/-! READING: how it begins -/
section TL3
variable {n m : Nat} {g : Nat → zC} {I X Y : Nat → Nat → Int32} {J JX JY : Nat → Nat → Int64} {L p q N S : Nat} {t x : Int32} {X' Y' : Nat → Nat → Int32} {JX' JY' : Nat → Nat → Int64}
theorem r_adv0 (hd : dWell X L p) (hT : TX X Y L) (h16 : Y 143 16 = nI p) (hb : Y 143 12 = 0) (h10 : X 13 10 = 0) (h11 : X 13 11 = -1) (hr : ∀ k, k < 27 → JX 14 k = (resL[k]?).getD 0) : ∃ X' JX' Y' JY' p', Ca 1 45 [.ref 13] X JX none X' JX' ∧ Ca 1 257 [.ref 143] Y JY none Y' JY' ∧ RDS L p' X' JX' Y' JY' ∧ p ≤ p' ∧ (X' 13 5 ≠ 0 → p < p') ∧ FX X JX X' JX' ∧ YA Y JY Y' JY' := by
  have hd' := hd
  obtain ⟨d1, d2, d3, d4, d5⟩ := hd'
  obtain ⟨Y', JY', e1, e2, e3⟩ := v_advance (JX := JX) (JY := JY) hT hd h16
  obtain ⟨q, eq⟩ : ∃ q, q = dSkip X p (L - p) := ⟨_, rfl⟩
  have hqp := dSkip_le (I := X) (L - p) p
  rw [← eq] at hqp
  obtain ⟨R, eR⟩ : ∃ R, R = dAdv X JX L p := ⟨_, rfl⟩
  have F : (∀ r, r ≠ 13 → R.1 r = X r) ∧ (∀ r, r ≠ 13 → R.2 r = JX r) ∧ (∀ k, k ≠ 3 → k ≠ 4 → k ≠ 5 → k ≠ 6 → k ≠ 7 → k ≠ 9 → R.1 13 k = X 13 k) ∧ ∃ p', R.1 13 3 = nI p' ∧ q ≤ p' ∧ p' ≤ L ∧ (R.1 13 5 ≠ 0 → q < p') := by
    rw [eR]
    unfold dAdv
    rw [← eq]
    have l1 := dRun_le (I := dAt X q) 97 122 (L - q) q
    have l2 := dRun_le (I := dAt X q) 48 57 (L - q) q
    have hz : ∀ r, r ≠ 13 → dAt X q r = X r := fun r hr => by
      unfold dAt
      rw [zu_far _ _ _ hr, zu_far _ _ _ hr, zu_far _ _ _ hr]
    obtain ⟨f1, f2, f3, f4⟩ := dTok_facts (A := dAt X q) (J := JX) (L := L) (q := q) (a := dRun (dAt X q) 97 122 q (L - q)) (z := dRun (dAt X q) 48 57 q (L - q)) (by unfold dAt; rw [zu_row, if_neg (by decide), zu_row, if_neg (by decide), zu_row, if_pos rfl]) (by omega) (by omega) (by omega)
    exact ⟨fun r hr => (f1 r hr).trans (hz r hr), f2, fun k e3 e4 e5 e6 e7 e9 => (f3 k e3 e5 e6 e7 e9).trans (dAt_row e3 e4 e9), f4⟩
  obtain ⟨f1, f2, f3, p', f4, f5, f6, f7⟩ := F
  rw [← eR] at e2
  refine ⟨R.1, R.2, Y', JY', p', ?_, e1, ⟨⟨?_, ?_, f4, f6, d5⟩, ⟨fun k hk => ?_, ?_, hT.2.2⟩, e2, ?_, ⟨?_, ?_⟩, fun k hk => ?_⟩, by omega, fun h => ?_, ⟨f1, f2⟩, e3⟩
  · intro n m g d
    rw [eR]
    exact d_advance d1 d2 d3 d4 d5 d
  · rw [f3 1 (by decide) (by decide) (by decide) (by decide) (by decide) (by decide), d1]
  · rw [f3 2 (by decide) (by decide) (by decide) (by decide) (by decide) (by decide), d2]
  · rw [f1 12 (by decide), e3.1 147 (by decide)]
    exact hT.1 k hk
  · rw [e3.2.1 9 (by decide)]
    exact hT.2.1
  · rw [e3.2.1 12 (by decide), hb]
  · rw [f3 10 (by decide) (by decide) (by decide) (by decide) (by decide) (by decide), h10]
  · rw [f3 11 (by decide) (by decide) (by decide) (by decide) (by decide) (by decide), h11]
  · rw [f2 14 (by decide)]
    exact hr k hk
  · have := f7 h
    omega
def bgX (L : Nat) (X : Nat → Nat → Int32) : Nat → Nat → Int32 := zu (zu (zu (zu (zu X 13 1 (nI 12)) 13 2 (nI L)) 13 3 0) 13 10 0) 13 11 (-1)
theorem d_begin (hL : L ≤ 900) (hA : Ca 1 45 [.ref 13] (bgX L X) JX none X' JX') (d : Nat) : zcall (d + 2) 44 [.ref 13, .ref 12, .int (nI L)] (mk n m g X JX) = some (none, mk n m g X' JX') := by
  have hmin : (if (900 : Int32) < nI L then 900 else nI L) = nI L := if_neg (Int32.not_lt.mpr (nI_le (b := 900) hL (by decide)))
  have hmax : (if (0 : Int32) < nI L then nI L else 0) = nI L := by
    by_cases e : L = 0
    · rw [e]
      rfl
    · exact if_pos (show (0 : Int32) < nI L from Int32.not_le.mp (nI_ge (a := 0) (by omega) (by omega)))
  have e9 : Int32.ofNat 900 = 900 := rfl
  have hA' := fun n m g d => hA n m g d
  unfold bgX at hA'
  rw [m_X4_begin]
  simp only [e_X4_begin_0, e_X4_begin_1, e_X4_begin_2, e_X4_begin_5, e_X4_begin_6, e_X4_begin_7, e_X4_begin_8, e_X4_begin_9, e_X4_begin_10, e_X4_begin_13, e_X4_begin_16, e_X4_begin_19, e_X4_begin_20, e_X4_begin_21, e_X4_begin_24, e_X4_begin_25, e_X4_begin_26, e_X4_begin_29, e_X4_begin_30, e_X4_begin_31, e_X4_begin_34, e_X4_begin_35, e_X4_begin_38, c_13, g_13_1, g_13_2, g_13_3, g_13_10, g_13_11, p_13_1 12 (by decide), p_13_2, p_13_3, p_13_10, p_13_11, n_12, e9, j_min, hmin, j_max, hmax, hA', show zfit (zfT 4 1) (.ref 12) = true from rfl, Option.bind_some, Option.isSome_some, Option.toList, List.cons_append, List.nil_append, zclr_i, zclr_r, zclr_n, zfit_i, zfit_l, and_self, if_true, if_false]
def bgY (L : Nat) (Y : Nat → Nat → Int32) : Nat → Nat → Int32 := zu (zu (zu (zu Y 143 9 (nI L)) 143 8 0) 143 16 0) 143 12 0
theorem v_starts {T M : Nat} (hL : L ≤ T) (hM : L ≤ M) (hT : Y 143 8 = nI T) (hT9 : T < 2 ^ 31) (hM9 : M < 2 ^ 31) (hA : Ca 1 257 [.ref 143] (bgY L Y) JY none Y' JY') (d : Nat) : zcall (d + 2) 287 [.ref 143, .int (nI L), .int (nI M)] (mk n m g Y JY) = some (some (.int 1), mk n m g Y' JY') := by
  have hA' := fun n m g d => hA n m g d
  unfold bgY at hA'
  rw [m_X12_starts]
  simp only [e_X12_starts_0, e_X12_starts_1, e_X12_starts_4, e_X12_starts_5, e_X12_starts_6, e_X12_starts_9, e_X12_starts_12, e_X12_starts_13, e_X12_starts_14, e_X12_starts_17, e_X12_starts_18, e_X12_starts_19, e_X12_starts_22, e_X12_starts_23, e_X12_starts_24, e_X12_starts_25, e_X12_starts_28, e_X12_starts_29, e_X12_starts_30, e_X12_starts_33, e_X12_starts_34, e_X12_starts_35, e_X12_starts_38, e_X12_starts_39, e_X12_starts_40, e_X12_starts_43, e_X12_starts_44, e_X12_starts_47, e_X12_starts_48, c_143, g_143_8, g_143_9, g_143_12, g_143_16, p_143_8, p_143_9, p_143_12, p_143_16, hT, nI_neg (show L < 2 ^ 31 by omega), eq_false (show ¬ nI T < nI L from Int32.not_lt.mpr (nI_le hL (by omega))), eq_true (show nI L ≤ nI M from nI_le hM hM9), hA', zfit_b1, Option.bind_some, Option.isSome_some, Option.toList, List.cons_append, List.nil_append, zclr_i, zclr_r, zclr_n, zfit_i, zfit_l, and_self, if_true, if_false]
theorem r_begin {Y0 : Nat → Nat → Int32} {JY0 : Nat → Nat → Int64} (hL : L ≤ 900) (ht : ∀ k, k < 900 → I 12 k = Y0 147 k ∧ isB (I 12 k)) (hr : ∀ k, k < 27 → J 14 k = (resL[k]?).getD 0) : ∃ X' JX' Y' JY' p', Ca 1 45 [.ref 13] (bgX L I) J none X' JX' ∧ Ca 1 257 [.ref 143] (bgY L Y0) JY0 none Y' JY' ∧ RDS L p' X' JX' Y' JY' ∧ 0 ≤ p' ∧ (X' 13 5 ≠ 0 → 0 < p') ∧ FX (bgX L I) J X' JX' ∧ YA (bgY L Y0) JY0 Y' JY' := by
  refine r_adv0 (p := 0) ⟨?_, ?_, ?_, Nat.zero_le L, hL⟩ ⟨fun k hk => ?_, ?_, hL⟩ ?_ ?_ ?_ ?_ hr
  · unfold bgX
    simp [zu_row]
  · unfold bgX
    simp [zu_row]
  · unfold bgX
    simp only [zu_row]
    simp
    rfl
  · unfold bgX bgY
    rw [zu_far _ _ _ (by decide), zu_far _ _ _ (by decide), zu_far _ _ _ (by decide), zu_far _ _ _ (by decide), zu_far _ _ _ (by decide), zu_far _ _ _ (by decide), zu_far _ _ _ (by decide), zu_far _ _ _ (by decide), zu_far _ _ _ (by decide)]
    exact ht k hk
  · unfold bgY
    simp [zu_row]
  · unfold bgY
    simp only [zu_row]
    simp
    rfl
  · unfold bgY
    simp [zu_row]
  · unfold bgX
    simp [zu_row]
  · unfold bgX
    simp [zu_row]
/-! an empty block -/
theorem zr_put {α : Type} (I : Nat → Nat → α) (a k : Nat) (c : Nat → α) (x : α) : zu (zr I a c) a k x = zr I a (fu c k x) := by
  rw [zu_fu, zr_same, zr_zr]
theorem zfor_fill (k : Nat) (v : Nat → Int32) : ∀ f p (c : Nat → Int32), zfor (fun j (x : Nat → Int32) => fu x (k + j) (v j)) p f c = fun j => if k + p ≤ j ∧ j < k + p + f then v (j - k) else c j
  | 0, p, c => by
    funext j
    rw [zfor, if_neg (by omega)]
  | f + 1, p, c => by
    rw [zfor, zfor_fill k v f (p + 1)]
    funext j
    by_cases e : j = k + p
    · rw [if_neg (by omega), if_pos (by omega), e, fu_eq, show k + p - k = p by omega]
    · rw [fu_ne _ _ e]
      by_cases e2 : k + (p + 1) ≤ j ∧ j < k + (p + 1) + f
      · rw [if_pos e2, if_pos (by omega)]
      · rw [if_neg e2, if_neg (by omega)]
def emp0 (i : Nat) : Int32 := if i = 2 then 1800 else if i = 3 then 9 else if i = 4 then 80 else if 6 ≤ i ∧ i < 12 then 10 else if (30 ≤ i ∧ i < 42) ∨ (78 ≤ i ∧ i < 114) then -1 else 0
def emp (k : Nat) (c : Nat → Int32) : Nat → Int32 := fun j => if k ≤ j ∧ j < k + 506 then emp0 (j - k) else c j
theorem v_bares4 {k p : Nat} {c : Nat → Int32} (hk : k ≤ 2024) (hp : p < 12) (d : Nat) : zcall d 291 [.ref 143, .int (nI k), .int (nI p)] (mk n m g (zr Y 148 c) JY) = some (none, mk n m g (zr Y 148 (fu (fu (fu (fu c (k + 30 + p) (-1)) (k + 78 + p) (-1)) (k + 90 + p) (-1)) (k + 102 + p) (-1))) JY) := by
  have ea : ∀ r : Nat, nI k + nI r + nI p = nI (k + r + p) := fun r => by rw [nI_add, nI_add]
  rw [m_X12_bares]
  simp only [e_X12_bares_0, e_X12_bares_1, e_X12_bares_4, e_X12_bares_5, e_X12_bares_7, e_X12_bares_8, e_X12_bares_9, e_X12_bares_10, e_X12_bares_11, e_X12_bares_12, e_X12_bares_13, e_X12_bares_16, e_X12_bares_17, e_X12_bares_19, e_X12_bares_20, e_X12_bares_21, e_X12_bares_22, e_X12_bares_23, e_X12_bares_24, e_X12_bares_25, e_X12_bares_28, e_X12_bares_29, e_X12_bares_31, e_X12_bares_32, e_X12_bares_33, e_X12_bares_34, e_X12_bares_35, e_X12_bares_36, e_X12_bares_37, e_X12_bares_40, e_X12_bares_41, e_X12_bares_43, e_X12_bares_44, e_X12_bares_45, e_X12_bares_46, e_X12_bares_47, e_X12_bares_48, g_143_20, show nI k + (30 : Int32) + nI p = nI (k + 30 + p) from ea 30, show nI k + (78 : Int32) + nI p = nI (k + 78 + p) from ea 78, show nI k + (90 : Int32) + nI p = nI (k + 90 + p) from ea 90, show nI k + (102 : Int32) + nI p = nI (k + 102 + p) from ea 102, nI_neg (show k + 30 + p < 2 ^ 31 by omega), nI_clamp (show k + 30 + p < 2 ^ 31 by omega), k_148 (show k + 30 + p < 2530 by omega), l_148 (show k + 30 + p < 2530 by omega), nI_neg (show k + 78 + p < 2 ^ 31 by omega), nI_clamp (show k + 78 + p < 2 ^ 31 by omega), k_148 (show k + 78 + p < 2530 by omega), l_148 (show k + 78 + p < 2530 by omega), nI_neg (show k + 90 + p < 2 ^ 31 by omega), nI_clamp (show k + 90 + p < 2 ^ 31 by omega), k_148 (show k + 90 + p < 2530 by omega), l_148 (show k + 90 + p < 2530 by omega), nI_neg (show k + 102 + p < 2 ^ 31 by omega), nI_clamp (show k + 102 + p < 2 ^ 31 by omega), k_148 (show k + 102 + p < 2530 by omega), l_148 (show k + 102 + p < 2530 by omega), q_148, zr_put, Option.bind_some, Option.isSome_some, Option.toList, List.cons_append, List.nil_append, zclr_i, zclr_r, zclr_n, zfit_i, zfit_l, and_self, if_true, if_false]
set_option maxHeartbeats 4000000 in
theorem v_empties {B : Nat} (hB : B ≤ 4) (d : Nat) : zcall (d + 1) 290 [.ref 143, .int (nI B)] (mk n m g Y JY) = some (none, mk n m g (zr Y 148 (emp (506 * B) (Y 148))) JY) := by
  have ek : (506 : Int32) * nI B = nI (506 * B) := by rw [show (506 : Int32) = nI 506 from rfl, pk_mul]
  obtain ⟨k, ekk⟩ : ∃ k, k = 506 * B := ⟨_, rfl⟩
  rw [← ekk] at ek ⊢
  have hk : k ≤ 2024 := by omega
  have ea : ∀ r : Nat, nI k + nI r = nI (k + r) := fun r => nI_add k r
  have e8 : ∀ c : Nat → Int32, zexec (d + 1) 290 8 [some (.ref 143), some (.int (nI B)), some (.int (nI k)), some (.int (nI 0))] [] (mk n m g (zr Y 148 c) JY) = zexec (d + 1) 290 8 [some (.ref 143), some (.int (nI B)), some (.int (nI k)), some (.int (nI 506))] [] (mk n m g (zr Y 148 (zfor (fun j (x : Nat → Int32) => fu x (k + j) 0) 0 506 c)) JY) := fun c =>
    zloop (fun p (c : Nat → Int32) => zexec (d + 1) 290 8 [some (.ref 143), some (.int (nI B)), some (.int (nI k)), some (.int (nI p))] [] (mk n m g (zr Y 148 c) JY)) (fun j (x : Nat → Int32) => fu x (k + j) 0) 506 (fun p c hp => by
      rw [e_X12_empties_8]
      simp only [e_X12_empties_9, e_X12_empties_12, e_X12_empties_15, e_X12_empties_16, e_X12_empties_19, e_X12_empties_20, e_X12_empties_21, e_X12_empties_22, e_X12_empties_23, e_X12_empties_24, e_X12_empties_27, g_143_20, if_neg (show ¬ (506 : Int32) ≤ nI p from nI_ge (b := 506) hp (by decide)), ea, nI_neg (show k + p < 2 ^ 31 by omega), nI_clamp (show k + p < 2 ^ 31 by omega), k_148 (show k + p < 2530 by omega), l_148 (show k + p < 2530 by omega), q_148, zr_put, nI_1, Option.bind_some, Option.isSome_some, Option.toList, List.cons_append, List.nil_append, zclr_i, zclr_r, zclr_n, zfit_i, zfit_l, and_self, if_true, if_false]) 506 0 c (by omega)
  have e63 : ∀ c : Nat → Int32, zexec (d + 1) 290 63 [some (.ref 143), some (.int (nI B)), some (.int (nI k)), some (.int (nI 0))] [] (mk n m g (zr Y 148 c) JY) = zexec (d + 1) 290 63 [some (.ref 143), some (.int (nI B)), some (.int (nI k)), some (.int (nI 6))] [] (mk n m g (zr Y 148 (zfor (fun j (x : Nat → Int32) => fu x (k + 6 + j) 10) 0 6 c)) JY) := fun c =>
    zloop (fun p (c : Nat → Int32) => zexec (d + 1) 290 63 [some (.ref 143), some (.int (nI B)), some (.int (nI k)), some (.int (nI p))] [] (mk n m g (zr Y 148 c) JY)) (fun j (x : Nat → Int32) => fu x (k + 6 + j) 10) 6 (fun p c hp => by
      rw [e_X12_empties_63]
      simp only [e_X12_empties_64, e_X12_empties_66, e_X12_empties_69, e_X12_empties_70, e_X12_empties_73, e_X12_empties_74, e_X12_empties_76, e_X12_empties_77, e_X12_empties_78, e_X12_empties_79, e_X12_empties_81, e_X12_empties_82, e_X12_empties_85, g_143_20, if_neg (show ¬ (6 : Int32) ≤ nI p from nI_ge (b := 6) hp (by decide)), show nI k + (6 : Int32) + nI p = nI (k + 6 + p) from (by rw [show (6 : Int32) = nI 6 from rfl, nI_add, nI_add]), nI_neg (show k + 6 + p < 2 ^ 31 by omega), nI_clamp (show k + 6 + p < 2 ^ 31 by omega), k_148 (show k + 6 + p < 2530 by omega), l_148 (show k + 6 + p < 2530 by omega), q_148, zr_put, nI_1, Option.bind_some, Option.isSome_some, Option.toList, List.cons_append, List.nil_append, zclr_i, zclr_r, zclr_n, zfit_i, zfit_l, and_self, if_true, if_false]) 6 0 c (by omega)
  have e90 : ∀ c : Nat → Int32, zexec (d + 1) 290 90 [some (.ref 143), some (.int (nI B)), some (.int (nI k)), some (.int (nI 0))] [] (mk n m g (zr Y 148 c) JY) = zexec (d + 1) 290 90 [some (.ref 143), some (.int (nI B)), some (.int (nI k)), some (.int (nI 12))] [] (mk n m g (zr Y 148 (zfor (fun j (x : Nat → Int32) => fu (fu (fu (fu x (k + 30 + j) (-1)) (k + 78 + j) (-1)) (k + 90 + j) (-1)) (k + 102 + j) (-1)) 0 12 c)) JY) := fun c =>
    zloop (fun p (c : Nat → Int32) => zexec (d + 1) 290 90 [some (.ref 143), some (.int (nI B)), some (.int (nI k)), some (.int (nI p))] [] (mk n m g (zr Y 148 c) JY)) (fun j (x : Nat → Int32) => fu (fu (fu (fu x (k + 30 + j) (-1)) (k + 78 + j) (-1)) (k + 90 + j) (-1)) (k + 102 + j) (-1)) 12 (fun p c hp => by
      rw [e_X12_empties_90]
      simp only [e_X12_empties_91, e_X12_empties_93, e_X12_empties_96, e_X12_empties_97, e_X12_empties_98, e_X12_empties_99, e_X12_empties_102, e_X12_empties_105, c_143, if_neg (show ¬ (12 : Int32) ≤ nI p from nI_ge (b := 12) hp (by decide)), v_bares4 hk hp, nI_1, Option.bind_some, Option.isSome_some, Option.toList, List.cons_append, List.nil_append, zclr_i, zclr_r, zclr_n, zfit_i, zfit_l, and_self, if_true, if_false]) 12 0 c (by omega)
  have hb : ∀ f p (c : Nat → Int32), zfor (fun j (x : Nat → Int32) => fu (fu (fu (fu x (k + 30 + j) (-1)) (k + 78 + j) (-1)) (k + 90 + j) (-1)) (k + 102 + j) (-1)) p f c = fun j => if (k + 30 + p ≤ j ∧ j < k + 30 + p + f) ∨ (k + 78 + p ≤ j ∧ j < k + 78 + p + f) ∨ (k + 90 + p ≤ j ∧ j < k + 90 + p + f) ∨ (k + 102 + p ≤ j ∧ j < k + 102 + p + f) then -1 else c j := by
    intro f
    induction f with
    | zero =>
      intro p c
      funext j
      rw [zfor, if_neg (by omega)]
    | succ f ih =>
      intro p c
      rw [zfor, ih]
      funext j
      by_cases e : j = k + 30 + p ∨ j = k + 78 + p ∨ j = k + 90 + p ∨ j = k + 102 + p
      · rw [if_pos (c := (k + 30 + p ≤ j ∧ j < k + 30 + p + (f + 1)) ∨ (k + 78 + p ≤ j ∧ j < k + 78 + p + (f + 1)) ∨ (k + 90 + p ≤ j ∧ j < k + 90 + p + (f + 1)) ∨ (k + 102 + p ≤ j ∧ j < k + 102 + p + (f + 1))) (by omega)]
        split
        · rfl
        · unfold fu
          rcases e with e | e | e | e
          · rw [if_neg (by omega), if_neg (by omega), if_neg (by omega), if_pos e]
          · rw [if_neg (by omega), if_neg (by omega), if_pos e]
          · rw [if_neg (by omega), if_pos e]
          · rw [if_pos e]
      · rw [fu_ne _ _ (by omega), fu_ne _ _ (by omega), fu_ne _ _ (by omega), fu_ne _ _ (by omega)]
        by_cases e2 : (k + 30 + (p + 1) ≤ j ∧ j < k + 30 + (p + 1) + f) ∨ (k + 78 + (p + 1) ≤ j ∧ j < k + 78 + (p + 1) + f) ∨ (k + 90 + (p + 1) ≤ j ∧ j < k + 90 + (p + 1) + f) ∨ (k + 102 + (p + 1) ≤ j ∧ j < k + 102 + (p + 1) + f)
        · rw [if_pos e2, if_pos (by omega)]
        · rw [if_neg e2, if_neg (by omega)]
  have hz : mk n m g Y JY = mk n m g (zr Y 148 (Y 148)) JY := by rw [zr_id]
  rw [m_X12_empties, hz]
  simp only [e_X12_empties_0, e_X12_empties_3, e_X12_empties_4, e_X12_empties_5, e_X12_empties_6, e_X12_empties_7, ek, Option.bind_some, Option.isSome_some, Option.toList, List.cons_append, List.nil_append, zclr_i, zclr_r, zclr_n, zfit_i, zfit_l, and_self, if_true, if_false]
  refine (e8 (Y 148)).trans ?_
  rw [e_X12_empties_8]
  simp only [e_X12_empties_9, e_X12_empties_12, e_X12_empties_15, e_X12_empties_16, e_X12_empties_19, e_X12_empties_20, e_X12_empties_21, e_X12_empties_22, e_X12_empties_23, e_X12_empties_24, e_X12_empties_27, e_X12_empties_30, e_X12_empties_31, e_X12_empties_34, e_X12_empties_35, e_X12_empties_36, e_X12_empties_37, e_X12_empties_40, e_X12_empties_41, e_X12_empties_42, e_X12_empties_45, e_X12_empties_46, e_X12_empties_47, e_X12_empties_48, e_X12_empties_50, e_X12_empties_51, e_X12_empties_52, e_X12_empties_55, e_X12_empties_56, e_X12_empties_57, e_X12_empties_58, e_X12_empties_60, e_X12_empties_61, e_X12_empties_62, g_143_20, if_pos (show (506 : Int32) ≤ nI 506 by decide), show nI k + (2 : Int32) = nI (k + 2) from ea 2, show nI k + (3 : Int32) = nI (k + 3) from ea 3, show nI k + (4 : Int32) = nI (k + 4) from ea 4, nI_neg (show k + 2 < 2 ^ 31 by omega), nI_clamp (show k + 2 < 2 ^ 31 by omega), k_148 (show k + 2 < 2530 by omega), l_148 (show k + 2 < 2530 by omega), nI_neg (show k + 3 < 2 ^ 31 by omega), nI_clamp (show k + 3 < 2 ^ 31 by omega), k_148 (show k + 3 < 2530 by omega), l_148 (show k + 3 < 2530 by omega), nI_neg (show k + 4 < 2 ^ 31 by omega), nI_clamp (show k + 4 < 2 ^ 31 by omega), k_148 (show k + 4 < 2530 by omega), l_148 (show k + 4 < 2530 by omega), q_148, zr_put, Option.bind_some, Option.isSome_some, Option.toList, List.cons_append, List.nil_append, zclr_i, zclr_r, zclr_n, zfit_i, zfit_l, and_self, if_true, if_false]
  refine (e63 _).trans ?_
  rw [e_X12_empties_63]
  simp only [e_X12_empties_64, e_X12_empties_66, e_X12_empties_69, e_X12_empties_70, e_X12_empties_73, e_X12_empties_74, e_X12_empties_76, e_X12_empties_77, e_X12_empties_78, e_X12_empties_79, e_X12_empties_81, e_X12_empties_82, e_X12_empties_85, e_X12_empties_88, e_X12_empties_89, if_pos (show (6 : Int32) ≤ nI 6 by decide), Option.bind_some, Option.isSome_some, Option.toList, List.cons_append, List.nil_append, zclr_i, zclr_r, zclr_n, zfit_i, zfit_l, and_self, if_true, if_false]
  refine (e90 _).trans ?_
  rw [e_X12_empties_90]
  simp only [e_X12_empties_91, e_X12_empties_93, e_X12_empties_96, e_X12_empties_97, e_X12_empties_98, e_X12_empties_99, e_X12_empties_102, e_X12_empties_105, e_X12_empties_108, if_pos (show (12 : Int32) ≤ nI 12 by decide), Option.bind_some, Option.isSome_some, Option.toList, List.cons_append, List.nil_append, zclr_i, zclr_r, zclr_n, zfit_i, zfit_l, and_self, if_true, if_false]
  congr 3
  rw [hb, zfor_fill (k + 6) (fun _ => 10), zfor_fill k (fun _ => 0)]
  congr 1
  funext j
  unfold emp emp0 fu
  dsimp only
  by_cases h1 : k ≤ j ∧ j < k + 506
  · rw [if_pos h1]
    by_cases a1 : (k + 30 + 0 ≤ j ∧ j < k + 30 + 0 + 12) ∨ (k + 78 + 0 ≤ j ∧ j < k + 78 + 0 + 12) ∨ (k + 90 + 0 ≤ j ∧ j < k + 90 + 0 + 12) ∨ (k + 102 + 0 ≤ j ∧ j < k + 102 + 0 + 12)
    · rw [if_pos a1, if_neg (by omega), if_neg (by omega), if_neg (by omega), if_neg (by omega), if_pos (by omega)]
    · rw [if_neg a1]
      by_cases a2 : k + 6 + 0 ≤ j ∧ j < k + 6 + 0 + 6
      · rw [if_pos a2, if_neg (by omega), if_neg (by omega), if_neg (by omega), if_pos (by omega)]
      · rw [if_neg a2]
        by_cases a3 : j = k + 4
        · rw [if_pos a3, if_neg (by omega), if_neg (by omega), if_pos (by omega)]
        · rw [if_neg a3]
          by_cases a4 : j = k + 3
          · rw [if_pos a4, if_neg (by omega), if_pos (by omega)]
          · rw [if_neg a4]
            by_cases a5 : j = k + 2
            · rw [if_pos a5, if_pos (by omega)]
            · rw [if_neg a5, if_pos (by omega), if_neg (by omega), if_neg (by omega), if_neg (by omega), if_neg (by omega), if_neg (by omega)]
  · rw [if_neg h1, if_neg (by omega), if_neg (by omega), if_neg (by omega), if_neg (by omega), if_neg (by omega), if_neg (by omega)]
end TL3
