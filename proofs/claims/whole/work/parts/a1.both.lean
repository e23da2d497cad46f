/-! READING: both go on -/
section RC
variable {n m : Nat} {g : Nat → zC} {X Y A : Nat → Nat → Int32} {JX JY J : Nat → Nat → Int64} {L p q : Nat} {X' Y' X2 Y2 : Nat → Nat → Int32} {JX' JY' JX2 JY2 : Nat → Nat → Int64}
abbrev Ca (k y : Nat) (as : List Value) (X : Nat → Nat → Int32) (JX : Nat → Nat → Int64) (v : Option Value) (X' : Nat → Nat → Int32) (JX' : Nat → Nat → Int64) : Prop := ∀ (n m : Nat) (g : Nat → zC) (d : Nat), zcall (d + k) y as (mk n m g X JX) = some (v, mk n m g X' JX')
def FX (X : Nat → Nat → Int32) (JX : Nat → Nat → Int64) (X' : Nat → Nat → Int32) (JX' : Nat → Nat → Int64) : Prop := (∀ a, a ≠ 13 → X' a = X a) ∧ ∀ a, a ≠ 13 → JX' a = JX a
def YG (Y : Nat → Nat → Int32) (JY : Nat → Nat → Int64) (Y' : Nat → Nat → Int32) (JY' : Nat → Nat → Int64) : Prop := (∀ a, a ≠ 143 → Y' a = Y a) ∧ (∀ k, k < 12 ∨ 18 < k → Y' 143 k = Y 143 k) ∧ (∀ a, a ≠ 143 → JY' a = JY a) ∧ ∀ k, k ≠ 19 → JY' 143 k = JY 143 k
theorem YA.yg (h : YA Y JY Y' JY') : YG Y JY Y' JY' := ⟨h.1, fun k hk => h.2.1 k (by omega), h.2.2.1, h.2.2.2⟩
theorem FX.rfl' : FX X JX X JX := ⟨fun _ _ => rfl, fun _ _ => rfl⟩
theorem YG.rfl' : YG Y JY Y JY := ⟨fun _ _ => rfl, fun _ _ => rfl, fun _ _ => rfl, fun _ _ => rfl⟩
theorem FX.trans (h : FX X JX X' JX') (h2 : FX X' JX' X2 JX2) : FX X JX X2 JX2 := ⟨fun a ha => (h2.1 a ha).trans (h.1 a ha), fun a ha => (h2.2 a ha).trans (h.2 a ha)⟩
theorem YG.trans (h : YG Y JY Y' JY') (h2 : YG Y' JY' Y2 JY2) : YG Y JY Y2 JY2 := ⟨fun a ha => (h2.1 a ha).trans (h.1 a ha), fun k hk => (h2.2.1 k hk).trans (h.2.1 k hk), fun a ha => (h2.2.2.1 a ha).trans (h.2.2.1 a ha), fun k hk => (h2.2.2.2 k hk).trans (h.2.2.2 k hk)⟩
theorem dTok_facts {a z : Nat} (h3 : A 13 3 = nI q) (hq : q ≤ L) (ha : a ≤ L) (hz : z ≤ L) : (∀ r, r ≠ 13 → (dTok A J L q a z).1 r = A r) ∧ (∀ r, r ≠ 13 → (dTok A J L q a z).2 r = J r) ∧ (∀ k, k ≠ 3 → k ≠ 5 → k ≠ 6 → k ≠ 7 → k ≠ 9 → (dTok A J L q a z).1 13 k = A 13 k) ∧ ∃ p', (dTok A J L q a z).1 13 3 = nI p' ∧ q ≤ p' ∧ p' ≤ L ∧ ((dTok A J L q a z).1 13 5 ≠ 0 → q < p') := by
  unfold dTok
  by_cases c1 : L ≤ q
  · rw [if_pos c1]
    refine ⟨fun r hr => zu_far _ _ _ hr, fun _ _ => rfl, fun k _ h5 _ _ _ => by dsimp only; rw [zu_row, if_neg h5], q, ?_, Nat.le_refl q, hq, fun h => ?_⟩
    · dsimp only
      rw [zu_row, if_neg (by decide), h3]
    · dsimp only at h
      rw [zu_row, if_pos rfl] at h
      exact absurd rfl h
  rw [if_neg c1]
  by_cases c2 : q < a
  · rw [if_pos c2]
    refine ⟨fun r hr => by dsimp only; rw [zu_far _ _ _ hr, zu_far _ _ _ hr, zu_far _ _ _ hr], fun r hr => zu_far _ _ _ hr, fun k e3 e5 _ _ e9 => by dsimp only; rw [zu_row, if_neg e9, zu_row, if_neg e3, zu_row, if_neg e5], a, ?_, by omega, ha, fun _ => c2⟩
    dsimp only
    rw [zu_row, if_neg (by decide), zu_row, if_pos rfl]
  rw [if_neg c2]
  by_cases c3 : q < z
  · rw [if_pos c3]
    by_cases c4 : 4 < nI z - nI q
    · rw [if_pos c4]
      refine ⟨fun r hr => by dsimp only; rw [zu_far _ _ _ hr, zu_far _ _ _ hr, zu_far _ _ _ hr], fun r hr => rfl, fun k e3 e5 e6 _ e9 => by dsimp only; rw [zu_row, if_neg e3, zu_row, if_neg e6, zu_row, if_neg e5], z, ?_, by omega, hz, fun _ => c3⟩
      dsimp only
      rw [zu_row, if_pos rfl]
    · rw [if_neg c4]
      refine ⟨fun r hr => by dsimp only; rw [zu_far _ _ _ hr, zu_far _ _ _ hr, zu_far _ _ _ hr], fun r hr => rfl, fun k e3 e5 e6 _ e9 => by dsimp only; rw [zu_row, if_neg e3, zu_row, if_neg e6, zu_row, if_neg e5], z, ?_, by omega, hz, fun _ => c3⟩
      dsimp only
      rw [zu_row, if_pos rfl]
  rw [if_neg c3]
  unfold dSign
  refine ⟨fun r hr => by dsimp only; rw [zu_far _ _ _ hr, zu_far _ _ _ hr, zu_far _ _ _ hr], fun r hr => rfl, fun k e3 e5 e6 e7 e9 => by dsimp only; rw [zu_row, if_neg e3, zu_row, if_neg e5, zu_row, if_neg e7], q + 1, ?_, by omega, by omega, fun _ => by omega⟩
  dsimp only
  rw [zu_row, if_pos rfl]
theorem r_adv (h : RDS L p X JX Y JY) : ∃ X' JX' Y' JY' p', Ca 1 45 [.ref 13] X JX none X' JX' ∧ Ca 1 257 [.ref 143] Y JY none Y' JY' ∧ RDS L p' X' JX' Y' JY' ∧ p ≤ p' ∧ (X' 13 5 ≠ 0 → p < p') ∧ FX X JX X' JX' ∧ YA Y JY Y' JY' := by
  obtain ⟨hd, hT, hK, hb, ⟨h10, h11⟩, hr⟩ := h
  have hd' := hd
  obtain ⟨d1, d2, d3, d4, d5⟩ := hd'
  have h16 : Y 143 16 = nI p := hK.2.2.1.trans d3
  obtain ⟨Y', JY', e1, e2, e3⟩ := v_advance (JX := JX) (JY := JY) hT hd h16
  obtain ⟨q, eq⟩ : ∃ q, q = dSkip X p (L - p) := ⟨_, rfl⟩
  have hqp := dSkip_le (I := X) (L - p) p
  rw [← eq] at hqp
  obtain ⟨R, eR⟩ : ∃ R, R = dAdv X JX L p := ⟨_, rfl⟩
  have F : (∀ r, r ≠ 13 → R.1 r = X r) ∧ (∀ r, r ≠ 13 → R.2 r = JX r) ∧ (∀ k, k ≠ 3 → k ≠ 4 → k ≠ 5 → k ≠ 6 → k ≠ 7 → k ≠ 9 → R.1 13 k = X 13 k) ∧ ∃ p', R.1 13 3 = nI p' ∧ q ≤ p' ∧ p' ≤ L ∧ (R.1 13 5 ≠ 0 → q < p') := by
    rw [eR]
    unfold dAdv
    rw [← eq]
    have l1 := dRun_le (I := dAt X q) 97 122 (L - q) q
    have l2 := dRun_le (I := dAt X q) 48 57 (L - q) q
    have hz : ∀ r, r ≠ 13 → dAt X q r = X r := fun r hr => by
      unfold dAt
      rw [zu_far _ _ _ hr, zu_far _ _ _ hr, zu_far _ _ _ hr]
    obtain ⟨f1, f2, f3, f4⟩ := dTok_facts (A := dAt X q) (J := JX) (L := L) (q := q) (a := dRun (dAt X q) 97 122 q (L - q)) (z := dRun (dAt X q) 48 57 q (L - q)) (by unfold dAt; rw [zu_row, if_neg (by decide), zu_row, if_neg (by decide), zu_row, if_pos rfl]) (by omega) (by omega) (by omega)
    exact ⟨fun r hr => (f1 r hr).trans (hz r hr), f2, fun k e3 e4 e5 e6 e7 e9 => (f3 k e3 e5 e6 e7 e9).trans (dAt_row e3 e4 e9), f4⟩
  obtain ⟨f1, f2, f3, p', f4, f5, f6, f7⟩ := F
  rw [← eR] at e2
  refine ⟨R.1, R.2, Y', JY', p', ?_, e1, ⟨⟨?_, ?_, f4, f6, d5⟩, ⟨fun k hk => ?_, ?_, hT.2.2⟩, e2, ?_, ⟨?_, ?_⟩, fun k hk => ?_⟩, by omega, fun h => ?_, ⟨f1, f2⟩, e3⟩
  · intro n m g d
    rw [eR]
    exact d_advance d1 d2 d3 d4 d5 d
  · rw [f3 1 (by decide) (by decide) (by decide) (by decide) (by decide) (by decide), d1]
  · rw [f3 2 (by decide) (by decide) (by decide) (by decide) (by decide) (by decide), d2]
  · rw [f1 12 (by decide), e3.1 147 (by decide)]
    exact hT.1 k hk
  · rw [e3.2.1 9 (by decide)]
    exact hT.2.1
  · rw [e3.2.1 12 (by decide), hb]
  · rw [f3 10 (by decide) (by decide) (by decide) (by decide) (by decide) (by decide), h10]
  · rw [f3 11 (by decide) (by decide) (by decide) (by decide) (by decide) (by decide), h11]
  · rw [f2 14 (by decide)]
    exact hr k hk
  · have := f7 h
    omega
/-! what goes wrong -/
def BAD (X Y : Nat → Nat → Int32) : Prop := ∃ k, 0 < k ∧ k ≤ 7 ∧ X 13 10 = nI k ∧ Y 143 12 = nI k ∧ X 13 11 = Y 143 13
def vFail (k w : Int32) (Y : Nat → Nat → Int32) : Nat → Nat → Int32 := zu (zu Y 143 12 k) 143 13 w
theorem z00 : ((0 : Int32) ≤ 0) = True := by decide
theorem z01 : ((0 : Int32) < 0) = False := by decide
theorem BAD.ne (h : BAD X Y) : (Y 143 12 = 0) = False := by
  obtain ⟨k, h0, h7, _, e, _⟩ := h
  rw [e]
  exact eq_false (fun q => by have := nI_inj (b := 0) (by omega) (by decide) q; omega)
theorem BAD.le (h : BAD X Y) : (Y 143 12 ≤ 0) = False := by
  obtain ⟨k, h0, h7, _, e, _⟩ := h
  rw [e]
  exact eq_false (nI_ge (a := 0) h0 (by omega))
theorem BAD.lt (h : BAD X Y) : (0 < Y 143 12) = True := eq_true (Int32.not_le.mp (fun q => by rw [h.le] at q; exact q))
theorem YG.fail (k w : Int32) : YG Y JY (vFail k w Y) JY := by
  refine ⟨fun a ha => ?_, fun j hj => ?_, fun _ _ => rfl, fun _ _ => rfl⟩
  · unfold vFail
    rw [zu_far _ _ _ ha, zu_far _ _ _ ha]
  · unfold vFail
    rw [zu_row, if_neg (by omega), zu_row, if_neg (by omega)]
theorem FX.fail (k : Int32) : FX X JX (dFail k X) JX := by
  refine ⟨fun a ha => ?_, fun _ _ => rfl⟩
  unfold dFail
  rw [zu_far _ _ _ ha, zu_far _ _ _ ha]
theorem FX.here : FX X JX (dHere X) JX := FX.fail _
theorem RDS.fails (h : RDS L p X JX Y JY) (k : Nat) (h0 : 0 < k) (h7 : k ≤ 7) : BAD (dFail (nI k) X) (vFail (nI k) (X 13 4) Y) := by
  refine ⟨k, h0, h7, ?_, ?_, ?_⟩
  · unfold dFail
    rw [zu_row, if_neg (by decide), zu_row, if_pos rfl]
  · unfold vFail
    rw [zu_row, if_neg (by decide), zu_row, if_pos rfl]
  · unfold dFail vFail
    rw [zu_row, if_pos rfl, zu_row, if_pos rfl]
def kH (X : Nat → Nat → Int32) : Int32 := if X 13 5 = 1 then 1 else 2
theorem RDS.here (h : RDS L p X JX Y JY) : BAD (dHere X) (vFail (kH X) (X 13 4) Y) := by
  unfold dHere kH
  by_cases c : X 13 5 = 1
  · rw [if_pos c]
    exact h.fails 1 (by decide) (by decide)
  · rw [if_neg c]
    exact h.fails 2 (by decide) (by decide)
theorem v_fail {k w : Int32} (hb : Y 143 12 = 0) (d : Nat) : zcall d 279 [.ref 143, .int k, .int w] (mk n m g Y JY) = some (none, mk n m g (vFail k w Y) JY) := by
  rw [m_X12_fail]
  simp only [e_X12_fail_0, e_X12_fail_1, e_X12_fail_4, e_X12_fail_7, e_X12_fail_8, e_X12_fail_9, e_X12_fail_10, e_X12_fail_13, e_X12_fail_14, e_X12_fail_15, e_X12_fail_18, g_143_12, g_143_13, p_143_12, p_143_13, hb, z00, Option.bind_some, Option.isSome_some, Option.toList, List.cons_append, List.nil_append, zclr_i, zclr_r, zclr_n, zfit_i, zfit_l, and_self, if_true, if_false]
  rfl
theorem v_amiss (h : RDS L p X JX Y JY) (d : Nat) : zcall (d + 1) 280 [.ref 143] (mk n m g Y JY) = some (none, mk n m g (vFail (kH X) (X 13 4) Y) JY) := by
  rw [m_X12_amiss]
  unfold kH
  by_cases c : X 13 5 = 1
  · simp only [e_X12_amiss_0, e_X12_amiss_1, e_X12_amiss_2, e_X12_amiss_5, e_X12_amiss_6, e_X12_amiss_9, e_X12_amiss_10, e_X12_amiss_13, e_X12_amiss_14, e_X12_amiss_15, e_X12_amiss_18, e_X12_amiss_21, c_143, g_143_14, g_143_15, h.bad1, h.at, c, v_fail h.bad, Option.bind_some, Option.isSome_some, Option.toList, List.cons_append, List.nil_append, zclr_i, zclr_r, zclr_n, zfit_i, zfit_l, and_self, if_true, if_false]
  · simp only [e_X12_amiss_0, e_X12_amiss_1, e_X12_amiss_2, e_X12_amiss_5, e_X12_amiss_6, e_X12_amiss_9, e_X12_amiss_10, e_X12_amiss_13, e_X12_amiss_14, e_X12_amiss_15, e_X12_amiss_18, e_X12_amiss_21, c_143, g_143_14, g_143_15, h.bad1, h.at, c, v_fail h.bad, Option.bind_some, Option.isSome_some, Option.toList, List.cons_append, List.nil_append, zclr_i, zclr_r, zclr_n, zfit_i, zfit_l, and_self, if_true, if_false]
theorem v_must_b {x : Int32} (hb : BAD X Y) (d : Nat) : zcall d 281 [.ref 143, .int x] (mk n m g Y JY) = some (none, mk n m g Y JY) := by
  rw [m_X12_must]
  simp only [e_X12_must_0, e_X12_must_1, e_X12_must_4, e_X12_must_7, e_X12_must_8, e_X12_must_9, e_X12_must_12, e_X12_must_13, e_X12_must_16, e_X12_must_19, e_X12_must_20, e_X12_must_23, g_143_12, hb.le, Option.bind_some, Option.isSome_some, Option.toList, List.cons_append, List.nil_append, zclr_i, zclr_r, zclr_n, zfit_i, zfit_l, and_self, if_true, if_false]
theorem v_must_t (hb : Y 143 12 = 0) (ha : Ca 1 257 [.ref 143] Y JY none Y' JY') (d : Nat) : zcall (d + 2) 281 [.ref 143, .int 1] (mk n m g Y JY) = some (none, mk n m g Y' JY') := by
  rw [m_X12_must]
  simp only [e_X12_must_0, e_X12_must_1, e_X12_must_4, e_X12_must_7, e_X12_must_8, e_X12_must_9, e_X12_must_12, e_X12_must_13, e_X12_must_16, e_X12_must_19, e_X12_must_20, e_X12_must_23, c_143, g_143_12, hb, z00, ha, show ((1 : Int32) = 0) = False by decide, Option.bind_some, Option.isSome_some, Option.toList, List.cons_append, List.nil_append, zclr_i, zclr_r, zclr_n, zfit_i, zfit_l, and_self, if_true, if_false]
theorem v_must_f (h : RDS L p X JX Y JY) (d : Nat) : zcall (d + 2) 281 [.ref 143, .int 0] (mk n m g Y JY) = some (none, mk n m g (vFail (kH X) (X 13 4) Y) JY) := by
  rw [m_X12_must]
  simp only [e_X12_must_0, e_X12_must_1, e_X12_must_4, e_X12_must_7, e_X12_must_8, e_X12_must_9, e_X12_must_12, e_X12_must_13, e_X12_must_16, e_X12_must_19, e_X12_must_20, e_X12_must_23, c_143, g_143_12, h.bad, z00, v_amiss h, Option.bind_some, Option.isSome_some, Option.toList, List.cons_append, List.nil_append, zclr_i, zclr_r, zclr_n, zfit_i, zfit_l, and_self, if_true, if_false]
theorem v_count_b {x y : Int32} (hb : BAD X Y) (d : Nat) : zcall d 282 [.ref 143, .int x, .int y] (mk n m g Y JY) = some (some (.int 0), mk n m g Y JY) := by
  rw [m_X12_count]
  simp only [e_X12_count_0, e_X12_count_1, e_X12_count_4, e_X12_count_7, e_X12_count_8, e_X12_count_11, e_X12_count_12, e_X12_count_15, e_X12_count_16, e_X12_count_19, e_X12_count_20, e_X12_count_23, e_X12_count_26, e_X12_count_27, e_X12_count_30, e_X12_count_31, e_X12_count_32, e_X12_count_33, e_X12_count_34, e_X12_count_35, e_X12_count_38, e_X12_count_41, e_X12_count_42, e_X12_count_43, e_X12_count_44, e_X12_count_47, e_X12_count_50, e_X12_count_51, e_X12_count_54, e_X12_count_57, e_X12_count_58, e_X12_count_59, e_X12_count_60, e_X12_count_63, e_X12_count_64, e_X12_count_65, e_X12_count_68, e_X12_count_69, g_143_12, hb.le, hb.ne, Option.bind_some, Option.isSome_some, Option.toList, List.cons_append, List.nil_append, zclr_i, zclr_r, zclr_n, zfit_i, zfit_l, and_self, if_true, if_false]
theorem v_told_b {x y : Int32} (hb : BAD X Y) (d : Nat) : zcall d 294 [.ref 143, .int x, .int y] (mk n m g Y JY) = some (some (.int 0), mk n m g Y JY) := by
  rw [m_X12_told]
  simp only [e_X12_told_0, e_X12_told_1, e_X12_told_4, e_X12_told_7, e_X12_told_8, e_X12_told_11, e_X12_told_14, e_X12_told_15, e_X12_told_18, e_X12_told_19, e_X12_told_22, e_X12_told_25, e_X12_told_26, e_X12_told_27, e_X12_told_28, e_X12_told_29, e_X12_told_30, e_X12_told_33, e_X12_told_34, e_X12_told_35, e_X12_told_38, e_X12_told_39, e_X12_told_40, e_X12_told_41, e_X12_told_44, e_X12_told_47, e_X12_told_48, e_X12_told_49, e_X12_told_52, g_143_12, hb.le, hb.ne, Option.bind_some, Option.isSome_some, Option.toList, List.cons_append, List.nil_append, zclr_i, zclr_r, zclr_n, zfit_i, zfit_l, and_self, if_true, if_false]
theorem v_perhaps_b {x : Int32} (hb : BAD X Y) (d : Nat) : zcall d 284 [.ref 143, .int x] (mk n m g Y JY) = some (some (.int 0), mk n m g Y JY) := by
  rw [m_X12_perhaps]
  simp only [e_X12_perhaps_0, e_X12_perhaps_1, e_X12_perhaps_4, e_X12_perhaps_7, e_X12_perhaps_8, e_X12_perhaps_11, e_X12_perhaps_12, e_X12_perhaps_13, e_X12_perhaps_14, e_X12_perhaps_17, e_X12_perhaps_18, g_143_12, hb.lt, zfit_b0, Option.bind_some, Option.isSome_some, Option.toList, List.cons_append, List.nil_append, zclr_i, zclr_r, zclr_n, zfit_i, zfit_l, and_self, if_true, if_false]
theorem v_readTold_b {x y : Int32} (hb : BAD X Y) (d : Nat) : zcall (d + 1) 295 [.ref 143, .int x, .int y] (mk n m g Y JY) = some (some (.int 0), mk n m g Y JY) := by
  rw [m_X12_readTold]
  simp only [e_X12_readTold_0, e_X12_readTold_1, e_X12_readTold_2, e_X12_readTold_3, e_X12_readTold_6, e_X12_readTold_7, e_X12_readTold_8, e_X12_readTold_9, e_X12_readTold_12, e_X12_readTold_13, c_143, v_told_b hb, v_must_b hb, Option.bind_some, Option.isSome_some, Option.toList, List.cons_append, List.nil_append, zclr_i, zclr_r, zclr_n, zfit_i, zfit_l, and_self, if_true, if_false]
theorem v_behindWord_b {x y z : Int32} (hb : BAD X Y) (d : Nat) : zcall (d + 1) 283 [.ref 143, .int z, .int x, .int y] (mk n m g Y JY) = some (some (.int 0), mk n m g Y JY) := by
  rw [m_X12_behindWord]
  simp only [e_X12_behindWord_0, e_X12_behindWord_1, e_X12_behindWord_2, e_X12_behindWord_5, e_X12_behindWord_6, e_X12_behindWord_7, e_X12_behindWord_8, e_X12_behindWord_11, c_143, v_count_b hb, v_must_b hb, Option.bind_some, Option.isSome_some, Option.toList, List.cons_append, List.nil_append, zclr_i, zclr_r, zclr_n, zfit_i, zfit_l, and_self, if_true, if_false]
theorem v_perhaps_f (hb : Y 143 12 = 0) (d : Nat) : zcall d 284 [.ref 143, .int 0] (mk n m g Y JY) = some (some (.int 0), mk n m g Y JY) := by
  rw [m_X12_perhaps]
  simp only [e_X12_perhaps_0, e_X12_perhaps_1, e_X12_perhaps_4, e_X12_perhaps_7, e_X12_perhaps_8, e_X12_perhaps_11, e_X12_perhaps_12, e_X12_perhaps_13, e_X12_perhaps_14, e_X12_perhaps_17, e_X12_perhaps_18, g_143_12, hb, z01, zfit_b0, Option.bind_some, Option.isSome_some, Option.toList, List.cons_append, List.nil_append, zclr_i, zclr_r, zclr_n, zfit_i, zfit_l, and_self, if_true, if_false]
theorem v_perhaps_t (hb : Y 143 12 = 0) (ha : Ca 1 257 [.ref 143] Y JY none Y' JY') (d : Nat) : zcall (d + 2) 284 [.ref 143, .int 1] (mk n m g Y JY) = some (some (.int 1), mk n m g Y' JY') := by
  rw [m_X12_perhaps]
  simp only [e_X12_perhaps_0, e_X12_perhaps_1, e_X12_perhaps_4, e_X12_perhaps_7, e_X12_perhaps_8, e_X12_perhaps_11, e_X12_perhaps_12, e_X12_perhaps_13, e_X12_perhaps_14, e_X12_perhaps_17, e_X12_perhaps_18, c_143, g_143_12, hb, z01, ha, zfit_b1, show ((1 : Int32) = 0) = False by decide, Option.bind_some, Option.isSome_some, Option.toList, List.cons_append, List.nil_append, zclr_i, zclr_r, zclr_n, zfit_i, zfit_l, and_self, if_true, if_false]
theorem v_isSign {x : Int32} (d : Nat) : zcall d 258 [.ref 143, .int x] (mk n m g Y JY) = some (some (.int (bI (decide (Y 143 14 = 3 ∧ Y 143 17 = x)))), mk n m g Y JY) := by
  rw [m_X12_isSign]
  simp only [e_X12_isSign_0, e_X12_isSign_1, e_X12_isSign_4, e_X12_isSign_5, e_X12_isSign_8, e_X12_isSign_9, e_X12_isSign_12, e_X12_isSign_13, e_X12_isSign_16, e_X12_isSign_17, e_X12_isSign_20, e_X12_isSign_21, g_143_14, g_143_17, Option.bind_some, Option.isSome_some, Option.toList, List.cons_append, List.nil_append, zclr_i, zclr_r, zclr_n, zfit_i, zfit_l, and_self, if_true, if_false]
  by_cases h1 : Y 143 14 = 3 <;> by_cases h2 : Y 143 17 = x <;> simp [h1, h2, bI, zfit_b0, zfit_b1]
theorem RDS.sign (h : RDS L p X JX Y JY) (x : Int32) : decide (Y 143 14 = 3 ∧ Y 143 17 = x) = decide (X 13 5 = 4 ∧ X 13 7 = x) := by
  by_cases c : X 13 5 = 4
  · simp only [h.sig3, h.sgn c]
  · simp only [h.sig3, c, false_and]
/-! a number -/
theorem d_takeNumber_k {lo hi : Int32} (h : X 13 5 ≠ 3) (d : Nat) : zcall (d + 1) 57 [.ref 13, .int lo, .int hi] (mk n m g X JX) = some (some (.int (-1)), mk n m g (dHere X) JX) := by
  rw [m_X4_takeNumber]
  simp only [e_X4_takeNumber_0, e_X4_takeNumber_1, e_X4_takeNumber_4, e_X4_takeNumber_5, e_X4_takeNumber_8, e_X4_takeNumber_9, e_X4_takeNumber_12, e_X4_takeNumber_13, e_X4_takeNumber_14, e_X4_takeNumber_15, e_X4_takeNumber_16, e_X4_takeNumber_19, e_X4_takeNumber_20, e_X4_takeNumber_23, e_X4_takeNumber_24, e_X4_takeNumber_27, e_X4_takeNumber_28, e_X4_takeNumber_31, e_X4_takeNumber_32, e_X4_takeNumber_33, e_X4_takeNumber_36, e_X4_takeNumber_37, e_X4_takeNumber_38, e_X4_takeNumber_39, e_X4_takeNumber_40, e_X4_takeNumber_43, e_X4_takeNumber_44, e_X4_takeNumber_45, e_X4_takeNumber_48, e_X4_takeNumber_49, c_13, g_13_5, h, d_failHere, Option.bind_some, Option.isSome_some, Option.toList, List.cons_append, List.nil_append, zclr_i, zclr_r, zclr_n, zfit_i, zfit_l, and_self, if_true, if_false]
theorem d_takeNumber_r {lo hi : Int32} (h : X 13 5 = 3) (h2 : ¬ (lo ≤ X 13 6 ∧ X 13 6 ≤ hi)) (d : Nat) : zcall (d + 1) 57 [.ref 13, .int lo, .int hi] (mk n m g X JX) = some (some (.int (-1)), mk n m g (dFail 4 X) JX) := by
  rw [m_X4_takeNumber]
  simp only [e_X4_takeNumber_0, e_X4_takeNumber_1, e_X4_takeNumber_4, e_X4_takeNumber_5, e_X4_takeNumber_8, e_X4_takeNumber_9, e_X4_takeNumber_12, e_X4_takeNumber_13, e_X4_takeNumber_14, e_X4_takeNumber_15, e_X4_takeNumber_16, e_X4_takeNumber_19, e_X4_takeNumber_20, e_X4_takeNumber_23, e_X4_takeNumber_24, e_X4_takeNumber_27, e_X4_takeNumber_28, e_X4_takeNumber_31, e_X4_takeNumber_32, e_X4_takeNumber_33, e_X4_takeNumber_36, e_X4_takeNumber_37, e_X4_takeNumber_38, e_X4_takeNumber_39, e_X4_takeNumber_40, e_X4_takeNumber_43, e_X4_takeNumber_44, e_X4_takeNumber_45, e_X4_takeNumber_48, e_X4_takeNumber_49, c_13, g_13_5, g_13_6, h, d_fail, Option.bind_some, Option.isSome_some, Option.toList, List.cons_append, List.nil_append, zclr_i, zclr_r, zclr_n, zfit_i, zfit_l, and_self, if_true, if_false]
  by_cases c1 : X 13 6 < lo
  · simp [c1]
  · have c2 : hi < X 13 6 := Int32.not_le.mp (fun q => h2 ⟨Int32.not_lt.mp c1, q⟩)
    simp [c1, Int32.not_le.mpr c2]
theorem d_takeNumber_ok {lo hi : Int32} (h : X 13 5 = 3) (h1 : lo ≤ X 13 6) (h2 : X 13 6 ≤ hi) (ha : Ca 1 45 [.ref 13] X JX none X' JX') (d : Nat) : zcall (d + 2) 57 [.ref 13, .int lo, .int hi] (mk n m g X JX) = some (some (.int (X 13 6)), mk n m g X' JX') := by
  rw [m_X4_takeNumber]
  simp only [e_X4_takeNumber_0, e_X4_takeNumber_1, e_X4_takeNumber_4, e_X4_takeNumber_5, e_X4_takeNumber_8, e_X4_takeNumber_9, e_X4_takeNumber_12, e_X4_takeNumber_13, e_X4_takeNumber_14, e_X4_takeNumber_15, e_X4_takeNumber_16, e_X4_takeNumber_19, e_X4_takeNumber_20, e_X4_takeNumber_23, e_X4_takeNumber_24, e_X4_takeNumber_27, e_X4_takeNumber_28, e_X4_takeNumber_31, e_X4_takeNumber_32, e_X4_takeNumber_33, e_X4_takeNumber_36, e_X4_takeNumber_37, e_X4_takeNumber_38, e_X4_takeNumber_39, e_X4_takeNumber_40, e_X4_takeNumber_43, e_X4_takeNumber_44, e_X4_takeNumber_45, e_X4_takeNumber_48, e_X4_takeNumber_49, c_13, g_13_5, g_13_6, h, ha, Int32.not_lt.mpr h1, eq_true h2, Option.bind_some, Option.isSome_some, Option.toList, List.cons_append, List.nil_append, zclr_i, zclr_r, zclr_n, zfit_i, zfit_l, and_self, if_true, if_false]
theorem v_count_k {lo hi : Int32} (h : RDS L p X JX Y JY) (c : X 13 5 ≠ 3) (d : Nat) : zcall (d + 2) 282 [.ref 143, .int lo, .int hi] (mk n m g Y JY) = some (some (.int 0), mk n m g (vFail (kH X) (X 13 4) Y) JY) := by
  rw [m_X12_count]
  simp only [e_X12_count_0, e_X12_count_1, e_X12_count_4, e_X12_count_7, e_X12_count_8, e_X12_count_11, e_X12_count_12, e_X12_count_15, e_X12_count_16, e_X12_count_19, e_X12_count_20, e_X12_count_23, e_X12_count_26, e_X12_count_27, e_X12_count_30, e_X12_count_31, e_X12_count_32, e_X12_count_33, e_X12_count_34, e_X12_count_35, e_X12_count_38, e_X12_count_41, e_X12_count_42, e_X12_count_43, e_X12_count_44, e_X12_count_47, e_X12_count_50, e_X12_count_51, e_X12_count_54, e_X12_count_57, e_X12_count_58, e_X12_count_59, e_X12_count_60, e_X12_count_63, e_X12_count_64, e_X12_count_65, e_X12_count_68, e_X12_count_69, c_143, g_143_12, g_143_14, h.bad, h.num2, c, v_amiss h, h.here.ne, h.here.le, Option.bind_some, Option.isSome_some, Option.toList, List.cons_append, List.nil_append, zclr_i, zclr_r, zclr_n, zfit_i, zfit_l, and_self, if_true, if_false]
theorem v_count_r {lo hi : Int32} (h : RDS L p X JX Y JY) (c : X 13 5 = 3) (h2 : ¬ (lo ≤ X 13 6 ∧ X 13 6 ≤ hi)) (d : Nat) : zcall (d + 2) 282 [.ref 143, .int lo, .int hi] (mk n m g Y JY) = some (some (.int 0), mk n m g (vFail 4 (X 13 4) Y) JY) := by
  have hI := fun d hh => v_isIn (X 13 6) lo hi _ _ rfl rfl d hh
  have hB := h.fails 4 (by decide) (by decide)
  have e4 : nI 4 = 4 := rfl
  rw [e4] at hB
  rw [m_X12_count]
  simp only [e_X12_count_0, e_X12_count_1, e_X12_count_4, e_X12_count_7, e_X12_count_8, e_X12_count_11, e_X12_count_12, e_X12_count_15, e_X12_count_16, e_X12_count_19, e_X12_count_20, e_X12_count_23, e_X12_count_26, e_X12_count_27, e_X12_count_30, e_X12_count_31, e_X12_count_32, e_X12_count_33, e_X12_count_34, e_X12_count_35, e_X12_count_38, e_X12_count_41, e_X12_count_42, e_X12_count_43, e_X12_count_44, e_X12_count_47, e_X12_count_50, e_X12_count_51, e_X12_count_54, e_X12_count_57, e_X12_count_58, e_X12_count_59, e_X12_count_60, e_X12_count_63, e_X12_count_64, e_X12_count_65, e_X12_count_68, e_X12_count_69, c_143, g_143_12, g_143_14, g_143_15, g_143_17, h.bad, h.num2, h.at, c, h.numb c, hI, decide_eq_false h2, bI, v_fail h.bad, hB.ne, hB.le, Bool.false_eq_true, Option.bind_some, Option.isSome_some, Option.toList, List.cons_append, List.nil_append, zclr_i, zclr_r, zclr_n, zfit_i, zfit_l, and_self, if_true, if_false]
theorem v_count_ok {lo hi : Int32} (h : RDS L p X JX Y JY) (c : X 13 5 = 3) (h1 : lo ≤ X 13 6) (h2 : X 13 6 ≤ hi) (ha : Ca 1 257 [.ref 143] Y JY none Y' JY') (d : Nat) : zcall (d + 2) 282 [.ref 143, .int lo, .int hi] (mk n m g Y JY) = some (some (.int (X 13 6)), mk n m g Y' JY') := by
  have hI := fun d hh => v_isIn (X 13 6) lo hi _ _ rfl rfl d hh
  rw [m_X12_count]
  simp only [e_X12_count_0, e_X12_count_1, e_X12_count_4, e_X12_count_7, e_X12_count_8, e_X12_count_11, e_X12_count_12, e_X12_count_15, e_X12_count_16, e_X12_count_19, e_X12_count_20, e_X12_count_23, e_X12_count_26, e_X12_count_27, e_X12_count_30, e_X12_count_31, e_X12_count_32, e_X12_count_33, e_X12_count_34, e_X12_count_35, e_X12_count_38, e_X12_count_41, e_X12_count_42, e_X12_count_43, e_X12_count_44, e_X12_count_47, e_X12_count_50, e_X12_count_51, e_X12_count_54, e_X12_count_57, e_X12_count_58, e_X12_count_59, e_X12_count_60, e_X12_count_63, e_X12_count_64, e_X12_count_65, e_X12_count_68, e_X12_count_69, c_143, g_143_12, g_143_14, g_143_15, g_143_17, h.bad, h.num2, c, h.numb c, hI, decide_eq_true (show lo ≤ X 13 6 ∧ X 13 6 ≤ hi from ⟨h1, h2⟩), bI, ha, z00, show ((1 : Int32) = 0) = False by decide, Option.bind_some, Option.isSome_some, Option.toList, List.cons_append, List.nil_append, zclr_i, zclr_r, zclr_n, zfit_i, zfit_l, and_self, if_true, if_false]
theorem nI_btw {x : Int32} {lo hi : Nat} (h1 : nI lo ≤ x) (h2 : x ≤ nI hi) (hl : lo < 2 ^ 31) (hh : hi < 2 ^ 31) : ∃ k, lo ≤ k ∧ k ≤ hi ∧ x = nI k := by
  have t1 : (nI lo).toInt = lo := Int32.toInt_ofNat_of_lt hl
  have t2 : (nI hi).toInt = hi := Int32.toInt_ofNat_of_lt hh
  rw [Int32.le_iff_toInt_le] at h1 h2
  rw [t1] at h1
  rw [t2] at h2
  have e : x = nI x.toInt.toNat := by
    apply Int32.toInt_inj.mp
    have t3 : (nI x.toInt.toNat).toInt = x.toInt.toNat := Int32.toInt_ofNat_of_lt (by omega)
    rw [t3]
    omega
  exact ⟨x.toInt.toNat, by omega, by omega, e⟩
theorem r_number (h : RDS L p X JX Y JY) (lo hi : Nat) (hh : hi < 2 ^ 31) (hl : lo < 2 ^ 31) : (∃ k X' JX' Y' JY' p', lo ≤ k ∧ k ≤ hi ∧ Ca 2 57 [.ref 13, .int (nI lo), .int (nI hi)] X JX (some (.int (nI k))) X' JX' ∧ Ca 2 282 [.ref 143, .int (nI lo), .int (nI hi)] Y JY (some (.int (nI k))) Y' JY' ∧ RDS L p' X' JX' Y' JY' ∧ p ≤ p' ∧ FX X JX X' JX' ∧ YG Y JY Y' JY') ∨ ∃ X' Y', Ca 2 57 [.ref 13, .int (nI lo), .int (nI hi)] X JX (some (.int (-1))) X' JX ∧ Ca 2 282 [.ref 143, .int (nI lo), .int (nI hi)] Y JY (some (.int 0)) Y' JY ∧ BAD X' Y' ∧ FX X JX X' JX ∧ YG Y JY Y' JY := by
  by_cases c : X 13 5 = 3
  · by_cases c2 : nI lo ≤ X 13 6 ∧ X 13 6 ≤ nI hi
    · obtain ⟨k, k1, k2, ek⟩ := nI_btw c2.1 c2.2 hl hh
      obtain ⟨X', JX', Y', JY', p', a1, a2, a3, a4, _, a5, a6⟩ := r_adv h
      refine .inl ⟨k, X', JX', Y', JY', p', k1, k2, fun n m g d => ?_, fun n m g d => ?_, a3, a4, a5, a6.yg⟩
      · rw [← ek]
        exact d_takeNumber_ok c c2.1 c2.2 a1 d
      · rw [← ek]
        exact v_count_ok h c c2.1 c2.2 a2 d
    · exact .inr ⟨dFail 4 X, vFail 4 (X 13 4) Y, fun n m g d => d_takeNumber_r c c2 (d + 1), fun n m g d => v_count_r h c c2 d, h.fails 4 (by decide) (by decide), FX.fail _, YG.fail _ _⟩
  · exact .inr ⟨dHere X, vFail (kH X) (X 13 4) Y, fun n m g d => d_takeNumber_k c (d + 1), fun n m g d => v_count_k h c d, h.here, FX.here, YG.fail _ _⟩
/-! one who is named -/
theorem v_named {B s K : Nat} (hB : B ≤ 4) (hs : s ≤ 1) (hK : K ≤ 12) (hc : Y 148 (506 * B + s) = nI K) (d : Nat) : zcall d 292 [.ref 143, .int (nI B), .int (nI s)] (mk n m g Y JY) = some (some (.int (zfind (fun k => decide (JY 151 (18 * B + 6 * s + k) = JY 143 19)) nI (-1) 0 K)), mk n m g Y JY) := by
  have e1 : (506 : Int32) * nI B + nI s = nI (506 * B + s) := by rw [show (506 : Int32) = nI 506 from rfl, pk_mul, nI_add]
  have e2 : ∀ k, (18 : Int32) * nI B + 6 * nI s + nI k = nI (18 * B + 6 * s + k) := fun k => by rw [show (18 : Int32) = nI 18 from rfl, show (6 : Int32) = nI 6 from rfl, pk_mul, pk_mul, nI_add, nI_add]
  rw [m_X12_named]
  simp only [e_X12_named_0, e_X12_named_1, e_X12_named_3, e_X12_named_4, e_X12_named_7, e_X12_named_10, e_X12_named_11, e_X12_named_12, e_X12_named_13, e_X12_named_14, e_X12_named_15, e_X12_named_18, e_X12_named_19, e_X12_named_22, e_X12_named_24, e_X12_named_25, e_X12_named_26, e_X12_named_28, e_X12_named_29, e_X12_named_30, e_X12_named_31, e_X12_named_32, e_X12_named_33, e_X12_named_34, e_X12_named_35, e_X12_named_38, e_X12_named_39, e_X12_named_42, e_X12_named_43, e_X12_named_44, e_X12_named_47, e_X12_named_50, e_X12_named_51, Option.bind_some, Option.isSome_some, Option.toList, List.cons_append, List.nil_append, zclr_i, zclr_r, zclr_n, zfit_i, zfit_l, and_self, if_true, if_false]
  have h := zsearch (fun k => zexec d 292 2 [some (.ref 143), some (.int (nI B)), some (.int (nI s)), some (.int (nI k))] [] (mk n m g Y JY)) (fun k => decide (JY 151 (18 * B + 6 * s + k) = JY 143 19)) (fun k => some (some (.int (nI k)), mk n m g Y JY)) K ?_ K 0 (by omega)
  · refine h.trans ?_
    have h2 : zexec d 292 2 [some (.ref 143), some (.int (nI B)), some (.int (nI s)), some (.int (nI K))] [] (mk n m g Y JY) = some (some (.int (-1)), mk n m g Y JY) := by
      rw [e_X12_named_2]
      simp only [e_X12_named_0, e_X12_named_1, e_X12_named_3, e_X12_named_4, e_X12_named_7, e_X12_named_10, e_X12_named_11, e_X12_named_12, e_X12_named_13, e_X12_named_14, e_X12_named_15, e_X12_named_18, e_X12_named_19, e_X12_named_22, e_X12_named_24, e_X12_named_25, e_X12_named_26, e_X12_named_28, e_X12_named_29, e_X12_named_30, e_X12_named_31, e_X12_named_32, e_X12_named_33, e_X12_named_34, e_X12_named_35, e_X12_named_38, e_X12_named_39, e_X12_named_42, e_X12_named_43, e_X12_named_44, e_X12_named_47, e_X12_named_50, e_X12_named_51, g_143_20, e1, l_148 (show 506 * B + s < 2530 by omega), hc, if_pos (nI_le (Nat.le_refl K) (show K < 2 ^ 31 by omega)), Option.bind_some, Option.isSome_some, Option.toList, List.cons_append, List.nil_append, zclr_i, zclr_r, zclr_n, zfit_i, zfit_l, and_self, if_true, if_false]
    rw [h2]
    exact zfind_app (fun v => some (some (Value.int v), mk n m g Y JY)) _ nI (-1) K 0
  · intro k hk
    rw [e_X12_named_2]
    simp only [e_X12_named_0, e_X12_named_1, e_X12_named_3, e_X12_named_4, e_X12_named_7, e_X12_named_10, e_X12_named_11, e_X12_named_12, e_X12_named_13, e_X12_named_14, e_X12_named_15, e_X12_named_18, e_X12_named_19, e_X12_named_22, e_X12_named_24, e_X12_named_25, e_X12_named_26, e_X12_named_28, e_X12_named_29, e_X12_named_30, e_X12_named_31, e_X12_named_32, e_X12_named_33, e_X12_named_34, e_X12_named_35, e_X12_named_38, e_X12_named_39, e_X12_named_42, e_X12_named_43, e_X12_named_44, e_X12_named_47, e_X12_named_50, e_X12_named_51, g_143_20, g_143_23, g_143_19, e1, e2, l_148 (show 506 * B + s < 2530 by omega), hc, if_neg (nI_ge hk (show K < 2 ^ 31 by omega)), nI_neg (show 18 * B + 6 * s + k < 2 ^ 31 by omega), nI_clamp (show 18 * B + 6 * s + k < 2 ^ 31 by omega), k_151 (show 18 * B + 6 * s + k < 90 by omega), lg_eq, nI_1, Option.bind_some, Option.isSome_some, Option.toList, List.cons_append, List.nil_append, zclr_i, zclr_r, zclr_n, zfit_i, zfit_l, and_self, if_true, if_false]
    by_cases h1 : JY 151 (18 * B + 6 * s + k) = JY 143 19 <;> simp [h1]
/-- the same words to both -/
def WR (JX : Nat → Nat → Int64) (a : Nat) (JY : Nat → Nat → Int64) (o K : Nat) : Prop := ∀ k, k < K → ∀ w, 0 < w → (JX a k = w) = (JY 151 (o + k) = w)
theorem WR.find {a o K : Nat} (h : WR JX a JY o K) {w : Int64} (hw : 0 < w) : zfind (fun k => decide (JY 151 (o + k) = w)) nI (-1) 0 K = wPlace JX a K w := by
  unfold wPlace
  exact zfind_congr K 0 (fun k _ hk => by simp only [h k (by omega) w hw])
theorem v_told_n {B s : Int32} (h : RDS L p X JX Y JY) (hn : dName X JX = false) (d : Nat) : zcall (d + 4) 294 [.ref 143, .int B, .int s] (mk n m g Y JY) = some (some (.int 0), mk n m g (vFail (kH X) (X 13 4) Y) JY) := by
  rw [m_X12_told]
  simp only [e_X12_told_0, e_X12_told_1, e_X12_told_4, e_X12_told_7, e_X12_told_8, e_X12_told_11, e_X12_told_14, e_X12_told_15, e_X12_told_18, e_X12_told_19, e_X12_told_22, e_X12_told_25, e_X12_told_26, e_X12_told_27, e_X12_told_28, e_X12_told_29, e_X12_told_30, e_X12_told_33, e_X12_told_34, e_X12_told_35, e_X12_told_38, e_X12_told_39, e_X12_told_40, e_X12_told_41, e_X12_told_44, e_X12_told_47, e_X12_told_48, e_X12_told_49, e_X12_told_52, c_143, g_143_12, h.bad, v_isName, h.name, hn, bI, v_amiss h, h.here.le, Bool.false_eq_true, Option.bind_some, Option.isSome_some, Option.toList, List.cons_append, List.nil_append, zclr_i, zclr_r, zclr_n, zfit_i, zfit_l, and_self, if_true, if_false]
theorem v_told_u {B s K a : Nat} (h : RDS L p X JX Y JY) (hn : dName X JX = true) (hB : B ≤ 4) (hs : s ≤ 1) (hK : K ≤ 12) (hc : Y 148 (506 * B + s) = nI K) (hw : WR JX a JY (18 * B + 6 * s) K) (hu : wPlace JX a K (JX 13 8) = -1) (d : Nat) : zcall (d + 4) 294 [.ref 143, .int (nI B), .int (nI s)] (mk n m g Y JY) = some (some (.int 0), mk n m g (vFail 3 (X 13 4) Y) JY) := by
  obtain ⟨e1, e2⟩ := h.pos hn
  have hf := hw.find e2
  rw [hu] at hf
  rw [m_X12_told]
  simp only [e_X12_told_0, e_X12_told_1, e_X12_told_4, e_X12_told_7, e_X12_told_8, e_X12_told_11, e_X12_told_14, e_X12_told_15, e_X12_told_18, e_X12_told_19, e_X12_told_22, e_X12_told_25, e_X12_told_26, e_X12_told_27, e_X12_told_28, e_X12_told_29, e_X12_told_30, e_X12_told_33, e_X12_told_34, e_X12_told_35, e_X12_told_38, e_X12_told_39, e_X12_told_40, e_X12_told_41, e_X12_told_44, e_X12_told_47, e_X12_told_48, e_X12_told_49, e_X12_told_52, c_143, g_143_12, g_143_15, h.bad, h.at, z00, v_isName, h.name, hn, bI, v_named hB hs hK hc, e1, hf, v_fail h.bad, j_max, show ((1 : Int32) = 0) = False by decide, show ((0 : Int32) ≤ -1) = False by decide, show ((0 : Int32) < -1) = False by decide, Option.bind_some, Option.isSome_some, Option.toList, List.cons_append, List.nil_append, zclr_i, zclr_r, zclr_n, zfit_i, zfit_l, and_self, if_true, if_false]
theorem v_told_k {B s K a k : Nat} (h : RDS L p X JX Y JY) (hn : dName X JX = true) (hB : B ≤ 4) (hs : s ≤ 1) (hK : K ≤ 12) (hc : Y 148 (506 * B + s) = nI K) (hw : WR JX a JY (18 * B + 6 * s) K) (hu : wPlace JX a K (JX 13 8) = nI k) (hk : k < K) (d : Nat) : zcall (d + 4) 294 [.ref 143, .int (nI B), .int (nI s)] (mk n m g Y JY) = some (some (.int (nI k)), mk n m g Y JY) := by
  obtain ⟨e1, e2⟩ := h.pos hn
  have hf := hw.find e2
  rw [hu] at hf
  have h0 : ((0 : Int32) ≤ nI k) = True := eq_true (nI_le (a := 0) (Nat.zero_le k) (by omega))
  have h1 : (if (0 : Int32) < nI k then nI k else 0) = nI k := by
    by_cases c : k = 0
    · rw [c]
      rfl
    · rw [if_pos (show (0 : Int32) < nI k from Int32.not_le.mp (nI_ge (a := 0) (b := k) (by omega) (by omega)))]
  rw [m_X12_told]
  simp only [e_X12_told_0, e_X12_told_1, e_X12_told_4, e_X12_told_7, e_X12_told_8, e_X12_told_11, e_X12_told_14, e_X12_told_15, e_X12_told_18, e_X12_told_19, e_X12_told_22, e_X12_told_25, e_X12_told_26, e_X12_told_27, e_X12_told_28, e_X12_told_29, e_X12_told_30, e_X12_told_33, e_X12_told_34, e_X12_told_35, e_X12_told_38, e_X12_told_39, e_X12_told_40, e_X12_told_41, e_X12_told_44, e_X12_told_47, e_X12_told_48, e_X12_told_49, e_X12_told_52, c_143, g_143_12, g_143_15, h.bad, h.at, z00, v_isName, h.name, hn, bI, v_named hB hs hK hc, e1, hf, j_max, h0, h1, show ((1 : Int32) = 0) = False by decide, Option.bind_some, Option.isSome_some, Option.toList, List.cons_append, List.nil_append, zclr_i, zclr_r, zclr_n, zfit_i, zfit_l, and_self, if_true, if_false]
theorem r_told {B s K a : Nat} (h : RDS L p X JX Y JY) (hB : B ≤ 4) (hs : s ≤ 1) (hK : K ≤ 12) (hc : Y 148 (506 * B + s) = nI K) (hw : WR JX a JY (18 * B + 6 * s) K) : (∃ k, k < K ∧ dName X JX = true ∧ dPlace X JX a K = (nI k, X) ∧ Ca 4 294 [.ref 143, .int (nI B), .int (nI s)] Y JY (some (.int (nI k))) Y JY) ∨ ∃ X' Y', dPlace X JX a K = (-1, X') ∧ Ca 4 294 [.ref 143, .int (nI B), .int (nI s)] Y JY (some (.int 0)) Y' JY ∧ BAD X' Y' ∧ FX X JX X' JX ∧ YG Y JY Y' JY := by
  unfold dPlace
  by_cases hn : dName X JX = true
  · rw [if_pos hn]
    rcases zfind_or (c := fun k => decide (JX a k = JX 13 8)) K 0 with ⟨h1, h2⟩ | ⟨j, h1, h2, h3, h4⟩
    · have hu : wPlace JX a K (JX 13 8) = -1 := h1
      rw [hu, if_pos rfl]
      exact .inr ⟨_, _, rfl, fun n m g d => v_told_u h hn hB hs hK hc hw hu d, h.fails 3 (by decide) (by decide), FX.fail _, YG.fail _ _⟩
    · have hu : wPlace JX a K (JX 13 8) = nI j := h4
      rw [hu, if_neg (nI_m1 (by omega))]
      exact .inl ⟨j, by omega, hn, rfl, fun n m g d => v_told_k h hn hB hs hK hc hw hu (by omega) d⟩
  · rw [if_neg hn]
    exact .inr ⟨_, _, rfl, fun n m g d => v_told_n h (Bool.eq_false_iff.mpr hn) d, h.here, FX.here, YG.fail _ _⟩
theorem v_readTold_t {B s K : Int32} {v : Int32} (hb : Y 143 12 = 0) (ht : Ca 4 294 [.ref 143, .int B, .int s] Y JY (some (.int v)) Y JY) (ha : Ca 1 257 [.ref 143] Y JY none Y' JY') (d : Nat) : zcall (d + 5) 295 [.ref 143, .int B, .int s] (mk n m g Y JY) = some (some (.int v), mk n m g Y' JY') := by
  rw [m_X12_readTold]
  simp only [e_X12_readTold_0, e_X12_readTold_1, e_X12_readTold_2, e_X12_readTold_3, e_X12_readTold_6, e_X12_readTold_7, e_X12_readTold_8, e_X12_readTold_9, e_X12_readTold_12, e_X12_readTold_13, c_143, ht, v_must_t hb ha, Option.bind_some, Option.isSome_some, Option.toList, List.cons_append, List.nil_append, zclr_i, zclr_r, zclr_n, zfit_i, zfit_l, and_self, if_true, if_false]
theorem v_readTold_f {B s : Int32} {v : Int32} (hb : BAD X Y') (ht : Ca 4 294 [.ref 143, .int B, .int s] Y JY (some (.int v)) Y' JY) (d : Nat) : zcall (d + 5) 295 [.ref 143, .int B, .int s] (mk n m g Y JY) = some (some (.int v), mk n m g Y' JY) := by
  rw [m_X12_readTold]
  simp only [e_X12_readTold_0, e_X12_readTold_1, e_X12_readTold_2, e_X12_readTold_3, e_X12_readTold_6, e_X12_readTold_7, e_X12_readTold_8, e_X12_readTold_9, e_X12_readTold_12, e_X12_readTold_13, c_143, ht, v_must_b hb, Option.bind_some, Option.isSome_some, Option.toList, List.cons_append, List.nil_append, zclr_i, zclr_r, zclr_n, zfit_i, zfit_l, and_self, if_true, if_false]
end RC
