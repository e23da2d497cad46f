/-! LIVES: any one living -/
section LH
variable {n m : Nat} {g : Nat → zC} {I X X' XA Y Y' A B : Nat → Nat → Int32} {J JY : Nat → Nat → Int64} {N N' S U l t b w : Nat} {c0 c' : Nat → Int32}
theorem nI_div {a k : Nat} (ha : a < 2 ^ 31) (hk : k < 2 ^ 31) : nI a / nI k = nI (a / k) := by
  apply Int32.toInt_inj.mp
  have h1 : nI k ≠ -1 := nI_m1 hk
  have h2 : a / k ≤ a := Nat.div_le_self a k
  rw [Int32.toInt_div_of_ne_right _ _ h1, nI_toInt ha, nI_toInt hk, nI_toInt (by omega)]
  rfl
theorem nI_modn {a k : Nat} (ha : a < 2 ^ 31) (hk : k < 2 ^ 31) : nI a - nI a / nI k * nI k = nI (a % k) := by
  rw [nI_div ha hk, pk_mul, nI_subn (Nat.div_mul_le_self a k)]
  congr 1
  have := Nat.div_add_mod a k
  rw [Nat.mul_comm] at this
  omega
theorem seed_nI {sd : Nat} (h : sd < 65536) : lSeed (nI sd) = nI ((sd * 2971 + 10709) % 65536) := by
  have e : nI sd * 2971 + 10709 = nI (sd * 2971 + 10709) := by
    rw [show (2971 : Int32) = nI 2971 from rfl, show (10709 : Int32) = nI 10709 from rfl, pk_mul, nI_add]
  unfold lSeed
  rw [e]
  exact nI_modn (k := 65536) (by omega) (by decide)
/-- how many from p on -/
def cnF (f : Nat → Bool) : Nat → Nat → Nat
  | _, 0 => 0
  | p, k + 1 => (if f p = true then 1 else 0) + cnF f (p + 1) k
theorem cnt_F (f : Nat → Bool) : ∀ k p a, zfor (fun p a => if f p = true then a + 1 else a) p k a = a + cnF f p k
  | 0, _, _ => rfl
  | k + 1, p, a => by
    rw [zfor, cnt_F f k, cnF]
    split <;> omega
theorem cnF_le (f : Nat → Bool) : ∀ k p, cnF f p k ≤ k
  | 0, _ => Nat.le_refl _
  | k + 1, p => by
    have := cnF_le f k (p + 1)
    rw [cnF]
    split <;> omega
theorem dPick_F (f : Nat → Bool) : ∀ k p r, r < cnF f p k → r < 2 ^ 31 → ∃ q, p ≤ q ∧ q < p + k ∧ f q = true ∧ dPick f (nI r) p k = nI q
  | 0, p, r, h, _ => absurd h (Nat.not_lt_zero _)
  | k + 1, p, r, h, h31 => by
    rw [cnF] at h
    rw [dPick]
    by_cases hc : f p = true
    · rw [if_pos hc]
      rw [if_pos hc] at h
      by_cases h0 : r = 0
      · rw [if_pos (by rw [h0]; rfl)]
        exact ⟨p, Nat.le_refl p, by omega, hc, rfl⟩
      · have hne : ¬ nI r = 0 := fun e => h0 (nI_inj h31 (by decide) e)
        rw [if_neg hne, nI_subm (by omega)]
        obtain ⟨q, q1, q2, q3, q4⟩ := dPick_F f k (p + 1) (r - 1) (by omega) (by omega)
        exact ⟨q, by omega, by omega, q3, q4⟩
    · rw [if_neg hc]
      rw [if_neg hc] at h
      obtain ⟨q, q1, q2, q3, q4⟩ := dPick_F f k (p + 1) r (by omega) h31
      exact ⟨q, by omega, by omega, q3, q4⟩
theorem v_draw {K sd : Nat} (hs : sd < 65536) (hI : I 143 36 = nI sd) (h0 : K ≠ 0) (hK : K < 2 ^ 31) (d : Nat) : zcall d 394 [.ref 143, .int (nI K)] (mk n m g I J) = some (some (.int (nI ((sd * 2971 + 10709) % 65536 / 8 % K))), mk n m g (zu I 143 36 (nI ((sd * 2971 + 10709) % 65536))) J) := by
  have hne : ¬ nI K = 0 := fun e => h0 (nI_inj hK (by decide) e)
  have e1 : (I 143 36 * 2971 + 10709) - (I 143 36 * 2971 + 10709) / 65536 * 65536 = nI ((sd * 2971 + 10709) % 65536) := by
    rw [hI]
    exact seed_nI hs
  have e2 : nI ((sd * 2971 + 10709) % 65536) / 8 = nI ((sd * 2971 + 10709) % 65536 / 8) := nI_div (k := 8) (by omega) (by decide)
  have h36 : zu I 143 36 (nI ((sd * 2971 + 10709) % 65536)) 143 36 = nI ((sd * 2971 + 10709) % 65536) := by rw [zu_row, if_pos rfl]
  rw [m_X12_draw]
  simp only [e_X12_draw_0, e_X12_draw_1, e_X12_draw_2, e_X12_draw_5, e_X12_draw_8, e_X12_draw_9, e_X12_draw_12, e_X12_draw_13, e_X12_draw_16, e_X12_draw_17, e_X12_draw_20, e_X12_draw_21, e_X12_draw_24, e_X12_draw_26, e_X12_draw_27, e_X12_draw_28, e_X12_draw_29, g_143_36, p_143_36, if_neg (show ¬ (65536 : Int32) = 0 by decide), if_neg (show ¬ (8 : Int32) = 0 by decide), if_neg hne, e1, h36, e2, nI_modn (show (sd * 2971 + 10709) % 65536 / 8 < 2 ^ 31 by omega) hK, Option.bind_some, Option.isSome_some, Option.toList, List.cons_append, List.nil_append, zclr_i, zclr_r, zclr_n, zfit_i, zfit_l, and_self, if_true, if_false]
/-- the reference's way to the one drawn -/
theorem v_anyLoop {x : Int32} (h12 : N ≤ 12) (hx : isS x (fun p => decide (p < N) && decide (A (b + 6) p = -1))) (d : Nat) : ∀ k p r, p + k = N → r < cnF (fun p => decide (A (b + 6) p = -1)) p k → zexec (d + 1) 397 22 [some (.ref 143), some (.int x), some (.int (nI r)), some (.int (nI p))] [] (mk n m g I J) = some (some (.int (dPick (fun p => decide (A (b + 6) p = -1)) (nI r) p k)), mk n m g I J)
  | 0, p, r, _, h => absurd h (Nat.not_lt_zero _)
  | k + 1, p, r, hp, h => by
    have hle := cnF_le (fun p => decide (A (b + 6) p = -1)) (k + 1) p
    have hle2 := cnF_le (fun p => decide (A (b + 6) p = -1)) k (p + 1)
    have hpN : p < N := by omega
    rw [cnF] at h
    rw [e_X12_anyLiving_22, dPick]
    by_cases hc : A (b + 6) p = -1
    · rw [if_pos (by simp [hc])]
      rw [if_pos (by simp [hc])] at h
      by_cases h0 : r = 0
      · subst h0
        rw [if_pos (show nI 0 = 0 from rfl)]
        simp only [e_X12_anyLiving_23, e_X12_anyLiving_24, e_X12_anyLiving_27, e_X12_anyLiving_30, e_X12_anyLiving_31, e_X12_anyLiving_56, e_X12_anyLiving_57, v_hasS hx (show p < 12 by omega), hpN, hc, decide_true, Bool.and_self, bI, show ((1 : Int32) = 0) = False by decide, show (nI 0 ≤ 0) = True by decide, Option.bind_some, Option.isSome_some, Option.toList, List.cons_append, List.nil_append, zclr_i, zclr_r, zclr_n, zfit_i, zfit_l, and_self, if_true, if_false]
      · have hr0 : ¬ nI r ≤ 0 := nI_ge (a := 0) (by omega) (by omega)
        have ih := v_anyLoop h12 hx d k (p + 1) (r - 1) (by omega) (by omega)
        have hne : ¬ nI r = 0 := fun e => h0 (nI_inj (by omega) (by decide) e)
        rw [if_neg hne, nI_subm (by omega)]
        simp only [e_X12_anyLiving_23, e_X12_anyLiving_24, e_X12_anyLiving_27, e_X12_anyLiving_30, e_X12_anyLiving_31, e_X12_anyLiving_34, e_X12_anyLiving_35, e_X12_anyLiving_36, e_X12_anyLiving_37, e_X12_anyLiving_40, e_X12_anyLiving_43, e_X12_anyLiving_44, e_X12_anyLiving_47, e_X12_anyLiving_48, e_X12_anyLiving_49, e_X12_anyLiving_50, e_X12_anyLiving_53, v_hasS hx (show p < 12 by omega), hpN, hc, decide_true, Bool.and_self, bI, show ((1 : Int32) = 0) = False by decide, if_neg hr0, nI_sub1 (show 1 ≤ r by omega), nI_1, ih, Option.bind_some, Option.isSome_some, Option.toList, List.cons_append, List.nil_append, zclr_i, zclr_r, zclr_n, zfit_i, zfit_l, and_self, if_true, if_false]
    · rw [if_neg (by simp [hc])]
      rw [if_neg (by simp [hc])] at h
      have ih := v_anyLoop h12 hx d k (p + 1) r (by omega) (by omega)
      simp only [e_X12_anyLiving_23, e_X12_anyLiving_24, e_X12_anyLiving_27, e_X12_anyLiving_30, e_X12_anyLiving_31, e_X12_anyLiving_34, e_X12_anyLiving_35, e_X12_anyLiving_36, e_X12_anyLiving_37, e_X12_anyLiving_40, e_X12_anyLiving_43, e_X12_anyLiving_44, e_X12_anyLiving_47, e_X12_anyLiving_48, e_X12_anyLiving_49, e_X12_anyLiving_50, e_X12_anyLiving_53, v_hasS hx (show p < 12 by omega), hpN, hc, decide_true, decide_false, Bool.and_false, bI, Bool.false_eq_true, Int32.sub_zero, nI_1, ih, Option.bind_some, Option.isSome_some, Option.toList, List.cons_append, List.nil_append, zclr_i, zclr_r, zclr_n, zfit_i, zfit_l, and_self, if_true, if_false]
theorem al_any {x y : Int32} (hl : isLife l) (ht : isTown t) (hs : ∃ sd, sd < 65536 ∧ X l 7 = nI sd) (hW : WT X t N S 2999) (hw : 234 ≤ w ∧ w < 520) (k0 : c0 w = 6) : ActOk n m g c0 l t N S 19 x y w X := by
  have h12 := hW.h12
  obtain ⟨lo, lo1⟩ := lif_out hl ht
  obtain ⟨sd, hsd, esd⟩ := hs
  obtain ⟨K, eK⟩ : ∃ K, K = cnt (fun p => decide (p < N) && decide (X (t + 6) p = -1)) 12 := ⟨_, rfl⟩
  have hj : jbc (tLiv X t N) = nI K := by rw [isS_jbc (isS_tLiv h12), ← eK]
  have hKF : K = cnF (fun p => decide (X (t + 6) p = -1)) 0 N := by
    rw [eK, cnt_12 h12]
    unfold cnt
    rw [cnt_F, Nat.zero_add]
  have hKN := cnF_le (fun p => decide (X (t + 6) p = -1)) N 0
  have hli := isS_liv (A := X) (b := t) h12
  by_cases hK : K = 0
  · have hd : lDraw X l t N = (-1, X) := by
      unfold lDraw
      rw [hj, hK, if_pos (show nI 0 = 0 from rfl)]
    have hA : lAny X l t N = (false, X) := by
      unfold lAny
      rw [hd, if_pos rfl]
    have h0 : sLiv X t N = 0 := by
      obtain ⟨r, hr, er, hb⟩ := hli
      have : r.testBit = fun p => decide (p < N) && decide (X (t + 6) p = -1) := funext hb
      rw [er, cnt_zero hr (by rw [this, ← eK, hK])]
      rfl
    refine act_no hW ⟨sd, hsd, esd⟩ (fun d J => by rw [li_act_any hl ht h12 hW.yWell, hA]; rfl) (fun D Y JY h => ?_)
    have hv := v_living (n := n) (m := m) (g := g) (J := JY) hW h.1 (D + 5)
    rw [h0] at hv
    have hg : zcall (D + 7) 397 [.ref 143] (mk n m g Y JY) = some (some (.int (-1)), mk n m g Y JY) := by
      rw [m_X12_anyLiving]
      simp only [e_X12_anyLiving_0, e_X12_anyLiving_1, e_X12_anyLiving_4, e_X12_anyLiving_5, e_X12_anyLiving_6, e_X12_anyLiving_9, e_X12_anyLiving_10, c_143, hv, ne_eq, not_true, Option.bind_some, Option.isSome_some, Option.toList, List.cons_append, List.nil_append, zclr_i, zclr_r, zclr_n, zfit_i, zfit_l, and_self, if_true, if_false]
    rw [m_X12_does]
    simp only [e_X12_does_0, e_X12_does_1, e_X12_does_4, e_X12_does_5, e_X12_does_6, e_X12_does_7, e_X12_does_8, e_X12_does_11, e_X12_does_12, e_X12_does_13, e_X12_does_14, e_X12_does_15, e_X12_does_16, e_X12_does_17, e_X12_does_20, e_X12_does_21, e_X12_does_22, e_X12_does_23, e_X12_does_24, e_X12_does_26, e_X12_does_27, e_X12_does_36, e_X12_does_37, e_X12_does_38, e_X12_does_47, e_X12_does_48, e_X12_does_50, e_X12_does_53, e_X12_does_54, e_X12_does_55, e_X12_does_58, e_X12_does_61, cA_6, cA_12, cA_18, cA_30, cA_42, cA_54, cA_66, cA_78, cA_90, cA_102, cA_114, cA_126, cA_138, cA_210, cA_222, lc_0, lc_1, lc_2, lc_3, lc_4, lc_5, g_143_20, q_148, nI_neg (show w < 2 ^ 31 by omega), nI_clamp (show w < 2 ^ 31 by omega), k_148 (show w < 2530 by omega), l_148 (show w < 2530 by omega), nI_neg (show w + 1 < 2 ^ 31 by omega), nI_clamp (show w + 1 < 2 ^ 31 by omega), k_148 (show w + 1 < 2530 by omega), l_148 (show w + 1 < 2530 by omega), nI_neg (show w + 2 < 2 ^ 31 by omega), nI_clamp (show w + 2 < 2 ^ 31 by omega), k_148 (show w + 2 < 2530 by omega), l_148 (show w + 2 < 2530 by omega), c_143, nI_1, nI_p2, h.rd (show 234 ≤ w by omega), k0, show ((6 : Int32) = 0) = False by decide, show ((6 : Int32) = 1) = False by decide, ne_eq, not_false_eq_true, not_true, hg, v_isDying_none (n := n) (m := m) (g := g) (I := Y) (J := JY) (D + 3), zfit_b0, Option.bind_some, Option.isSome_some, Option.toList, List.cons_append, List.nil_append, zclr_i, zclr_r, zclr_n, zfit_i, zfit_l, and_self, if_true, if_false]
  · obtain ⟨r, er⟩ : ∃ r, r = (sd * 2971 + 10709) % 65536 / 8 % K := ⟨_, rfl⟩
    have hrK : r < K := by rw [er]; exact Nat.mod_lt _ (by omega)
    obtain ⟨q, _, q2, q3, q4⟩ := dPick_F (fun p => decide (X (t + 6) p = -1)) N 0 r (by omega) (by omega)
    have hqN : q < N := by omega
    have qa : X (t + 6) q = -1 := of_decide_eq_true q3
    obtain ⟨s2, es2⟩ : ∃ s2, s2 = (sd * 2971 + 10709) % 65536 := ⟨_, rfl⟩
    have hs2 : s2 < 65536 := by rw [es2]; exact Nat.mod_lt _ (by decide)
    have hd : lDraw X l t N = (nI q, zu X l 7 (nI s2)) := by
      unfold lDraw lPick
      rw [hj, if_neg (show ¬ nI K = 0 from fun e => hK (nI_inj (by omega) (by decide) e)), esd, seed_nI hsd, ← es2, show nI s2 / 8 = nI (s2 / 8) from nI_div (k := 8) (by omega) (by decide), nI_modn (by omega) (by omega), es2, ← er, q4]
    have hA : lAny X l t N = (true, lBury l t q (zu X l 7 (nI s2))) := by
      unfold lAny
      rw [hd, if_neg (nI_m1 (by omega)), nI_clamp (by omega)]
    have wX : WT (zu X l 7 (nI s2)) t N S 2999 := hW.far (fun i hi => zu_far _ _ _ (life_town hl ht hi).1)
    have ho : ∀ a, (∀ i, i < 17 → a ≠ t + i) → tBury (zu X l 7 (nI s2)) t (qN (zu X l 7 (nI s2)) t) q a = zu X l 7 (nI s2) a := fun a h => tBury_far (h 6 (by decide)) (h 9 (by decide)) (h 11 (by decide)) (h 14 (by decide)) (h 15 (by decide)) (h 16 (by decide))
    refine ⟨true, lBury l t q (zu X l 7 (nI s2)), N, Nat.le_refl N, fun d J => ?_, (wX.bury (p := q)).far (fun i hi => zu_far _ _ _ (life_town hl ht hi).1), fun a h1 h2 h3 => ?_, ?_, fun k hk => ?_, ⟨s2, hs2, ?_⟩, fun D Y JY h => ?_⟩
    · rw [li_act_any hl ht h12 hW.yWell, jb_id, hA]
    · rw [lBury, zu_far _ _ _ h2, ho a h1, zu_far _ _ _ h2]
    · rw [lBury, zu_far _ _ _ (by omega), ho _ lo1, zu_far _ _ _ (by omega)]
    · rw [lBury, zu_row, if_neg (by omega), ho l lo, zu_row, if_neg (by omega)]
    · rw [lBury, zu_row, if_neg (by omega), ho l lo, zu_row, if_pos rfl]
    · have h2 : LR c0 l t N S (zu X l 7 (nI s2)) (zu Y 143 36 (nI s2)) := h.set hl ht (by omega) _
      have hv := v_living (n := n) (m := m) (g := g) (J := JY) hW h.1 (D + 5)
      have hsz : ∀ H, zcall (D + 6) 252 [.int (sLiv X t N)] H = some (some (.int (nI K)), H) := fun H => by
        rw [v_sizeOf hli (D + 5) H, ← eK]
      have hdr := v_draw (n := n) (m := m) (g := g) (I := Y) (J := JY) (K := K) hsd (by rw [h.2.2.1, esd]) hK (by omega) (D + 6)
      rw [← er, ← es2] at hdr
      have hlo := v_anyLoop (n := n) (m := m) (g := g) (I := zu Y 143 36 (nI s2)) (J := JY) (A := X) (b := t) h12 hli (D + 6) N 0 r (by omega) (by omega)
      rw [q4] at hlo
      have hne : ¬ sLiv X t N = 0 := fun e => by
        have h3 : jbc (sLiv X t N) = nI K := by rw [isS_jbc hli, ← eK]
        rw [e] at h3
        exact hK (nI_inj (by omega) (by decide) (h3.symm.trans rfl))
      have hg : zcall (D + 7) 397 [.ref 143] (mk n m g Y JY) = some (some (.int (nI q)), mk n m g (zu Y 143 36 (nI s2)) JY) := by
        rw [m_X12_anyLiving]
        simp only [e_X12_anyLiving_0, e_X12_anyLiving_1, e_X12_anyLiving_4, e_X12_anyLiving_5, e_X12_anyLiving_6, e_X12_anyLiving_9, e_X12_anyLiving_10, e_X12_anyLiving_11, e_X12_anyLiving_12, e_X12_anyLiving_13, e_X12_anyLiving_16, e_X12_anyLiving_19, e_X12_anyLiving_20, e_X12_anyLiving_21, c_143, hv, hne, ne_eq, not_false_eq_true, hsz, hdr, Option.bind_some, Option.isSome_some, Option.toList, List.cons_append, List.nil_append, zclr_i, zclr_r, zclr_n, zfit_i, zfit_l, and_self, if_true, if_false]
        exact hlo
      have qa2 : zu X l 7 (nI s2) (t + 6) q = -1 := by rw [zu_far _ _ _ (life_town hl ht (by decide)).1]; exact qa
      obtain ⟨c1, e1, r1, f1⟩ := v_isDying (n := n) (m := m) (g := g) (J := JY) wX h2.1 hqN qa2 (D + 3)
      refine ⟨zu (zr (zu Y 143 36 (nI s2)) 148 c1) 143 41 (zu Y 143 36 (nI s2) 143 41 + 1), ?_, ?_, by rw [zu_row, if_neg (by decide), zr_far _ _ (by decide), zu_row, if_neg (by decide)], ((YF.rfl'.wr (by decide) (by decide)).wz).wr (by decide) (by decide)⟩
      · rw [m_X12_does, jy_id]
        simp only [e_X12_does_0, e_X12_does_1, e_X12_does_4, e_X12_does_5, e_X12_does_6, e_X12_does_7, e_X12_does_8, e_X12_does_11, e_X12_does_12, e_X12_does_13, e_X12_does_14, e_X12_does_15, e_X12_does_16, e_X12_does_17, e_X12_does_20, e_X12_does_21, e_X12_does_22, e_X12_does_23, e_X12_does_24, e_X12_does_26, e_X12_does_27, e_X12_does_36, e_X12_does_37, e_X12_does_38, e_X12_does_47, e_X12_does_48, e_X12_does_50, e_X12_does_53, e_X12_does_54, e_X12_does_55, e_X12_does_58, e_X12_does_61, cA_6, cA_12, cA_18, cA_30, cA_42, cA_54, cA_66, cA_78, cA_90, cA_102, cA_114, cA_126, cA_138, cA_210, cA_222, lc_0, lc_1, lc_2, lc_3, lc_4, lc_5, g_143_20, q_148, nI_neg (show w < 2 ^ 31 by omega), nI_clamp (show w < 2 ^ 31 by omega), k_148 (show w < 2530 by omega), l_148 (show w < 2530 by omega), nI_neg (show w + 1 < 2 ^ 31 by omega), nI_clamp (show w + 1 < 2 ^ 31 by omega), k_148 (show w + 1 < 2530 by omega), l_148 (show w + 1 < 2530 by omega), nI_neg (show w + 2 < 2 ^ 31 by omega), nI_clamp (show w + 2 < 2 ^ 31 by omega), k_148 (show w + 2 < 2530 by omega), l_148 (show w + 2 < 2530 by omega), c_143, nI_1, nI_p2, h.rd (show 234 ≤ w by omega), k0, show ((6 : Int32) = 0) = False by decide, show ((6 : Int32) = 1) = False by decide, ne_eq, not_false_eq_true, not_true, hg, e1, zfit_b1, bI, Option.bind_some, Option.isSome_some, Option.toList, List.cons_append, List.nil_append, zclr_i, zclr_r, zclr_n, zfit_i, zfit_l, and_self, if_true, if_false]
      · rw [if_pos rfl]
        have e4 : tBury (zu X l 7 (nI s2)) t (qN (zu X l 7 (nI s2)) t) q l 4 + 1 = zu Y 143 36 (nI s2) 143 41 + 1 := by rw [ho l lo, h2.2.2.2.2.2.2.2.1]
        rw [lBury, e4]
        refine LR.settleZ hl ht (wX.bury (p := q)) ?_
        exact (h2.row r1 f1 (fun k _ => by rw [settle_l lo, ho l lo])).set hl ht (by omega) _
end LH
