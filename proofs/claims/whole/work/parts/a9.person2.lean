/-! READING A TOWN: a person, what may follow -/
section TH
variable {n m : Nat} {g : Nat → zC} {A X Y X1 Y1 : Nat → Nat → Int32} {JX JY JX1 JY1 : Nat → Nat → Int64} {L p p' p1 N S q b U : Nat} {t x : Int32} {c c' : Nat → Int32} {X' Y' : Nat → Nat → Int32} {JX' JY' : Nat → Nat → Int64}
def PQ (L p : Nat) (t : Int32) (N S : Nat) (X : Nat → Nat → Int32) (JX : Nat → Nat → Int64) (Y : Nat → Nat → Int32) (JY : Nat → Nat → Int64) : Prop := TQ L p t (N + 1) S (fu (nb Y) 1 (nI (N + 1))) X JX Y JY ∧ nb Y 1 = nI N ∧ N < 12
theorem PQ.move (h : PQ L p t N S X JX Y JY) (hr : RDS L p' X' JX' Y' JY') (hf : FX X JX X' JX') (hg : YG Y JY Y' JY') : PQ L p' t N S X' JX' Y' JY' := by
  unfold PQ
  rw [hg.blk]
  exact ⟨h.1.move hr hf hg, h.2⟩
theorem YG.put {j : Nat} {v : Int32} (h : YG Y JY Y' JY') : YG (zu Y 148 j v) JY (zu Y' 148 j v) JY' := by
  refine ⟨fun a ha => ?_, fun k hk => ?_, h.2.2.1, h.2.2.2⟩
  · by_cases e : a = 148
    · subst e
      funext k
      rw [zu_row, zu_row, h.1 148 (by decide)]
    · rw [zu_far _ _ _ e, zu_far _ _ _ e, h.1 a ha]
  · rw [zu_far _ _ _ (by decide), zu_far _ _ _ (by decide), h.2.1 k hk]
theorem PQ.put (h : PQ L p t N S X JX Y JY) {i r k : Nat} {v v' : Int32} (hi : i < 17) (hi6 : i ≠ 6) (hr : r = 30 ∨ r = 42 ∨ r = 54) (hW : WT (zu X (33 + i) k v') 33 (N + 1) S 2999) (hR : RT (zu X (33 + i) k v') 33 (fu (fu (nb Y) 1 (nI (N + 1))) (r + N) v) (N + 1) S) : PQ L p t N S (zu X (33 + i) k v') JX (zu Y 148 (2024 + (r + N)) v) JY := by
  obtain ⟨⟨z1, z2, z3, z4, z5, z6, z7, z8⟩, h1, h2⟩ := h
  unfold PQ
  rw [nb_zu, fu_comm _ _ _ (show r + N ≠ 1 by omega)]
  refine ⟨⟨(z1.x (by omega)).cc, hW, hR, z4, z5.keep (fun r s h1 h2 h3 => fu_ne _ _ (by omega)) (fun r r' h1 h2 h3 => fu_ne _ _ (by omega)), fun q hq => ?_, ?_, ?_⟩, ?_, h2⟩
  · rw [zu_far _ _ _ (by omega)]
    exact z6 q hq
  · rw [fu_ne _ _ (by omega)]
    exact z7
  · rw [zu_far _ _ _ (by decide)]
    exact z8
  · rw [fu_ne _ _ (by omega)]
    exact h1
theorem PQ.bears (h : PQ L p t N S X JX Y JY) {s : Nat} (hs : s < S) : PQ L p t N S (zu X (33 + 7) N (nI s)) JX (zu Y 148 (2024 + (30 + N)) (nI s)) JY := by
  have hW := h.1.W
  refine h.put (by decide) (by decide) (by decide) ?_ (RT.set7 h.1.R hW.h12 hW.h6 h.2.2)
  refine hW.row7 (fun j _ hj => zu_far _ _ _ (by omega)) (fun q hq => ?_)
  rw [zu_row]
  by_cases e : q = N
  · rw [if_pos e]
    exact .inr ⟨s, hs, rfl⟩
  · rw [if_neg e]
    exact hW.bears q hq
theorem PQ.coins (h : PQ L p t N S X JX Y JY) {v : Nat} (hv : v ≤ 999) : PQ L p t N S (zu X (33 + 8) N (nI v)) JX (zu Y 148 (2024 + (42 + N)) (nI v)) JY := by
  have hW := h.1.W
  refine h.put (by decide) (by decide) (by decide) ?_ (RT.set8 h.1.R hW.h12 hW.h6 h.2.2)
  refine hW.row8 (fun j _ hj => zu_far _ _ _ (by omega)) (fun q hq => ?_)
  rw [zu_row]
  by_cases e : q = N
  · rw [if_pos e]
    exact ⟨v, by omega, rfl⟩
  · rw [if_neg e]
    exact hW.coins q hq
theorem PQ.miser (h : PQ L p t N S X JX Y JY) : PQ L p t N S (zu X (33 + 0) 5 (X 33 5 ||| 1 <<< (nI N &&& 31))) JX (zu Y 148 (2024 + (54 + N)) 1) JY := by
  have hW := h.1.W
  have R := h.1.R
  have h12 := hW.h12
  have h6 := hW.h6
  have hN := h.2.2
  have yr : ∀ k, zu X (33 + 0) 5 (X 33 5 ||| 1 <<< (nI N &&& 31)) 33 k = if k = 5 then X 33 5 ||| 1 <<< (nI N &&& 31) else X 33 k := fun k => zu_row _ _ _ _ _
  have ro : ∀ j, j ≠ 33 → zu X (33 + 0) 5 (X 33 5 ||| 1 <<< (nI N &&& 31)) j = X j := fun j hj => zu_far _ _ _ hj
  have hK : pK (zu X (33 + 0) 5 (X 33 5 ||| 1 <<< (nI N &&& 31))) 33 = pK X 33 := pK_far (ro _ (by decide))
  have hQ : qN (zu X (33 + 0) 5 (X 33 5 ||| 1 <<< (nI N &&& 31))) 33 = qN X 33 := qN_far (ro _ (by decide))
  have hq := hW.hQ.2
  have hk6 := hW.pK6
  have fc : ∀ j, j ≠ 54 + N → fu (fu (nb Y) 1 (nI (N + 1))) (54 + N) 1 j = fu (nb Y) 1 (nI (N + 1)) j := fun j hj => fu_ne _ _ hj
  refine h.put (by decide) (by decide) (by decide) ?_ ?_
  · refine hW.row0 (fun j _ hj => ro _ (by omega)) ?_ ?_ ?_ ?_ ?_ ?_
    · rw [yr, if_neg (by decide)]; exact hW.hN
    · rw [yr, if_neg (by decide)]; exact hW.hS
    · rw [yr, if_neg (by decide)]; exact hW.hY
    · rw [yr, if_neg (by decide)]; exact hW.hM
    · rw [yr, if_neg (by decide)]; exact hW.hL
    · intro r h1 h2
      rw [yr, if_pos rfl, bit_put hN h2, if_neg (by omega)]
      exact hW.mis r h1 h2
  · apply RT.intro
    · rw [fc _ (by omega), yr, if_neg (by decide)]; exact R.n0
    · rw [fc _ (by omega), yr, if_neg (by decide)]; exact R.n1
    · rw [fc _ (by omega), yr, if_neg (by decide)]; exact R.n2
    · rw [fc _ (by omega), yr, if_neg (by decide)]; exact R.n3
    · rw [fc _ (by omega), yr, if_neg (by decide)]; exact R.n4
    · rw [fc _ (by omega), ro _ (by decide)]; exact R.n5
    · intro s hs; rw [fc _ (by omega), ro _ (by decide)]; exact R.worth s hs
    · intro s hs; rw [fc _ (by omega), ro _ (by decide)]; exact R.sold s hs
    · intro r hr; rw [fc _ (by omega), ro _ (by decide)]; exact R.born r hr
    · intro r hr; rw [fc _ (by omega), ro _ (by decide)]; exact R.bears r hr
    · intro r hr; rw [fc _ (by omega), ro _ (by decide)]; exact R.coins r hr
    · intro r hr
      rw [yr, if_pos rfl, bit_put hN (by omega)]
      by_cases e : r = N
      · rw [if_pos e, e, fu_eq]
      · rw [if_neg e, fc _ (by omega)]; exact R.miser r hr
    · intro r hr; rw [fc _ (by omega), ro _ (by decide)]; exact R.died r hr
    · intro r hr; rw [fc _ (by omega), ro _ (by decide)]; exact R.wed r hr
    · intro r hr; rw [fc _ (by omega), ro _ (by decide)]; exact R.one r hr
    · intro r hr; rw [fc _ (by omega), ro _ (by decide)]; exact R.two r hr
    · intro r hr; rw [fc _ (by omega), ro _ (by decide)]; exact R.away r hr
    · intro r hr; rw [fc _ (by omega), ro _ (by decide)]; exact R.likes r hr
    · intro r j hr hj; rw [hK] at hj; have := hk6 r hr; rw [fc _ (by omega), ro _ (by decide)]; exact R.like r j hr hj
    · intro j hj; rw [hQ] at hj; rw [fc _ (by omega), ro _ (by decide)]; exact R.who j hj
    · intro j hj; rw [hQ] at hj; rw [fc _ (by omega), ro _ (by decide)]; exact R.want j hj
def PSeg (L p : Nat) (t : Int32) (N S yc a b : Nat) (X : Nat → Nat → Int32) (JX : Nat → Nat → Int64) (Y : Nat → Nat → Int32) (JY : Nat → Nat → Int64) : Prop := ∃ X' JX' Y' JY', ((Ct t 10 yc [.int (nI N)] X JX (some (.int 0)) X' JX' ∧ BAD X' Y') ∨ (Ct t 10 yc [.int (nI N)] X JX (some (.int 1)) X' JX' ∧ ∃ p', p ≤ p' ∧ PQ L p' t N S X' JX' Y' JY')) ∧ (∀ (n m : Nat) (g : Nat → zC) (d : Nat) (x : Option Value), ∃ x', zexec (d + 15) 299 a [some (.ref 143), some (.int (nI N)), x] [] (mk n m g Y JY) = zexec (d + 15) 299 b [some (.ref 143), some (.int (nI N)), x'] [] (mk n m g Y' JY')) ∧ GX X JX X' JX' ∧ GY Y JY Y' JY'
set_option maxHeartbeats 4000000 in
theorem r_of (h : PQ L p t N S X JX Y JY) (hb : X (33 + 7) N = -1) : PSeg L p t N S 127 37 107 X JX Y JY := by
  have hN := h.2.2
  by_cases cO : X 13 9 = 7
  rotate_left
  · refine ⟨X, JX, Y, JY, .inr ⟨fun n m g d a ha hg => ?_, p, Nat.le_refl p, h⟩, fun n m g d x => ⟨x, ?_⟩, GX.rfl', GY.rfl'⟩
    · rw [m_X8_ofHere]
      simp only [e_X8_ofHere_0, e_X8_ofHere_1, e_X8_ofHere_4, e_X8_ofHere_7, e_X8_ofHere_9, e_X8_ofHere_12, e_X8_ofHere_13, e_X8_ofHere_14, e_X8_ofHere_15, e_X8_ofHere_18, e_X8_ofHere_21, e_X8_ofHere_22, e_X8_ofHere_25, e_X8_ofHere_26, e_X8_ofHere_29, e_X8_ofHere_32, e_X8_ofHere_33, e_X8_ofHere_34, e_X8_ofHere_35, e_X8_ofHere_38, e_X8_ofHere_39, e_X8_ofHere_40, e_X8_ofHere_41, e_X8_ofHere_44, e_X8_ofHere_45, e_X8_ofHere_48, e_X8_ofHere_51, e_X8_ofHere_52, e_X8_ofHere_55, e_X8_ofHere_57, e_X8_ofHere_60, e_X8_ofHere_61, e_X8_ofHere_62, e_X8_ofHere_65, e_X8_ofHere_68, e_X8_ofHere_69, e_X8_ofHere_70, e_X8_ofHere_71, e_X8_ofHere_72, e_X8_ofHere_75, e_X8_ofHere_78, e_X8_ofHere_79, g_tt_0 ha hg, g_13_9, cO, zfit_b1, Option.bind_some, Option.isSome_some, Option.toList, List.cons_append, List.nil_append, zclr_i, zclr_r, zclr_n, zfit_i, zfit_l, and_self, if_true, if_false]
    · simp only [e_X12_readPerson_37, e_X12_readPerson_38, e_X12_readPerson_39, e_X12_readPerson_42, e_X12_readPerson_45, e_X12_readPerson_48, e_X12_readPerson_49, e_X12_readPerson_50, e_X12_readPerson_51, e_X12_readPerson_54, e_X12_readPerson_55, e_X12_readPerson_56, e_X12_readPerson_59, e_X12_readPerson_62, e_X12_readPerson_63, e_X12_readPerson_66, e_X12_readPerson_67, e_X12_readPerson_70, e_X12_readPerson_71, e_X12_readPerson_74, e_X12_readPerson_77, e_X12_readPerson_78, e_X12_readPerson_81, e_X12_readPerson_82, e_X12_readPerson_84, e_X12_readPerson_85, e_X12_readPerson_88, e_X12_readPerson_91, e_X12_readPerson_92, e_X12_readPerson_93, e_X12_readPerson_96, e_X12_readPerson_97, e_X12_readPerson_100, e_X12_readPerson_103, e_X12_readPerson_104, e_X12_readPerson_105, e_X12_readPerson_106, c_143, v_isOf, h.1.rs.k7, decide_eq_false cO, bI, Bool.false_eq_true, v_perhaps_f h.1.rs.bad, Option.bind_some, Option.isSome_some, Option.toList, List.cons_append, List.nil_append, zclr_i, zclr_r, zclr_n, zfit_i, zfit_l, and_self, if_true, if_false]
  obtain ⟨X1, JX1, Y1, JY1, p1, a1, a2, a3, a4, _, a5, a6⟩ := r_adv h.1.rs
  have h1 := h.move a3 a5 a6.yg
  have W1 := h1.1.W
  have h6 := W1.h6
  have sH := fun n m g d => d_surnameHere (n := n) (m := m) (g := g) (J := JX1) t33 W1.hS h6 d
  rcases h1.1.surn (by rw [fu_ne _ _ (by decide)]) with ⟨s, hs, _, hps, ts⟩ | ⟨X2, Y2, hp2, ts, hB, fx, yg⟩
  rotate_left
  · rw [hp2] at sH
    refine ⟨X2, JX1, zu Y2 148 (2024 + (30 + N)) 0, JY1, .inl ⟨fun n m g d a ha hg => ?_, hB.cc⟩, fun n m g d x => ⟨some (.int 0), ?_⟩, a5.gx.trans fx.gx, (a6.yg.gy.trans yg.gy).cc⟩
    · rw [m_X8_ofHere]
      simp only [e_X8_ofHere_0, e_X8_ofHere_1, e_X8_ofHere_4, e_X8_ofHere_7, e_X8_ofHere_9, e_X8_ofHere_12, e_X8_ofHere_13, e_X8_ofHere_14, e_X8_ofHere_15, e_X8_ofHere_18, e_X8_ofHere_21, e_X8_ofHere_22, e_X8_ofHere_25, e_X8_ofHere_26, e_X8_ofHere_29, e_X8_ofHere_32, e_X8_ofHere_33, e_X8_ofHere_34, e_X8_ofHere_35, e_X8_ofHere_38, e_X8_ofHere_39, e_X8_ofHere_40, e_X8_ofHere_41, e_X8_ofHere_44, e_X8_ofHere_45, e_X8_ofHere_48, e_X8_ofHere_51, e_X8_ofHere_52, e_X8_ofHere_55, e_X8_ofHere_57, e_X8_ofHere_60, e_X8_ofHere_61, e_X8_ofHere_62, e_X8_ofHere_65, e_X8_ofHere_68, e_X8_ofHere_69, e_X8_ofHere_70, e_X8_ofHere_71, e_X8_ofHere_72, e_X8_ofHere_75, e_X8_ofHere_78, e_X8_ofHere_79, c_13, g_tt_0 ha hg, g_tt_1 ha hg, g_13_9, cO, a1, sH, zfit_b0, Option.bind_some, Option.isSome_some, Option.toList, List.cons_append, List.nil_append, zclr_i, zclr_r, zclr_n, zfit_i, zfit_l, and_self, if_true, if_false]
    · simp only [e_X12_readPerson_37, e_X12_readPerson_38, e_X12_readPerson_39, e_X12_readPerson_42, e_X12_readPerson_45, e_X12_readPerson_48, e_X12_readPerson_49, e_X12_readPerson_50, e_X12_readPerson_51, e_X12_readPerson_54, e_X12_readPerson_55, e_X12_readPerson_56, e_X12_readPerson_59, e_X12_readPerson_62, e_X12_readPerson_63, e_X12_readPerson_66, e_X12_readPerson_67, e_X12_readPerson_70, e_X12_readPerson_71, e_X12_readPerson_74, e_X12_readPerson_77, e_X12_readPerson_78, e_X12_readPerson_81, e_X12_readPerson_82, e_X12_readPerson_84, e_X12_readPerson_85, e_X12_readPerson_88, e_X12_readPerson_91, e_X12_readPerson_92, e_X12_readPerson_93, e_X12_readPerson_96, e_X12_readPerson_97, e_X12_readPerson_100, e_X12_readPerson_103, e_X12_readPerson_104, e_X12_readPerson_105, e_X12_readPerson_106, c_143, v_isOf, h.1.rs.k7, decide_eq_true cO, bI, if_true, v_perhaps_t h.1.rs.bad a2, show ((1 : Int32) = 0) = False by decide, ts, g_143_12, hB.ne, v_must_b hB, g_143_20, cB_30, nI_neg (show 2024 + (30 + N) < 2 ^ 31 by omega), nI_clamp (show 2024 + (30 + N) < 2 ^ 31 by omega), k_148 (show 2024 + (30 + N) < 2530 by omega), l_148 (show 2024 + (30 + N) < 2530 by omega), q_148, Option.bind_some, Option.isSome_some, Option.toList, List.cons_append, List.nil_append, zclr_i, zclr_r, zclr_n, zfit_i, zfit_l, and_self, if_true, if_false]
  rw [hps] at sH
  have smf : (nI s = -1) = False := eq_false (nI_m1 (by omega))
  obtain ⟨M, m1, m9, eM⟩ := W1.hM
  have yM : Y1 148 (2024 + 3) = nI M := by
    have := h1.1.R.n3
    rw [fu_ne _ _ (by decide)] at this
    exact this.trans eM
  have y1 : Y1 148 (2024 + 1) = nI N := h1.2.1
  have hb1 : X1 (33 + 7) N = -1 := by rw [a5.1 _ (by decide)]; exact hb
  obtain ⟨C, eC⟩ : ∃ C, C = cnt (fun p => decide (Y1 148 (2024 + (66 + p)) = 0 ∧ Y1 148 (2024 + (30 + p)) = nI s)) N := ⟨_, rfl⟩
  have hC : C ≤ 12 := by
    have := cnt_le (fun p => decide (Y1 148 (2024 + (66 + p)) = 0 ∧ Y1 148 (2024 + (30 + p)) = nI s)) N 0 0
    rw [eC]
    exact Nat.le_trans this (by omega)
  have bB := fun n m g d => v_bornBy (n := n) (m := m) (g := g) (Y := Y1) (JY := JY1) (s := nI s) (show N ≤ 12 by omega) y1 d
  rw [← eC] at bB
  have eF : tFree X1 33 (nI s) (N + 1) = nI M - nI C := by
    rw [tFree_cnt, eM, eC]
    congr 2
    unfold cnt
    rw [zfor_succ, if_neg (by rw [decide_eq_true_eq, Nat.zero_add, hb1]; exact fun q => absurd q.1.symm (nI_m1 (by omega)))]
    refine zfor_congr N 0 0 (fun q a _ hq => ?_)
    have e1 : Y1 148 (2024 + (66 + q)) = 0 := by
      have := h1.1.R.died q (by omega)
      rw [fu_ne _ _ (by omega), h1.1.alive q (by omega)] at this
      exact this
    have e2 : Y1 148 (2024 + (30 + q)) = X1 (33 + 7) q := by
      have := h1.1.R.bears q (by omega)
      rw [fu_ne _ _ (by omega)] at this
      exact this
    simp only [e1, e2, h1.1.alive q (show q < N + 1 by omega)]
    by_cases c : X1 (33 + 7) q = nI s <;> simp [c]
  have hsg := free_sign M (by omega) C (by omega)
  have tF := fun n m g d => t_free (n := n) (m := m) (g := g) (J := JX1) (s := nI s) t33 W1.hN W1.h12 d
  rw [eF] at tF
  by_cases cf : C < M
  rotate_left
  · rw [decide_eq_false cf, decide_eq_false_iff_not] at hsg
    rw [if_neg hsg] at tF
    have hB := h1.1.rs.fails 6 (by decide) (by decide)
    rw [show nI 6 = 6 from rfl] at hB
    refine ⟨dFail 6 X1, JX1, zu (vFail 6 (X1 13 4) Y1) 148 (2024 + (30 + N)) (nI s), JY1, .inl ⟨fun n m g d a ha hg => ?_, hB.cc⟩, fun n m g d x => ⟨some (.int (nI s)), ?_⟩, a5.gx.trans (FX.fail _).gx, (a6.yg.gy.trans (YG.fail _ _).gy).cc⟩
    · rw [m_X8_ofHere]
      simp only [e_X8_ofHere_0, e_X8_ofHere_1, e_X8_ofHere_4, e_X8_ofHere_7, e_X8_ofHere_9, e_X8_ofHere_12, e_X8_ofHere_13, e_X8_ofHere_14, e_X8_ofHere_15, e_X8_ofHere_18, e_X8_ofHere_21, e_X8_ofHere_22, e_X8_ofHere_25, e_X8_ofHere_26, e_X8_ofHere_29, e_X8_ofHere_32, e_X8_ofHere_33, e_X8_ofHere_34, e_X8_ofHere_35, e_X8_ofHere_38, e_X8_ofHere_39, e_X8_ofHere_40, e_X8_ofHere_41, e_X8_ofHere_44, e_X8_ofHere_45, e_X8_ofHere_48, e_X8_ofHere_51, e_X8_ofHere_52, e_X8_ofHere_55, e_X8_ofHere_57, e_X8_ofHere_60, e_X8_ofHere_61, e_X8_ofHere_62, e_X8_ofHere_65, e_X8_ofHere_68, e_X8_ofHere_69, e_X8_ofHere_70, e_X8_ofHere_71, e_X8_ofHere_72, e_X8_ofHere_75, e_X8_ofHere_78, e_X8_ofHere_79, c_13, c_T0 t33, g_tt_0 ha hg, g_tt_1 ha hg, g_13_9, cO, a1, sH, smf, tF, z01, d_fail, zfit_b0, Option.bind_some, Option.isSome_some, Option.toList, List.cons_append, List.nil_append, zclr_i, zclr_r, zclr_n, zfit_i, zfit_l, and_self, if_true, if_false]
    · simp only [e_X12_readPerson_37, e_X12_readPerson_38, e_X12_readPerson_39, e_X12_readPerson_42, e_X12_readPerson_45, e_X12_readPerson_48, e_X12_readPerson_49, e_X12_readPerson_50, e_X12_readPerson_51, e_X12_readPerson_54, e_X12_readPerson_55, e_X12_readPerson_56, e_X12_readPerson_59, e_X12_readPerson_62, e_X12_readPerson_63, e_X12_readPerson_66, e_X12_readPerson_67, e_X12_readPerson_70, e_X12_readPerson_71, e_X12_readPerson_74, e_X12_readPerson_77, e_X12_readPerson_78, e_X12_readPerson_81, e_X12_readPerson_82, e_X12_readPerson_84, e_X12_readPerson_85, e_X12_readPerson_88, e_X12_readPerson_91, e_X12_readPerson_92, e_X12_readPerson_93, e_X12_readPerson_96, e_X12_readPerson_97, e_X12_readPerson_100, e_X12_readPerson_103, e_X12_readPerson_104, e_X12_readPerson_105, e_X12_readPerson_106, c_143, v_isOf, h.1.rs.k7, decide_eq_true cO, bI, if_true, v_perhaps_t h.1.rs.bad a2, show ((1 : Int32) = 0) = False by decide, ts, g_143_12, g_143_15, h1.1.rs.bad, h1.1.rs.at, bB, g_143_20, lW_3, yM, eq_false (show ¬ nI C < nI M from Int32.not_lt.mpr (nI_le (by omega) (by omega))), v_fail h1.1.rs.bad, v_must_b hB, cB_30, nI_neg (show 2024 + (30 + N) < 2 ^ 31 by omega), nI_clamp (show 2024 + (30 + N) < 2 ^ 31 by omega), k_148 (show 2024 + (30 + N) < 2530 by omega), l_148 (show 2024 + (30 + N) < 2530 by omega), q_148, Option.bind_some, Option.isSome_some, Option.toList, List.cons_append, List.nil_append, zclr_i, zclr_r, zclr_n, zfit_i, zfit_l, and_self, if_true, if_false]
  rw [decide_eq_true cf, decide_eq_true_eq] at hsg
  rw [if_pos hsg] at tF
  obtain ⟨X3, JX3, Y3, JY3, p3, b1, b2, b3, b4, _, b5, b6⟩ := r_adv (h1.1.rs.x (a := 33 + 7) (k := N) (v := nI s) (by decide))
  have h3 := (h1.bears hs).move (b3.cc (j := 2024 + (30 + N)) (v := nI s)) b5 b6.yg.put
  refine ⟨X3, JX3, zu Y3 148 (2024 + (30 + N)) (nI s), JY3, .inr ⟨fun n m g d a ha hg => ?_, p3, by omega, h3⟩, fun n m g d x => ⟨some (.int (nI s)), ?_⟩, (a5.gx.wr (by decide) (by decide)).trans b5.gx, (a6.yg.gy.trans b6.yg.gy).cc⟩
  · rw [m_X8_ofHere]
    simp only [e_X8_ofHere_0, e_X8_ofHere_1, e_X8_ofHere_4, e_X8_ofHere_7, e_X8_ofHere_9, e_X8_ofHere_12, e_X8_ofHere_13, e_X8_ofHere_14, e_X8_ofHere_15, e_X8_ofHere_18, e_X8_ofHere_21, e_X8_ofHere_22, e_X8_ofHere_25, e_X8_ofHere_26, e_X8_ofHere_29, e_X8_ofHere_32, e_X8_ofHere_33, e_X8_ofHere_34, e_X8_ofHere_35, e_X8_ofHere_38, e_X8_ofHere_39, e_X8_ofHere_40, e_X8_ofHere_41, e_X8_ofHere_44, e_X8_ofHere_45, e_X8_ofHere_48, e_X8_ofHere_51, e_X8_ofHere_52, e_X8_ofHere_55, e_X8_ofHere_57, e_X8_ofHere_60, e_X8_ofHere_61, e_X8_ofHere_62, e_X8_ofHere_65, e_X8_ofHere_68, e_X8_ofHere_69, e_X8_ofHere_70, e_X8_ofHere_71, e_X8_ofHere_72, e_X8_ofHere_75, e_X8_ofHere_78, e_X8_ofHere_79, c_13, c_T0 t33, g_T0_12 t33, g_tt_0 ha hg, g_tt_1 ha hg, g_13_9, cO, a1, sH, smf, tF, hsg, nI_neg (show N < 2 ^ 31 by omega), nI_clamp (show N < 2 ^ 31 by omega), k_T7 t33 hN, q_T7 t33, b1, zfit_b1, Option.bind_some, Option.isSome_some, Option.toList, List.cons_append, List.nil_append, zclr_i, zclr_r, zclr_n, zfit_i, zfit_l, and_self, if_true, if_false]
  · simp only [e_X12_readPerson_37, e_X12_readPerson_38, e_X12_readPerson_39, e_X12_readPerson_42, e_X12_readPerson_45, e_X12_readPerson_48, e_X12_readPerson_49, e_X12_readPerson_50, e_X12_readPerson_51, e_X12_readPerson_54, e_X12_readPerson_55, e_X12_readPerson_56, e_X12_readPerson_59, e_X12_readPerson_62, e_X12_readPerson_63, e_X12_readPerson_66, e_X12_readPerson_67, e_X12_readPerson_70, e_X12_readPerson_71, e_X12_readPerson_74, e_X12_readPerson_77, e_X12_readPerson_78, e_X12_readPerson_81, e_X12_readPerson_82, e_X12_readPerson_84, e_X12_readPerson_85, e_X12_readPerson_88, e_X12_readPerson_91, e_X12_readPerson_92, e_X12_readPerson_93, e_X12_readPerson_96, e_X12_readPerson_97, e_X12_readPerson_100, e_X12_readPerson_103, e_X12_readPerson_104, e_X12_readPerson_105, e_X12_readPerson_106, c_143, v_isOf, h.1.rs.k7, decide_eq_true cO, bI, if_true, v_perhaps_t h.1.rs.bad a2, show ((1 : Int32) = 0) = False by decide, ts, g_143_12, g_143_15, h1.1.rs.bad, bB, g_143_20, lW_3, yM, eq_true (show nI C < nI M from Int32.not_le.mp (nI_ge cf (by omega))), v_must_t h1.1.rs.bad b2, cB_30, nI_neg (show 2024 + (30 + N) < 2 ^ 31 by omega), nI_clamp (show 2024 + (30 + N) < 2 ^ 31 by omega), k_148 (show 2024 + (30 + N) < 2530 by omega), l_148 (show 2024 + (30 + N) < 2530 by omega), q_148, Option.bind_some, Option.isSome_some, Option.toList, List.cons_append, List.nil_append, zclr_i, zclr_r, zclr_n, zfit_i, zfit_l, and_self, if_true, if_false]
set_option maxHeartbeats 4000000 in
theorem r_coins (h : PQ L p t N S X JX Y JY) : PSeg L p t N S 128 107 136 X JX Y JY := by
  have hN := h.2.2
  by_cases cO : X 13 9 = 8
  rotate_left
  · refine ⟨X, JX, Y, JY, .inr ⟨fun n m g d a ha hg => ?_, p, Nat.le_refl p, h⟩, fun n m g d x => ⟨x, ?_⟩, GX.rfl', GY.rfl'⟩
    · rw [m_X8_coinsHere]
      simp only [e_X8_coinsHere_0, e_X8_coinsHere_1, e_X8_coinsHere_4, e_X8_coinsHere_7, e_X8_coinsHere_9, e_X8_coinsHere_12, e_X8_coinsHere_13, e_X8_coinsHere_14, e_X8_coinsHere_15, e_X8_coinsHere_18, e_X8_coinsHere_21, e_X8_coinsHere_22, e_X8_coinsHere_25, e_X8_coinsHere_28, e_X8_coinsHere_29, e_X8_coinsHere_30, e_X8_coinsHere_33, e_X8_coinsHere_34, e_X8_coinsHere_37, e_X8_coinsHere_40, e_X8_coinsHere_41, e_X8_coinsHere_42, e_X8_coinsHere_45, e_X8_coinsHere_48, e_X8_coinsHere_49, e_X8_coinsHere_50, e_X8_coinsHere_51, e_X8_coinsHere_54, e_X8_coinsHere_55, e_X8_coinsHere_58, e_X8_coinsHere_59, g_tt_0 ha hg, g_13_9, cO, zfit_b1, Option.bind_some, Option.isSome_some, Option.toList, List.cons_append, List.nil_append, zclr_i, zclr_r, zclr_n, zfit_i, zfit_l, and_self, if_true, if_false]
    · simp only [e_X12_readPerson_107, e_X12_readPerson_108, e_X12_readPerson_109, e_X12_readPerson_112, e_X12_readPerson_115, e_X12_readPerson_118, e_X12_readPerson_119, e_X12_readPerson_122, e_X12_readPerson_125, e_X12_readPerson_126, e_X12_readPerson_127, e_X12_readPerson_128, e_X12_readPerson_129, e_X12_readPerson_132, e_X12_readPerson_135, c_143, v_isCoins, h.1.rs.k8, decide_eq_false cO, bI, Bool.false_eq_true, v_perhaps_f h.1.rs.bad, Option.bind_some, Option.isSome_some, Option.toList, List.cons_append, List.nil_append, zclr_i, zclr_r, zclr_n, zfit_i, zfit_l, and_self, if_true, if_false]
  obtain ⟨X1, JX1, Y1, JY1, p1, a1, a2, a3, a4, _, a5, a6⟩ := r_adv h.1.rs
  have h1 := h.move a3 a5 a6.yg
  rcases r_number h1.1.rs 0 999 (by decide) (by decide) with ⟨v, X2, JX2, Y2, JY2, p2, v1, v2, d1, d2, d3, d4, d5, d6⟩ | ⟨X2, Y2, d1, d2, hB, d5, d6⟩
  · have d1' : Ca 2 57 [.ref 13, .int 0, .int 999] X1 JX1 (some (.int (nI v))) X2 JX2 := d1
    have d2' : Ca 2 282 [.ref 143, .int 0, .int 999] Y1 JY1 (some (.int (nI v))) Y2 JY2 := d2
    have h2 := h1.move d3 d5 d6
    have x33 : zu X2 (33 + 8) N (nI v) (33 + 8) N = nI v := by rw [zu_row, if_pos rfl]
    refine ⟨zu X2 (33 + 8) N (nI v), JX2, zu Y2 148 (2024 + (42 + N)) (nI v), JY2, .inr ⟨fun n m g d a ha hg => ?_, p2, by omega, h2.coins v2⟩, fun n m g d x => ⟨x, ?_⟩, (a5.gx.trans d5.gx).wr (by decide) (by decide), (a6.yg.gy.trans d6.gy).cc⟩
    · rw [m_X8_coinsHere]
      simp only [e_X8_coinsHere_0, e_X8_coinsHere_1, e_X8_coinsHere_4, e_X8_coinsHere_7, e_X8_coinsHere_9, e_X8_coinsHere_12, e_X8_coinsHere_13, e_X8_coinsHere_14, e_X8_coinsHere_15, e_X8_coinsHere_18, e_X8_coinsHere_21, e_X8_coinsHere_22, e_X8_coinsHere_25, e_X8_coinsHere_28, e_X8_coinsHere_29, e_X8_coinsHere_30, e_X8_coinsHere_33, e_X8_coinsHere_34, e_X8_coinsHere_37, e_X8_coinsHere_40, e_X8_coinsHere_41, e_X8_coinsHere_42, e_X8_coinsHere_45, e_X8_coinsHere_48, e_X8_coinsHere_49, e_X8_coinsHere_50, e_X8_coinsHere_51, e_X8_coinsHere_54, e_X8_coinsHere_55, e_X8_coinsHere_58, e_X8_coinsHere_59, c_13, g_tt_0 ha hg, g_tt_1 ha hg, g_T0_13 t33, g_13_9, cO, a1, d1', nI_neg (show N < 2 ^ 31 by omega), nI_clamp (show N < 2 ^ 31 by omega), k_T8 t33 hN, l_T8 t33 hN, q_T8 t33, x33, eq_false (nI_m1 (show v < 2 ^ 31 by omega)), zfit_b1, Option.bind_some, Option.isSome_some, Option.toList, List.cons_append, List.nil_append, zclr_i, zclr_r, zclr_n, zfit_i, zfit_l, and_self, if_true, if_false]
    · simp only [e_X12_readPerson_107, e_X12_readPerson_108, e_X12_readPerson_109, e_X12_readPerson_112, e_X12_readPerson_115, e_X12_readPerson_118, e_X12_readPerson_119, e_X12_readPerson_122, e_X12_readPerson_125, e_X12_readPerson_126, e_X12_readPerson_127, e_X12_readPerson_128, e_X12_readPerson_129, e_X12_readPerson_132, e_X12_readPerson_135, c_143, v_isCoins, h.1.rs.k8, decide_eq_true cO, bI, if_true, v_perhaps_t h.1.rs.bad a2, show ((1 : Int32) = 0) = False by decide, d2', g_143_20, cB_42, nI_neg (show 2024 + (42 + N) < 2 ^ 31 by omega), nI_clamp (show 2024 + (42 + N) < 2 ^ 31 by omega), k_148 (show 2024 + (42 + N) < 2530 by omega), l_148 (show 2024 + (42 + N) < 2530 by omega), q_148, Option.bind_some, Option.isSome_some, Option.toList, List.cons_append, List.nil_append, zclr_i, zclr_r, zclr_n, zfit_i, zfit_l, and_self, if_true, if_false]
  · have d1' : Ca 2 57 [.ref 13, .int 0, .int 999] X1 JX1 (some (.int (-1))) X2 JX1 := d1
    have d2' : Ca 2 282 [.ref 143, .int 0, .int 999] Y1 JY1 (some (.int 0)) Y2 JY1 := d2
    have x33 : zu X2 (33 + 8) N (-1) (33 + 8) N = -1 := by rw [zu_row, if_pos rfl]
    refine ⟨zu X2 (33 + 8) N (-1), JX1, zu Y2 148 (2024 + (42 + N)) 0, JY1, .inl ⟨fun n m g d a ha hg => ?_, (hB.x (by decide)).cc⟩, fun n m g d x => ⟨x, ?_⟩, (a5.gx.trans d5.gx).wr (by decide) (by decide), (a6.yg.gy.trans d6.gy).cc⟩
    · rw [m_X8_coinsHere]
      simp only [e_X8_coinsHere_0, e_X8_coinsHere_1, e_X8_coinsHere_4, e_X8_coinsHere_7, e_X8_coinsHere_9, e_X8_coinsHere_12, e_X8_coinsHere_13, e_X8_coinsHere_14, e_X8_coinsHere_15, e_X8_coinsHere_18, e_X8_coinsHere_21, e_X8_coinsHere_22, e_X8_coinsHere_25, e_X8_coinsHere_28, e_X8_coinsHere_29, e_X8_coinsHere_30, e_X8_coinsHere_33, e_X8_coinsHere_34, e_X8_coinsHere_37, e_X8_coinsHere_40, e_X8_coinsHere_41, e_X8_coinsHere_42, e_X8_coinsHere_45, e_X8_coinsHere_48, e_X8_coinsHere_49, e_X8_coinsHere_50, e_X8_coinsHere_51, e_X8_coinsHere_54, e_X8_coinsHere_55, e_X8_coinsHere_58, e_X8_coinsHere_59, c_13, g_tt_0 ha hg, g_tt_1 ha hg, g_T0_13 t33, g_13_9, cO, a1, d1', nI_neg (show N < 2 ^ 31 by omega), nI_clamp (show N < 2 ^ 31 by omega), k_T8 t33 hN, l_T8 t33 hN, q_T8 t33, x33, zfit_b0, Option.bind_some, Option.isSome_some, Option.toList, List.cons_append, List.nil_append, zclr_i, zclr_r, zclr_n, zfit_i, zfit_l, and_self, if_true, if_false]
    · simp only [e_X12_readPerson_107, e_X12_readPerson_108, e_X12_readPerson_109, e_X12_readPerson_112, e_X12_readPerson_115, e_X12_readPerson_118, e_X12_readPerson_119, e_X12_readPerson_122, e_X12_readPerson_125, e_X12_readPerson_126, e_X12_readPerson_127, e_X12_readPerson_128, e_X12_readPerson_129, e_X12_readPerson_132, e_X12_readPerson_135, c_143, v_isCoins, h.1.rs.k8, decide_eq_true cO, bI, if_true, v_perhaps_t h.1.rs.bad a2, show ((1 : Int32) = 0) = False by decide, d2', g_143_20, cB_42, nI_neg (show 2024 + (42 + N) < 2 ^ 31 by omega), nI_clamp (show 2024 + (42 + N) < 2 ^ 31 by omega), k_148 (show 2024 + (42 + N) < 2530 by omega), l_148 (show 2024 + (42 + N) < 2530 by omega), q_148, Option.bind_some, Option.isSome_some, Option.toList, List.cons_append, List.nil_append, zclr_i, zclr_r, zclr_n, zfit_i, zfit_l, and_self, if_true, if_false]
set_option maxHeartbeats 4000000 in
theorem r_miser (h : PQ L p t N S X JX Y JY) : PSeg L p t N S 129 136 158 X JX Y JY := by
  have hN := h.2.2
  by_cases cO : X 13 9 = 9
  rotate_left
  · refine ⟨X, JX, Y, JY, .inr ⟨fun n m g d a ha hg => ?_, p, Nat.le_refl p, h⟩, fun n m g d x => ⟨x, ?_⟩, GX.rfl', GY.rfl'⟩
    · rw [m_X8_miserHere]
      simp only [e_X8_miserHere_0, e_X8_miserHere_1, e_X8_miserHere_4, e_X8_miserHere_7, e_X8_miserHere_9, e_X8_miserHere_12, e_X8_miserHere_13, e_X8_miserHere_16, e_X8_miserHere_17, e_X8_miserHere_20, e_X8_miserHere_21, e_X8_miserHere_22, e_X8_miserHere_23, e_X8_miserHere_24, e_X8_miserHere_27, e_X8_miserHere_28, e_X8_miserHere_31, e_X8_miserHere_34, e_X8_miserHere_35, g_tt_0 ha hg, g_13_9, cO, zfit_b1, Option.bind_some, Option.isSome_some, Option.toList, List.cons_append, List.nil_append, zclr_i, zclr_r, zclr_n, zfit_i, zfit_l, and_self, if_true, if_false]
    · simp only [e_X12_readPerson_136, e_X12_readPerson_137, e_X12_readPerson_138, e_X12_readPerson_141, e_X12_readPerson_144, e_X12_readPerson_147, e_X12_readPerson_148, e_X12_readPerson_151, e_X12_readPerson_154, e_X12_readPerson_155, e_X12_readPerson_156, e_X12_readPerson_157, c_143, v_isMiser, h.1.rs.k9, decide_eq_false cO, bI, Bool.false_eq_true, v_perhaps_f h.1.rs.bad, Option.bind_some, Option.isSome_some, Option.toList, List.cons_append, List.nil_append, zclr_i, zclr_r, zclr_n, zfit_i, zfit_l, and_self, if_true, if_false]
  obtain ⟨X1, JX1, Y1, JY1, p1, a1, a2, a3, a4, _, a5, a6⟩ := r_adv (h.1.rs.x (a := 33 + 0) (k := 5) (v := X 33 5 ||| 1 <<< (nI N &&& 31)) (by decide))
  have h1 := h.miser.move (a3.cc (j := 2024 + (54 + N)) (v := 1)) a5 a6.yg.put
  have a1' : Ca 1 45 [.ref 13] (zu X 33 5 (X 33 5 ||| 1 <<< (nI N &&& 31))) JX none X1 JX1 := a1
  refine ⟨X1, JX1, zu Y1 148 (2024 + (54 + N)) 1, JY1, .inr ⟨fun n m g d a ha hg => ?_, p1, a4, h1⟩, fun n m g d x => ⟨x, ?_⟩, (GX.rfl'.wr (by decide) (by decide)).trans a5.gx, a6.yg.gy.cc⟩
  · have e16 := zx_dup_r 129 16 17 (by decide +kernel)
    rw [m_X8_miserHere]
    simp only [e_X8_miserHere_0, e_X8_miserHere_1, e_X8_miserHere_4, e_X8_miserHere_7, e_X8_miserHere_9, e_X8_miserHere_12, e_X8_miserHere_13, e_X8_miserHere_16, e_X8_miserHere_17, e_X8_miserHere_20, e_X8_miserHere_21, e_X8_miserHere_22, e_X8_miserHere_23, e_X8_miserHere_24, e_X8_miserHere_27, e_X8_miserHere_28, e_X8_miserHere_31, e_X8_miserHere_34, e_X8_miserHere_35, e16, c_13, g_tt_0 ha hg, g_tt_1 ha hg, g_T0_5 t33, p_T0_5 t33, g_13_9, cO, a1', zfit_b1, Option.bind_some, Option.isSome_some, Option.toList, List.cons_append, List.nil_append, zclr_i, zclr_r, zclr_n, zfit_i, zfit_l, and_self, if_true, if_false]
  · simp only [e_X12_readPerson_136, e_X12_readPerson_137, e_X12_readPerson_138, e_X12_readPerson_141, e_X12_readPerson_144, e_X12_readPerson_147, e_X12_readPerson_148, e_X12_readPerson_151, e_X12_readPerson_154, e_X12_readPerson_155, e_X12_readPerson_156, e_X12_readPerson_157, c_143, v_isMiser, h.1.rs.k9, decide_eq_true cO, bI, if_true, v_perhaps_t h.1.rs.bad a2, show ((1 : Int32) = 0) = False by decide, g_143_20, cB_54, nI_neg (show 2024 + (54 + N) < 2 ^ 31 by omega), nI_clamp (show 2024 + (54 + N) < 2 ^ 31 by omega), k_148 (show 2024 + (54 + N) < 2530 by omega), l_148 (show 2024 + (54 + N) < 2530 by omega), q_148, Option.bind_some, Option.isSome_some, Option.toList, List.cons_append, List.nil_append, zclr_i, zclr_r, zclr_n, zfit_i, zfit_l, and_self, if_true, if_false]
theorem per_bad {v : Int32} {x : Option Value} (hB : BAD X Y) (d : Nat) : zexec (d + 15) 299 37 [some (.ref 143), some (.int v), x] [] (mk n m g Y JY) = some (none, mk n m g Y JY) := by
  simp only [e_X12_readPerson_37, e_X12_readPerson_38, e_X12_readPerson_39, e_X12_readPerson_42, e_X12_readPerson_45, e_X12_readPerson_48, e_X12_readPerson_49, e_X12_readPerson_50, e_X12_readPerson_51, e_X12_readPerson_54, e_X12_readPerson_55, e_X12_readPerson_56, e_X12_readPerson_59, e_X12_readPerson_62, e_X12_readPerson_63, e_X12_readPerson_66, e_X12_readPerson_67, e_X12_readPerson_70, e_X12_readPerson_71, e_X12_readPerson_74, e_X12_readPerson_77, e_X12_readPerson_78, e_X12_readPerson_81, e_X12_readPerson_82, e_X12_readPerson_84, e_X12_readPerson_85, e_X12_readPerson_88, e_X12_readPerson_91, e_X12_readPerson_92, e_X12_readPerson_93, e_X12_readPerson_96, e_X12_readPerson_97, e_X12_readPerson_100, e_X12_readPerson_103, e_X12_readPerson_104, e_X12_readPerson_105, e_X12_readPerson_106, e_X12_readPerson_107, e_X12_readPerson_108, e_X12_readPerson_109, e_X12_readPerson_112, e_X12_readPerson_115, e_X12_readPerson_118, e_X12_readPerson_119, e_X12_readPerson_122, e_X12_readPerson_125, e_X12_readPerson_126, e_X12_readPerson_127, e_X12_readPerson_128, e_X12_readPerson_129, e_X12_readPerson_132, e_X12_readPerson_135, e_X12_readPerson_136, e_X12_readPerson_137, e_X12_readPerson_138, e_X12_readPerson_141, e_X12_readPerson_144, e_X12_readPerson_147, e_X12_readPerson_148, e_X12_readPerson_151, e_X12_readPerson_154, e_X12_readPerson_155, e_X12_readPerson_156, e_X12_readPerson_157, e_X12_readPerson_158, e_X12_readPerson_159, e_X12_readPerson_162, e_X12_readPerson_165, e_X12_readPerson_166, e_X12_readPerson_169, e_X12_readPerson_172, e_X12_readPerson_173, e_X12_readPerson_174, e_X12_readPerson_175, e_X12_readPerson_176, e_X12_readPerson_177, c_143, v_isOf, v_isCoins, v_isMiser, v_perhaps_b hB, g_143_12, hB.ne, Option.bind_some, Option.isSome_some, Option.toList, List.cons_append, List.nil_append, zclr_i, zclr_r, zclr_n, zfit_i, zfit_l, and_self, if_true, if_false]
theorem per_bad2 {v : Int32} {x : Option Value} (hB : BAD X Y) (d : Nat) : zexec (d + 15) 299 107 [some (.ref 143), some (.int v), x] [] (mk n m g Y JY) = some (none, mk n m g Y JY) := by
  simp only [e_X12_readPerson_107, e_X12_readPerson_108, e_X12_readPerson_109, e_X12_readPerson_112, e_X12_readPerson_115, e_X12_readPerson_118, e_X12_readPerson_119, e_X12_readPerson_122, e_X12_readPerson_125, e_X12_readPerson_126, e_X12_readPerson_127, e_X12_readPerson_128, e_X12_readPerson_129, e_X12_readPerson_132, e_X12_readPerson_135, e_X12_readPerson_136, e_X12_readPerson_137, e_X12_readPerson_138, e_X12_readPerson_141, e_X12_readPerson_144, e_X12_readPerson_147, e_X12_readPerson_148, e_X12_readPerson_151, e_X12_readPerson_154, e_X12_readPerson_155, e_X12_readPerson_156, e_X12_readPerson_157, e_X12_readPerson_158, e_X12_readPerson_159, e_X12_readPerson_162, e_X12_readPerson_165, e_X12_readPerson_166, e_X12_readPerson_169, e_X12_readPerson_172, e_X12_readPerson_173, e_X12_readPerson_174, e_X12_readPerson_175, e_X12_readPerson_176, e_X12_readPerson_177, c_143, v_isCoins, v_isMiser, v_perhaps_b hB, g_143_12, hB.ne, Option.bind_some, Option.isSome_some, Option.toList, List.cons_append, List.nil_append, zclr_i, zclr_r, zclr_n, zfit_i, zfit_l, and_self, if_true, if_false]
theorem per_bad3 {v : Int32} {x : Option Value} (hB : BAD X Y) (d : Nat) : zexec (d + 15) 299 136 [some (.ref 143), some (.int v), x] [] (mk n m g Y JY) = some (none, mk n m g Y JY) := by
  simp only [e_X12_readPerson_136, e_X12_readPerson_137, e_X12_readPerson_138, e_X12_readPerson_141, e_X12_readPerson_144, e_X12_readPerson_147, e_X12_readPerson_148, e_X12_readPerson_151, e_X12_readPerson_154, e_X12_readPerson_155, e_X12_readPerson_156, e_X12_readPerson_157, e_X12_readPerson_158, e_X12_readPerson_159, e_X12_readPerson_162, e_X12_readPerson_165, e_X12_readPerson_166, e_X12_readPerson_169, e_X12_readPerson_172, e_X12_readPerson_173, e_X12_readPerson_174, e_X12_readPerson_175, e_X12_readPerson_176, e_X12_readPerson_177, c_143, v_isMiser, v_perhaps_b hB, g_143_12, hB.ne, Option.bind_some, Option.isSome_some, Option.toList, List.cons_append, List.nil_append, zclr_i, zclr_r, zclr_n, zfit_i, zfit_l, and_self, if_true, if_false]
end TH
