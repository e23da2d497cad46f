/-! MEAN -/
section LW
variable {n m : Nat} {g : Nat → zC} {I I2 X X' Y Y' : Nat → Nat → Int32} {J J2 JX JY : Nat → Nat → Int64} {N N' S l t s L K M sd : Nat} {c0 : Nat → Int32}
theorem li64' : isLife 64 := .inr rfl
theorem mn_copy {x1 x2 : Int32} (d : Nat) : zexec d 406 63 [some (.ref 143), some (.int x1), some (.int x2), some (.int (nI 0)), none, none, none] [] (mk n m g Y JY) = zexec d 406 88 [some (.ref 143), some (.int x1), some (.int x2), some (.int (nI 234)), none, none, none] [] (mk n m g (zr Y 150 (fun j => if j < 234 then Y 148 j else Y 150 j)) JY) := by
  have h : zexec d 406 63 [some (.ref 143), some (.int x1), some (.int x2), some (.int (nI 0)), none, none, none] [] (mk n m g (zr Y 150 (Y 150)) JY) = zexec d 406 63 [some (.ref 143), some (.int x1), some (.int x2), some (.int (nI 234)), none, none, none] [] (mk n m g (zr Y 150 (zfor (fun j x => fu x j (Y 148 j)) 0 234 (Y 150))) JY) := zloop (fun k (x : Nat → Int32) => zexec d 406 63 [some (.ref 143), some (.int x1), some (.int x2), some (.int (nI k)), none, none, none] [] (mk n m g (zr Y 150 x) JY)) (fun j x => fu x j (Y 148 j)) 234 (fun k x hk => by
    rw [e_X12_mean_63]
    have hr : zr Y 150 x 148 = Y 148 := zr_far _ _ (by decide)
    simp only [e_X12_mean_64, e_X12_mean_67, e_X12_mean_70, e_X12_mean_71, e_X12_mean_74, e_X12_mean_75, e_X12_mean_76, e_X12_mean_79, e_X12_mean_80, e_X12_mean_81, e_X12_mean_82, e_X12_mean_85, g_143_20, g_143_22, l_148 (show k < 2530 by omega), nI_neg (show k < 2 ^ 31 by omega), nI_clamp (show k < 2 ^ 31 by omega), k_150 hk, q_150, if_neg (show ¬ (234 : Int32) ≤ nI k from nI_ge (b := 234) hk (by decide)), nI_1, hr, zu_zr, Option.bind_some, Option.isSome_some, Option.toList, List.cons_append, List.nil_append, zclr_i, zclr_r, zclr_n, zfit_i, zfit_l, and_self, if_true, if_false]) 234 0 (Y 150) (by omega)
  rw [zr_id] at h
  refine h.trans ?_
  rw [e_X12_mean_63]
  simp only [e_X12_mean_64, e_X12_mean_67, if_pos (show (234 : Int32) ≤ nI 234 by decide), Option.bind_some, Option.isSome_some, Option.toList, List.cons_append, List.nil_append, zclr_i, zclr_r, zclr_n, zfit_i, zfit_l, and_self, if_true, if_false]
  rw [zfor_copy]
  simp
theorem mn_back {x1 x2 x5 : Int32} {v : Int64} (d : Nat) : zexec d 406 121 [some (.ref 143), some (.int x1), some (.int x2), some (.long v), none, some (.int x5), some (.int (nI 0))] [] (mk n m g Y JY) = zexec d 406 149 [some (.ref 143), some (.int x1), some (.int x2), some (.long v), none, some (.int x5), some (.int (nI 234))] [] (mk n m g (zr Y 148 (fun j => if j < 234 then Y 150 j else Y 148 j)) JY) := by
  have h : zexec d 406 121 [some (.ref 143), some (.int x1), some (.int x2), some (.long v), none, some (.int x5), some (.int (nI 0))] [] (mk n m g (zr Y 148 (Y 148)) JY) = zexec d 406 121 [some (.ref 143), some (.int x1), some (.int x2), some (.long v), none, some (.int x5), some (.int (nI 234))] [] (mk n m g (zr Y 148 (zfor (fun j x => fu x j (Y 150 j)) 0 234 (Y 148))) JY) := zloop (fun k (x : Nat → Int32) => zexec d 406 121 [some (.ref 143), some (.int x1), some (.int x2), some (.long v), none, some (.int x5), some (.int (nI k))] [] (mk n m g (zr Y 148 x) JY)) (fun j x => fu x j (Y 150 j)) 234 (fun k x hk => by
    rw [e_X12_mean_121]
    have hr : zr Y 148 x 150 = Y 150 := zr_far _ _ (by decide)
    simp only [e_X12_mean_123, e_X12_mean_126, e_X12_mean_129, e_X12_mean_130, e_X12_mean_133, e_X12_mean_135, e_X12_mean_136, e_X12_mean_139, e_X12_mean_141, e_X12_mean_142, e_X12_mean_143, e_X12_mean_146, g_143_20, g_143_22, l_150 hk, nI_neg (show k < 2 ^ 31 by omega), nI_clamp (show k < 2 ^ 31 by omega), k_148 (show k < 2530 by omega), q_148, if_neg (show ¬ (234 : Int32) ≤ nI k from nI_ge (b := 234) hk (by decide)), nI_1, hr, zu_zr, Option.bind_some, Option.isSome_some, Option.toList, List.cons_append, List.nil_append, zclr_i, zclr_r, zclr_n, zfit_i, zfit_l, and_self, if_true, if_false]) 234 0 (Y 148) (by omega)
  rw [zr_id] at h
  refine h.trans ?_
  rw [e_X12_mean_121]
  simp only [e_X12_mean_123, e_X12_mean_126, if_pos (show (234 : Int32) ≤ nI 234 by decide), Option.bind_some, Option.isSome_some, Option.toList, List.cons_append, List.nil_append, zclr_i, zclr_r, zclr_n, zfit_i, zfit_l, and_self, if_true, if_false]
  rw [zfor_copy]
  simp
def cpJ (J : Nat → Nat → Int64) : Nat → Nat → Int64 := cpS 16 33 4 12 (cpS 16 33 1 6 J)
/-- where the class's lives in the draft may write -/
def mX (I X : Nat → Nat → Int32) : Prop := ∀ a, (∀ i, i < 17 → a ≠ 33 + i) → a ≠ 64 → a ≠ 65 → X a = I a
def mJ (J JX : Nat → Nat → Int64) : Prop := ∀ a, a ≠ 34 → a ≠ 37 → JX a = J a
def mY (I Y0 Y : Nat → Nat → Int32) : Prop := Y 148 = I 148 ∧ (∀ j, j < 234 → Y 150 j = I 148 j) ∧ (∀ a, a ≠ 148 → a ≠ 143 → Y a = Y0 a) ∧ ∀ k, k < 35 ∨ 42 < k → Y 143 k = Y0 143 k
def mJY (N : Nat) (J0 J : Nat → Nat → Int64) : Prop := (∀ a, a ≠ 151 → J a = J0 a) ∧ ∀ k, k < 6 + N ∨ 18 ≤ k → J 151 k = J0 151 k
theorem toL {k : Nat} (h : k < 2 ^ 31) : (nI k).toInt64 = lL k := by
  apply Int64.toInt_inj.mp
  rw [Int32.toInt_toInt64, nI_toInt h, lL_toInt (by omega)]
theorem mn_loop (h : Inv I J N S) (hM : M ≤ 20) (hsd : sd + M ≤ 10000) (hB : Blk I 50 (I 148) N S 60 3 0 L 0 K) (L60 : L ≤ 60) (hL : I 50 2 = nI L) (hK : K ≤ 30) (hK2 : I 148 235 = nI K) (d : Nat) : ∀ f kk ds X JX, kk + f = M → ds ≤ 12 * kk → mX I X → mJ J JX → ∃ X' JX' ds', zexec (d + 8) 212 54 [some (.ref 3), some (.int (nI sd)), some (.int (nI M)), some (.int (nI ds)), some (.int (nI kk))] [] (mk n m g X JX) = zexec (d + 8) 212 109 [some (.ref 3), some (.int (nI sd)), some (.int (nI M)), some (.int (nI ds')), some (.int (nI M))] [] (mk n m g X' JX') ∧ mX I X' ∧ mJ J JX' ∧ ds' ≤ 12 * M ∧ ∀ D Y0 J0 Y JY (y6 : Option Int32), mY I Y0 Y → mJY N J0 JY → ∃ Y' JY' y6', zexec (D + 18) 406 93 [some (.ref 143), some (.int (nI sd)), some (.int (nI M)), some (.long (lL ds)), none, some (.int (nI kk)), y6.map Value.int] [] (mk n m g Y JY) = zexec (D + 18) 406 155 [some (.ref 143), some (.int (nI sd)), some (.int (nI M)), some (.long (lL ds')), none, some (.int (nI M)), Option.map Value.int y6'] [] (mk n m g Y' JY') ∧ mY I Y0 Y' ∧ mJY N J0 JY' := by
  have hW := h.W
  have h12 := hW.h12
  intro f
  induction f with
  | zero =>
    intro kk ds X JX hk hds hX hJ
    have : kk = M := by omega
    subst this
    refine ⟨X, JX, ds, ?_, hX, hJ, hds, fun D Y0 J0 Y JY y6 hY hJY => ⟨Y, JY, y6, ?_, hY, hJY⟩⟩
    · rw [e_X11_mean_54]
      simp only [e_X11_mean_56, e_X11_mean_57, if_pos (nI_le (Nat.le_refl kk) (by omega : kk < 2 ^ 31)), Option.bind_some, Option.isSome_some, Option.toList, List.cons_append, List.nil_append, zclr_i, zclr_r, zclr_n, zfit_i, zfit_l, and_self, if_true, if_false]
    · rw [e_X12_mean_93]
      simp only [e_X12_mean_95, e_X12_mean_96, if_pos (nI_le (Nat.le_refl kk) (by omega : kk < 2 ^ 31)), Option.bind_some, Option.isSome_some, Option.toList, List.cons_append, List.nil_append, zclr_i, zclr_r, zclr_n, zfit_i, zfit_l, and_self, if_true, if_false]
  | succ f ih =>
    intro kk ds X JX hk hds hX hJ
    have hXr : ∀ i, i < 17 → X (16 + i) = I (16 + i) := fun i hi => hX _ (fun j hj => by omega) (by omega) (by omega)
    have hXW : WT X 16 N S 2999 := hW.far hXr
    have cW : WT (tCopy 16 33 X) 33 N S 2999 := hXW.copy ap
    have hc50 : ∀ r, r < 6 → tCopy 16 33 X (50 + r) = I (50 + r) := fun r hr => by rw [tCopy_far (fun i hi => by omega), hX _ (fun j hj => by omega) (by omega) (by omega)]
    have cB : Blk (tCopy 16 33 X) 50 (I 148) N S 60 3 0 L 0 K := hB.far hc50 (fun _ _ _ => rfl) 60 3 _ _ _ _ hK
    obtain ⟨X1, N1, a1, a2, a3, a4, a5, a6, a7⟩ := life_run (n := n) (m := m) (g := g) (X := tCopy 16 33 X) (l := 64) (t := 33) (s := 50) (sd := sd + kk) ⟨sc50, li64', t33, L60, by rw [show tCopy 16 33 X 50 = I 50 from hc50 0 (by decide)]; exact hL⟩ cW cB hK (by omega) (d + 1)
    have hX1 : mX I X1 := fun a h1 h2 h3 => by rw [a3 a h1 h2 h3, tCopy_far h1, hX a h1 h2 h3]
    have hJ1 : mJ J (jb (cpJ JX) 33 N N1) := fun a h1 h2 => by
      have e1 : jb (cpJ JX) 33 N N1 a = cpJ JX a := by
        funext z
        unfold jb
        rw [if_neg (by omega)]
      rw [e1]
      unfold cpJ cpS
      rw [zr_far _ _ h2, zr_far _ _ h1, hJ a h1 h2]
    obtain ⟨ad, ead⟩ : ∃ ad, ad = cnt (fun p => decide (p < N1) && decide (X1 (33 + 7) p = -1 ∧ X1 (33 + 6) p = -1)) 12 := ⟨_, rfl⟩
    have had : ad ≤ 12 := by
      have := cnt_le (fun p => decide (p < N1) && decide (X1 (33 + 7) p = -1 ∧ X1 (33 + 6) p = -1)) 12 0 0
      rw [Nat.zero_add] at this
      rw [ead]
      exact this
    have hbc : jbc (sBear X1 33 (-1) N1) = nI ad := by rw [isS_jbc (isS_bear a2.h12), ← ead]
    obtain ⟨X', JX', ds', e1, e2, e3, e4, e5⟩ := ih (kk + 1) (ds + ad) X1 (jb (cpJ JX) 33 N N1) (by omega) (by omega) hX1 hJ1
    refine ⟨X', JX', ds', ?_, e2, e3, e4, fun D Y0 J0 Y JY y6 hY hJY => ?_⟩
    · have hcp := t_copyFrom (n := n) (m := m) (g := g) (I := X) (J := JX) t16 t33 (d + 6)
      have hda := t_dashes (n := n) (m := m) (g := g) (J := jb (cpJ JX) 33 N N1) (I := X1) t33 a2.hN a2.h12 (d + 6)
      have hrun := a6 (cpJ JX)
      rw [← e1, e_X11_mean_54]
      simp only [e_X11_mean_56, e_X11_mean_57, e_X11_mean_60, e_X11_mean_61, e_X11_mean_64, e_X11_mean_65, e_X11_mean_68, e_X11_mean_71, e_X11_mean_72, e_X11_mean_75, e_X11_mean_76, e_X11_mean_79, e_X11_mean_80, e_X11_mean_83, e_X11_mean_84, e_X11_mean_86, e_X11_mean_87, e_X11_mean_90, e_X11_mean_91, e_X11_mean_92, e_X11_mean_95, e_X11_mean_98, e_X11_mean_101, e_X11_mean_102, e_X11_mean_103, e_X11_mean_106, c_3, c_T0 t33, c_T0 t16, c_L0 li64', g_3_7, g_3_8, g_3_9, g_3_12, if_neg (nI_ge (show kk < M by omega) (by omega : M < 2 ^ 31)), hcp, nI_add, show cpS 16 33 4 12 (cpS 16 33 1 6 JX) = cpJ JX from rfl, hrun, hda, show sSet (fun p => decide (X1 (33 + 7) p = -1 ∧ X1 (33 + 6) p = -1)) N1 = sBear X1 33 (-1) N1 from rfl, j_bitCount, hbc, nI_1, Option.bind_some, Option.isSome_some, Option.toList, List.cons_append, List.nil_append, zclr_i, zclr_r, zclr_n, zfit_i, zfit_l, and_self, if_true, if_false]
    · obtain ⟨y1, y2, y3, y4⟩ := hY
      obtain ⟨Y1, b1, b2, b3⟩ := a7 D Y JY (by rw [y1]; exact (h.R.far hXr).copy hXW ap) (fun k _ => by rw [y1]) hK2
      have hsz : ∀ H, zcall (D + 17) 252 [.int (sBear X1 33 (-1) N1)] H = some (some (.int (nI ad)), H) := fun H => by
        rw [v_sizeOf (isS_bear a2.h12) (D + 16) H, ← ead]
      have hvd := v_dashes (n := n) (m := m) (g := g) (J := jy JY N N1) a2 b2.1 (D + 15)
      have hbk := mn_back (n := n) (m := m) (g := g) (x1 := nI sd) (x2 := nI M) (x5 := nI kk) (v := lL (ds + ad)) (Y := Y1) (JY := jy JY N N1) (D + 18)
      have hrow : (fun j => if j < 234 then Y1 150 j else Y1 148 j) = I 148 := by
        funext j
        by_cases hj : j < 234
        · rw [if_pos hj, b3.1 150 (by decide) (by decide), y2 j hj]
        · rw [if_neg hj, b2.2.1 j (by omega)]
      rw [hrow] at hbk
      have hY2 : mY I Y0 (zr Y1 148 (I 148)) := by
        refine ⟨zr_same _ _ _, fun j hj => ?_, fun a h1 h2 => ?_, fun k hk => ?_⟩
        · rw [zr_far _ _ (by decide), b3.1 150 (by decide) (by decide), y2 j hj]
        · rw [zr_far _ _ h1, b3.1 a h1 h2, y3 a h1 h2]
        · rw [zr_far _ _ (by decide), b3.2 k hk, y4 k hk]
      have hJ2 : mJY N J0 (jy JY N N1) := by
        refine ⟨fun a ha => ?_, fun k hk => ?_⟩
        · rw [← hJY.1 a ha]
          funext z
          unfold jy
          rw [if_neg (by omega)]
        · rw [← hJY.2 k hk]
          have := a2.h12
          unfold jy
          rw [if_neg (by omega)]
      obtain ⟨Y', JY', y6', c1, c2, c3⟩ := e5 D Y0 J0 (zr Y1 148 (I 148)) (jy JY N N1) (some (nI 234)) hY2 hJ2
      refine ⟨Y', JY', y6', ?_, c2, c3⟩
      have hb1 : zcall (D + 17) 403 [.ref 143, .int (nI (sd + kk))] (mk n m g Y JY) = some (none, mk n m g Y1 (jy JY N N1)) := b1
      rw [← c1, e_X12_mean_93]
      simp only [e_X12_mean_95, e_X12_mean_96, e_X12_mean_99, e_X12_mean_100, e_X12_mean_101, e_X12_mean_103, e_X12_mean_104, e_X12_mean_107, e_X12_mean_108, e_X12_mean_109, e_X12_mean_112, e_X12_mean_115, e_X12_mean_116, e_X12_mean_117, e_X12_mean_118, e_X12_mean_119, c_143, if_neg (nI_ge (show kk < M by omega) (by omega : M < 2 ^ 31)), nI_add, hb1, hvd, hsz, toL (show ad < 2 ^ 31 by omega), lL_add, zclr_map, Option.bind_some, Option.isSome_some, Option.toList, List.cons_append, List.nil_append, zclr_i, zclr_r, zclr_n, zfit_i, zfit_l, and_self, if_true, if_false]
      refine (show _ from hbk).trans ?_
      simp only [e_X12_mean_149, e_X12_mean_152, nI_1, Option.bind_some, Option.isSome_some, Option.toList, List.cons_append, List.nil_append, zclr_i, zclr_r, zclr_n, zfit_i, zfit_l, and_self, if_true, if_false]
      rfl
theorem q_mean {x y : Int32} (h : Inv I J N S) (d : Nat) : Eqv (d + 30) 212 406 [.int x, .int y] n m g I J := by
  have hW := h.W
  have h12 := hW.h12
  have hl234 : ∀ (I : Nat → Nat → Int32) (J : Nat → Nat → Int64), zld (mk n m g I J) 148 234 = some (I 148 234) := fun I J => l_148 (k := 234) (by decide)
  have hbad : ¬ (1 ≤ y ∧ y ≤ 20) ∨ ((1 ≤ y ∧ y ≤ 20) ∧ ¬ (0 ≤ x ∧ x ≤ 10000 - y)) ∨ ((1 ≤ y ∧ y ≤ 20) ∧ (0 ≤ x ∧ x ≤ 10000 - y)) := by
    by_cases h1 : 1 ≤ y ∧ y ≤ 20
    · by_cases h2 : 0 ≤ x ∧ x ≤ 10000 - y
      · exact .inr (.inr ⟨h1, h2⟩)
      · exact .inr (.inl ⟨h1, h2⟩)
    · exact .inl h1
  rcases hbad with hy | ⟨hy, hx⟩ | ⟨hy, hx⟩
  · refine ⟨.int 0, zu I 3 0 5, J, st 5 I, J, N, S, ?_, ?_, h.stI⟩
    · rw [m_X11_mean]
      simp only [e_X11_mean_0, e_X11_mean_1, e_X11_mean_4, e_X11_mean_5, e_X11_mean_6, e_X11_mean_9, e_X11_mean_10, e_X11_mean_12, e_X11_mean_15, e_X11_mean_16, e_X11_mean_19, e_X11_mean_20, e_X11_mean_21, e_X11_mean_22, e_X11_mean_23, e_X11_mean_26, e_X11_mean_27, e_X11_mean_28, e_X11_mean_31, c_3, n_deny, zfit_b0, Option.bind_some, Option.isSome_some, Option.toList, List.cons_append, List.nil_append, zclr_i, zclr_r, zclr_n, zfit_i, zfit_l, and_self, if_true, if_false]
      by_cases c1 : x < 0
      · simp [c1]
      · by_cases c2 : y < 1
        · simp [c1, c2]
        · have c3 : 20 < y := Int32.not_le.mp (fun h => hy ⟨Int32.not_lt.mp c2, h⟩)
          simp [c1, c2, c3]
    · rw [m_X12_mean]
      simp only [e_X12_mean_0, e_X12_mean_1, e_X12_mean_2, e_X12_mean_5, e_X12_mean_6, e_X12_mean_7, e_X12_mean_10, e_X12_mean_11, e_X12_mean_12, e_X12_mean_13, e_X12_mean_16, e_X12_mean_19, e_X12_mean_22, e_X12_mean_23, e_X12_mean_24, e_X12_mean_25, e_X12_mean_28, e_X12_mean_29, e_X12_mean_30, e_X12_mean_31, e_X12_mean_34, e_X12_mean_37, e_X12_mean_38, e_X12_mean_39, e_X12_mean_42, c_143, g_143_0, g_143_1, p_143_0, p_143_1, v_isIn y 1 20 1 20 rfl rfl, hy, decide_false, bI, Bool.false_eq_true, v_no, st_eq, zfit_b0, Option.bind_some, Option.isSome_some, Option.toList, List.cons_append, List.nil_append, zclr_i, zclr_r, zclr_n, zfit_i, zfit_l, and_self, if_true, if_false] <;> first | rfl | simp
  · obtain ⟨M, hM1, hM2, rfl⟩ := range_nI (lo := 1) (hi := 20) (by decide) (by decide) hy
    have e1 : (9999 : Int32) - (nI M - 1) = 10000 - nI M := by
      have : ∀ M, M < 21 → (9999 : Int32) - (nI M - 1) = 10000 - nI M := by decide +kernel
      exact this M (by omega)
    refine ⟨.int 0, zu I 3 0 5, J, st 5 I, J, N, S, ?_, ?_, h.stI⟩
    · rw [m_X11_mean]
      simp only [e_X11_mean_0, e_X11_mean_1, e_X11_mean_4, e_X11_mean_5, e_X11_mean_6, e_X11_mean_9, e_X11_mean_10, e_X11_mean_12, e_X11_mean_15, e_X11_mean_16, e_X11_mean_19, e_X11_mean_20, e_X11_mean_21, e_X11_mean_22, e_X11_mean_23, e_X11_mean_26, e_X11_mean_27, e_X11_mean_28, e_X11_mean_31, c_3, n_deny, zfit_b0, e1, Option.bind_some, Option.isSome_some, Option.toList, List.cons_append, List.nil_append, zclr_i, zclr_r, zclr_n, zfit_i, zfit_l, and_self, if_true, if_false]
      have c2 : ¬ nI M < 1 := Int32.not_lt.mpr hy.1
      have c3 : ¬ 20 < nI M := Int32.not_lt.mpr hy.2
      by_cases c1 : x < 0
      · simp [c1]
      · have c4 : ¬ x ≤ 10000 - nI M := fun h => hx ⟨Int32.not_lt.mp c1, h⟩
        simp [c1, c2, c3, c4]
    · rw [m_X12_mean]
      simp only [e_X12_mean_0, e_X12_mean_1, e_X12_mean_2, e_X12_mean_5, e_X12_mean_6, e_X12_mean_7, e_X12_mean_10, e_X12_mean_11, e_X12_mean_12, e_X12_mean_13, e_X12_mean_16, e_X12_mean_19, e_X12_mean_22, e_X12_mean_23, e_X12_mean_24, e_X12_mean_25, e_X12_mean_28, e_X12_mean_29, e_X12_mean_30, e_X12_mean_31, e_X12_mean_34, e_X12_mean_37, e_X12_mean_38, e_X12_mean_39, e_X12_mean_42, c_143, g_143_0, g_143_1, p_143_0, p_143_1, v_isIn (nI M) 1 20 1 20 rfl rfl, v_isIn x 0 (10000 - nI M) 0 _ rfl rfl, hy, hx, decide_true, decide_false, bI, Bool.false_eq_true, show ((1 : Int32) = 0) = False by decide, ne_eq, not_true, v_no, st_eq, zfit_b0, Option.bind_some, Option.isSome_some, Option.toList, List.cons_append, List.nil_append, zclr_i, zclr_r, zclr_n, zfit_i, zfit_l, and_self, if_true, if_false] <;> first | rfl | simp
  · obtain ⟨M, hM1, hM2, rfl⟩ := range_nI (lo := 1) (hi := 20) (by decide) (by decide) hy
    have e1 : (9999 : Int32) - (nI M - 1) = 10000 - nI M := by
      have : ∀ M, M < 21 → (9999 : Int32) - (nI M - 1) = 10000 - nI M := by decide +kernel
      exact this M (by omega)
    have e2 : (10000 : Int32) - nI M = nI (10000 - M) := nI_subn (a := 10000) (by omega)
    have hx2 : 0 ≤ x ∧ x ≤ nI (10000 - M) := by rw [← e2]; exact hx
    obtain ⟨sd, _, hsd, rfl⟩ := range_nI (lo := 0) (hi := 10000 - M) (by decide) (by omega) hx2
    have c1 : ¬ nI sd < 0 := nI_pos (by omega)
    have c2 : ¬ nI M < 1 := Int32.not_lt.mpr hy.1
    have c3 : ¬ 20 < nI M := Int32.not_lt.mpr hy.2
    obtain ⟨cs1, cs2⟩ := h.cs
    rcases cs2 with z0 | ⟨z1, L, K, L60, K30, _, k2, k3, hB⟩
    · have i50 : I 50 0 = 0 := by rw [cs1, z0]
      refine ⟨.int 0, zu I 3 0 8, J, st 8 I, J, N, S, ?_, ?_, h.stI⟩
      · rw [m_X11_mean]
        simp only [e_X11_mean_0, e_X11_mean_1, e_X11_mean_4, e_X11_mean_5, e_X11_mean_6, e_X11_mean_9, e_X11_mean_10, e_X11_mean_12, e_X11_mean_15, e_X11_mean_16, e_X11_mean_19, e_X11_mean_20, e_X11_mean_21, e_X11_mean_22, e_X11_mean_23, e_X11_mean_32, e_X11_mean_33, e_X11_mean_36, e_X11_mean_39, e_X11_mean_42, e_X11_mean_43, e_X11_mean_45, e_X11_mean_48, c_3, g_3_9, g_S0_0 sc50, if_neg c1, if_neg c2, if_neg c3, e1, if_pos hx.2, i50, ne_eq, not_true, n_deny, zfit_b0, Option.bind_some, Option.isSome_some, Option.toList, List.cons_append, List.nil_append, zclr_i, zclr_r, zclr_n, zfit_i, zfit_l, and_self, if_true, if_false] <;> first | rfl | simp
      · have e234 : ((zu (zu (zu I 3 0 8) 143 1 0) 143 0 0)) 148 234 = 0 := z0
        rw [m_X12_mean]
        simp only [e_X12_mean_0, e_X12_mean_1, e_X12_mean_2, e_X12_mean_5, e_X12_mean_6, e_X12_mean_7, e_X12_mean_10, e_X12_mean_11, e_X12_mean_12, e_X12_mean_13, e_X12_mean_16, e_X12_mean_19, e_X12_mean_22, e_X12_mean_23, e_X12_mean_24, e_X12_mean_25, e_X12_mean_28, e_X12_mean_29, e_X12_mean_30, e_X12_mean_31, e_X12_mean_34, e_X12_mean_37, e_X12_mean_38, e_X12_mean_39, e_X12_mean_42, e_X12_mean_43, e_X12_mean_44, e_X12_mean_47, e_X12_mean_50, e_X12_mean_51, e_X12_mean_54, e_X12_mean_55, e_X12_mean_57, e_X12_mean_60, c_143, g_143_0, g_143_1, g_143_20, p_143_0, p_143_1, v_isIn (nI M) 1 20 1 20 rfl rfl, v_isIn (nI sd) 0 (10000 - nI M) 0 _ rfl rfl, hy, hx, decide_true, bI, show ((1 : Int32) = 0) = False by decide, ne_eq, not_false_eq_true, not_true, hl234, e234, v_no, st_eq, zfit_b0, Option.bind_some, Option.isSome_some, Option.toList, List.cons_append, List.nil_append, zclr_i, zclr_r, zclr_n, zfit_i, zfit_l, and_self, if_true, if_false] <;> first | rfl | simp
    · have i50 : I 50 0 = 1 := by rw [cs1, z1]
      obtain ⟨X', JX', ds, a1, a2, a3, a4, a5⟩ := mn_loop (n := n) (m := m) (g := g) (sd := sd) (M := M) h hM2 (by omega) hB L60 k3 K30 k2 (d + 22) M 0 0 I J (by omega) (by omega) (fun _ _ _ _ => rfl) (fun _ _ _ => rfl)
      have hX148 : X' 148 = I 148 := a2 148 (fun i hi => by omega) (by decide) (by decide)
      have hd62 : ds < 2 ^ 62 := by omega
      have hM0 : M ≠ 0 := by omega
      have hM62 : M < 2 ^ 62 := by omega
      obtain ⟨J1, eJ1⟩ : ∃ J1, J1 = zu (zu JX' 3 1 (lL ds / lL (Nat.gcd ds M))) 3 2 (lL M / lL (Nat.gcd ds M)) := ⟨_, rfl⟩
      have htl : tellJ (lL ds) (lL M) JX' = J1 := by rw [tell_gcd hd62 hM0 hM62, eJ1]
      obtain ⟨Y1, eY1⟩ : ∃ Y1, Y1 = zr ((zu (zu (zu X' 3 0 0) 143 1 0) 143 0 0)) 150 (fun j => if j < 234 then ((zu (zu (zu X' 3 0 0) 143 1 0) 143 0 0)) 148 j else ((zu (zu (zu X' 3 0 0) 143 1 0) 143 0 0)) 150 j) := ⟨_, rfl⟩
      have hV148 : ((zu (zu (zu X' 3 0 0) 143 1 0) 143 0 0)) 148 = I 148 := hX148
      have hmY : mY I Y1 Y1 := by
        refine ⟨?_, fun j hj => ?_, fun _ _ _ => rfl, fun _ _ => rfl⟩
        · rw [eY1, zr_far _ _ (by decide)]
          exact hV148
        · rw [eY1, zr_same, if_pos hj, hV148]
      obtain ⟨Y', JY', y6', b1, b2, b3⟩ := a5 (d + 12) Y1 J1 Y1 J1 none hmY ⟨fun _ _ => rfl, fun _ _ => rfl⟩
      have hfr := v_fraction (n := n) (m := m) (g := g) (I := Y') (J := JY') hd62 hM0 hM62 (d + 28)
      have hY' : ∀ a, a ≠ 148 → a ≠ 143 → a ≠ 150 → Y' a = ((zu (zu (zu X' 3 0 0) 143 1 0) 143 0 0)) a := fun a h1 h2 h3 => by rw [b2.2.2.1 a h1 h2, eY1, zr_far _ _ h3]
      have hY143 : ∀ k, k < 35 → Y' 143 k = ((zu (zu (zu X' 3 0 0) 143 1 0) 143 0 0)) 143 k := fun k hk => by rw [b2.2.2.2 k (.inl hk), eY1, zr_far _ _ (by decide)]
      have hXI : ∀ a, (a < 33 ∨ 50 ≤ a) → a ≠ 64 → a ≠ 65 → X' a = I a := fun a h1 h2 h3 => a2 a (fun i hi => by omega) h2 h3
      have hVX : ∀ a, a ≠ 3 → a ≠ 143 → ((zu (zu (zu X' 3 0 0) 143 1 0) 143 0 0)) a = X' a := fun a h1 h2 => by rw [zu_far _ _ _ h2, zu_far _ _ _ h2, zu_far _ _ _ h1]
      have hYI : ∀ a, (a < 33 ∨ 50 ≤ a) → a ≠ 64 → a ≠ 65 → a ≠ 3 → a ≠ 143 → a ≠ 148 → a ≠ 150 → Y' a = I a := fun a h1 h2 h3 h4 h5 h6 h7 => by rw [hY' a h6 h5 h7, hVX a h4 h5, hXI a h1 h2 h3]
      obtain ⟨J3, eJ3⟩ : ∃ J3, J3 = zu (zu JY' 143 2 (lL ds / lL (Nat.gcd ds M))) 143 3 (lL M / lL (Nat.gcd ds M)) := ⟨_, rfl⟩
      have hJ3 : ∀ a, a ≠ 3 → a ≠ 143 → a ≠ 151 → a ≠ 34 → a ≠ 37 → J3 a = J a := fun a h1 h2 h3 h4 h5 => by rw [eJ3, zu_far _ _ _ h2, zu_far _ _ _ h2, b3.1 a h3, eJ1, zu_far _ _ _ h1, zu_far _ _ _ h1, a3 a h4 h5]
      have hJ151 : ∀ k, k < 6 + N ∨ 18 ≤ k → J3 151 k = J 151 k := fun k hk => by rw [eJ3, zu_far _ _ _ (by decide), zu_far _ _ _ (by decide), b3.2 k hk, eJ1, zu_far _ _ _ (by decide), zu_far _ _ _ (by decide), a3 151 (by decide) (by decide)]
      obtain ⟨J4, eJ4⟩ : ∃ J4 : Nat → Nat → Int64, J4 = fun a => if a = 3 then J 3 else if a = 143 then J 143 else J3 a := ⟨_, rfl⟩
      have hJ4 : ∀ a, a ≠ 3 → a ≠ 143 → J4 a = J3 a := fun a h1 h2 => by rw [eJ4]; simp [h1, h2]
      have hI4 : Inv Y' J4 N S := by
        refine h.keep (Nat.le_refl N) (hW.far (fun i hi => hYI _ (by omega) (by omega) (by omega) (by omega) (by omega) (by omega) (by omega))) ?_ ?_ ?_ (fun a ha => ?_) (fun k hk => ?_) (fun k hk => ?_) (fun j _ => by rw [b2.1]) ?_ (fun a ha => ?_) (fun k hk => ?_)
        · rw [b2.1]
          exact h.R.far (fun i hi => hYI _ (by omega) (by omega) (by omega) (by omega) (by omega) (by omega) (by omega))
        · obtain ⟨w1, w2⟩ := h.jw
          have h6 := hW.h6
          refine ⟨fun s hs => ?_, fun p hp => ?_⟩
          · rw [hJ4 _ (by decide) (by decide), hJ4 151 (by decide) (by decide), hJ3 (16 + 1) (by decide) (by decide) (by decide) (by decide) (by decide), hJ151 s (.inl (by omega))]
            exact w1 s hs
          · rw [hJ4 _ (by decide) (by decide), hJ4 151 (by decide) (by decide), hJ3 (16 + 4) (by decide) (by decide) (by decide) (by decide) (by decide), hJ151 (6 + p) (.inl (by omega))]
            exact w2 p hp
        · rw [hY' 3 (by decide) (by decide) (by decide), hY143 0 (by decide)]
          simp [zu_row, zu_far]
        · have q1 : (a < 33 ∨ 50 ≤ a) ∧ a ≠ 64 ∧ a ≠ 65 := by
            unfold keepI at ha
            simp at ha
            omega
          exact hYI a q1.1 q1.2.1 q1.2.2 (keepI_ne ha rfl) (keepI_ne ha rfl) (keepI_ne ha rfl) (keepI_ne ha rfl)
        · rw [hY' 3 (by decide) (by decide) (by decide), zu_far _ _ _ (by decide), zu_far _ _ _ (by decide), zu_row, if_neg hk, hXI 3 (by omega) (by decide) (by decide)]
        · rw [hY143 k (by omega), zu_row, zu_row, if_neg (by omega), if_neg (by omega), zu_far _ _ _ (by decide), hXI 143 (by omega) (by decide) (by decide)]
        · have := h.pt
          unfold pointOk at *
          rw [hYI 71 (by omega) (by decide) (by decide) (by decide) (by decide) (by decide) (by decide)]
          exact this
        · by_cases q1 : a = 3
          · rw [eJ4, q1]
            rfl
          · by_cases q2 : a = 143
            · rw [eJ4, q2]
              rfl
            · rw [hJ4 a q1 q2, hJ3 a q1 q2 (keepJ_ne ha rfl) (keepJ_ne ha rfl) (keepJ_ne ha rfl)]
        · rw [hJ4 151 (by decide) (by decide), hJ151 k (.inr hk)]
      refine ⟨.int 1, zu X' 3 0 0, J1, Y', J3, N, S, ?_, ?_, hI4.frac (fun a h1 h2 _ => (hJ4 a h1 h2).symm) ?_⟩
      · rw [m_X11_mean]
        simp only [e_X11_mean_0, e_X11_mean_1, e_X11_mean_4, e_X11_mean_5, e_X11_mean_6, e_X11_mean_9, e_X11_mean_10, e_X11_mean_12, e_X11_mean_15, e_X11_mean_16, e_X11_mean_19, e_X11_mean_20, e_X11_mean_21, e_X11_mean_22, e_X11_mean_23, e_X11_mean_32, e_X11_mean_33, e_X11_mean_36, e_X11_mean_39, e_X11_mean_42, e_X11_mean_43, e_X11_mean_45, e_X11_mean_48, e_X11_mean_49, e_X11_mean_50, e_X11_mean_51, e_X11_mean_52, c_3, g_3_9, g_S0_0 sc50, if_neg c1, if_neg c2, if_neg c3, e1, if_pos hx.2, i50, show ((1 : Int32) = 0) = False by decide, ne_eq, not_false_eq_true, Option.bind_some, Option.isSome_some, Option.toList, List.cons_append, List.nil_append, zclr_i, zclr_r, zclr_n, zfit_i, zfit_l, and_self, if_true, if_false]
        refine (show _ from a1).trans ?_
        simp only [e_X11_mean_109, e_X11_mean_110, e_X11_mean_111, e_X11_mean_112, e_X11_mean_113, e_X11_mean_114, e_X11_mean_117, e_X11_mean_118, e_X11_mean_121, c_3, toL (show ds < 2 ^ 31 by omega), toL (show M < 2 ^ 31 by omega), n_tell, htl, n_grant, zfit_b1, Option.bind_some, Option.isSome_some, Option.toList, List.cons_append, List.nil_append, zclr_i, zclr_r, zclr_n, zfit_i, zfit_l, and_self, if_true, if_false]
      · have e234 : ((zu (zu (zu X' 3 0 0) 143 1 0) 143 0 0)) 148 234 = 1 := by rw [hV148]; exact z1
        rw [m_X12_mean]
        simp only [e_X12_mean_0, e_X12_mean_1, e_X12_mean_2, e_X12_mean_5, e_X12_mean_6, e_X12_mean_7, e_X12_mean_10, e_X12_mean_11, e_X12_mean_12, e_X12_mean_13, e_X12_mean_16, e_X12_mean_19, e_X12_mean_22, e_X12_mean_23, e_X12_mean_24, e_X12_mean_25, e_X12_mean_28, e_X12_mean_29, e_X12_mean_30, e_X12_mean_31, e_X12_mean_34, e_X12_mean_37, e_X12_mean_38, e_X12_mean_39, e_X12_mean_42, e_X12_mean_43, e_X12_mean_44, e_X12_mean_47, e_X12_mean_50, e_X12_mean_51, e_X12_mean_54, e_X12_mean_55, e_X12_mean_57, e_X12_mean_60, e_X12_mean_61, e_X12_mean_62, c_143, g_143_0, g_143_1, g_143_20, p_143_0, p_143_1, v_isIn (nI M) 1 20 1 20 rfl rfl, v_isIn (nI sd) 0 (10000 - nI M) 0 _ rfl rfl, hy, hx, decide_true, bI, show ((1 : Int32) = 0) = False by decide, ne_eq, not_false_eq_true, not_true, hl234, e234, Option.bind_some, Option.isSome_some, Option.toList, List.cons_append, List.nil_append, zclr_i, zclr_r, zclr_n, zfit_i, zfit_l, and_self, if_true, if_false]
        refine (show _ from mn_copy (d + 30)).trans ?_
        rw [← eY1]
        simp only [e_X12_mean_88, e_X12_mean_89, e_X12_mean_90, e_X12_mean_91, Option.bind_some, Option.isSome_some, Option.toList, List.cons_append, List.nil_append, zclr_i, zclr_r, zclr_n, zfit_i, zfit_l, and_self, if_true, if_false]
        refine (show _ from b1).trans ?_
        simp only [e_X12_mean_155, e_X12_mean_156, e_X12_mean_157, e_X12_mean_158, e_X12_mean_159, e_X12_mean_162, c_143, toL (show M < 2 ^ 31 by omega), hfr, zfit_b1, Option.bind_some, Option.isSome_some, Option.toList, List.cons_append, List.nil_append, zclr_i, zclr_r, zclr_n, zfit_i, zfit_l, and_self, if_true, if_false]
        rw [← eJ3]
      · have j3 : J3 3 = J1 3 := by rw [eJ3, zu_far _ _ _ (by decide), zu_far _ _ _ (by decide), b3.1 3 (by decide)]
        rw [j3, eJ1, eJ3]
        simp [zu_row]
end LW
