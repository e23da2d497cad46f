/-! LIVES: loops, and all of a script -/
section LQ
variable {n m : Nat} {g : Nat → zC} {X X' X1 Y Y' B : Nat → Nat → Int32} {J JY : Nat → Nat → Int64} {N N' N0 S l t s q q' k k' a a0 e i i1 j x1 L d dep w K : Nat} {c0 : Nat → Int32} {x : Int32} {y : Option Int32} {over : Bool}
theorem lo_done {v : Int32} (hi : i < 30) (hK : K < 2 ^ 31) (hw : Y 148 (236 + 9 * i + 1) = nI K) : zexec d 401 120 [some (.ref 143), some (.int (nI i)), some (.int (nI (236 + 9 * i))), some (.int v), some (.int (nI K))] [] (mk n m g Y JY) = some (none, mk n m g Y JY) := by
  rw [e_X12_doOne_120]
  simp only [e_X12_doOne_122, e_X12_doOne_123, e_X12_doOne_126, e_X12_doOne_127, e_X12_doOne_128, e_X12_doOne_129, e_X12_doOne_130, e_X12_doOne_162, e_X12_doOne_176, cA_6, cA_12, cA_18, cA_30, cA_42, cA_54, cA_66, cA_78, cA_90, cA_102, cA_114, cA_126, cA_138, cA_210, cA_222, lc_0, lc_1, lc_2, lc_3, lc_4, lc_5, g_143_20, q_148, nI_neg (show 236 + 9 * i + 1 < 2 ^ 31 by omega), nI_clamp (show 236 + 9 * i + 1 < 2 ^ 31 by omega), k_148 (show 236 + 9 * i + 1 < 2530 by omega), l_148 (show 236 + 9 * i + 1 < 2530 by omega), nI_1, hw, if_pos (nI_le (Nat.le_refl K) hK), Option.bind_some, Option.isSome_some, Option.toList, List.cons_append, List.nil_append, zclr_i, zclr_r, zclr_n, zfit_i, zfit_l, and_self, if_true, if_false]
theorem lo_over {v z : Int32} (hi : i < 30) (h : Y 143 35 = 1) : zexec d 401 120 [some (.ref 143), some (.int (nI i)), some (.int (nI (236 + 9 * i))), some (.int v), some (.int z)] [] (mk n m g Y JY) = some (none, mk n m g Y JY) := by
  rw [e_X12_doOne_120]
  by_cases hz : Y 148 (236 + 9 * i + 1) ≤ z
  · simp only [e_X12_doOne_122, e_X12_doOne_123, e_X12_doOne_126, e_X12_doOne_127, e_X12_doOne_128, e_X12_doOne_129, e_X12_doOne_130, e_X12_doOne_162, e_X12_doOne_176, cA_6, cA_12, cA_18, cA_30, cA_42, cA_54, cA_66, cA_78, cA_90, cA_102, cA_114, cA_126, cA_138, cA_210, cA_222, lc_0, lc_1, lc_2, lc_3, lc_4, lc_5, g_143_20, q_148, nI_neg (show 236 + 9 * i + 1 < 2 ^ 31 by omega), nI_clamp (show 236 + 9 * i + 1 < 2 ^ 31 by omega), k_148 (show 236 + 9 * i + 1 < 2530 by omega), l_148 (show 236 + 9 * i + 1 < 2530 by omega), nI_1, if_pos hz, Option.bind_some, Option.isSome_some, Option.toList, List.cons_append, List.nil_append, zclr_i, zclr_r, zclr_n, zfit_i, zfit_l, and_self, if_true, if_false]
  · simp only [e_X12_doOne_122, e_X12_doOne_123, e_X12_doOne_126, e_X12_doOne_127, e_X12_doOne_128, e_X12_doOne_129, e_X12_doOne_130, e_X12_doOne_133, e_X12_doOne_134, e_X12_doOne_137, e_X12_doOne_162, e_X12_doOne_176, cA_6, cA_12, cA_18, cA_30, cA_42, cA_54, cA_66, cA_78, cA_90, cA_102, cA_114, cA_126, cA_138, cA_210, cA_222, lc_0, lc_1, lc_2, lc_3, lc_4, lc_5, g_143_20, q_148, nI_neg (show 236 + 9 * i + 1 < 2 ^ 31 by omega), nI_clamp (show 236 + 9 * i + 1 < 2 ^ 31 by omega), k_148 (show 236 + 9 * i + 1 < 2530 by omega), l_148 (show 236 + 9 * i + 1 < 2530 by omega), nI_1, if_neg hz, g_143_35, h, show ((1 : Int32) = 0) = False by decide, ne_eq, not_false_eq_true, Option.bind_some, Option.isSome_some, Option.toList, List.cons_append, List.nil_append, zclr_i, zclr_r, zclr_n, zfit_i, zfit_l, and_self, if_true, if_false]
theorem lo_step {v : Int32} {kk : Nat} {Y2 : Nat → Nat → Int32} {J2 : Nat → Nat → Int64} (hi : i < 30) (hk : kk < K) (hK : K < 2 ^ 31) (h35 : Y 143 35 = 0) (hw : Y 148 (236 + 9 * i + 1) = nI K) (hw8 : Y 148 (236 + 9 * i + 8) = nI i1) (hda : zcall d 402 [.ref 143, .int (nI (i + 1)), .int (nI i1)] (mk n m g Y JY) = some (none, mk n m g Y2 J2)) : zexec (d + 1) 401 120 [some (.ref 143), some (.int (nI i)), some (.int (nI (236 + 9 * i))), some (.int v), some (.int (nI kk))] [] (mk n m g Y JY) = zexec (d + 1) 401 120 [some (.ref 143), some (.int (nI i)), some (.int (nI (236 + 9 * i))), some (.int v), some (.int (nI (kk + 1)))] [] (mk n m g Y2 J2) := by
  rw [e_X12_doOne_120]
  simp only [e_X12_doOne_122, e_X12_doOne_123, e_X12_doOne_126, e_X12_doOne_127, e_X12_doOne_128, e_X12_doOne_129, e_X12_doOne_130, e_X12_doOne_133, e_X12_doOne_134, e_X12_doOne_137, e_X12_doOne_140, e_X12_doOne_141, e_X12_doOne_142, e_X12_doOne_143, e_X12_doOne_144, e_X12_doOne_145, e_X12_doOne_148, e_X12_doOne_149, e_X12_doOne_151, e_X12_doOne_152, e_X12_doOne_153, e_X12_doOne_156, e_X12_doOne_159, c_143, cA_6, cA_12, cA_18, cA_30, cA_42, cA_54, cA_66, cA_78, cA_90, cA_102, cA_114, cA_126, cA_138, cA_210, cA_222, lc_0, lc_1, lc_2, lc_3, lc_4, lc_5, g_143_20, q_148, nI_neg (show 236 + 9 * i + 1 < 2 ^ 31 by omega), nI_clamp (show 236 + 9 * i + 1 < 2 ^ 31 by omega), k_148 (show 236 + 9 * i + 1 < 2530 by omega), l_148 (show 236 + 9 * i + 1 < 2530 by omega), nI_neg (show 236 + 9 * i + 8 < 2 ^ 31 by omega), nI_clamp (show 236 + 9 * i + 8 < 2 ^ 31 by omega), k_148 (show 236 + 9 * i + 8 < 2530 by omega), l_148 (show 236 + 9 * i + 8 < 2530 by omega), nI_1, nI_p8, hw, hw8, if_neg (nI_ge hk hK), g_143_35, h35, ne_eq, not_true, hda, Option.bind_some, Option.isSome_some, Option.toList, List.cons_append, List.nil_append, zclr_i, zclr_r, zclr_n, zfit_i, zfit_l, and_self, if_true, if_false]
theorem v_one_loop (hi : i < 30) (hq : q < 300) (h : Y 143 37 = nI q) (hw : Y 148 (236 + 9 * i) = 8) (d : Nat) : zcall d 401 [.ref 143, .int (nI i)] (mk n m g Y JY) = zexec d 401 120 [some (.ref 143), some (.int (nI i)), some (.int (nI (236 + 9 * i))), some (.int 8), some (.int (nI 0))] [] (mk n m g (zu Y 143 37 (nI (q + 1))) JY) := by
  have hne : ¬ nI q = 300 := fun e => by
    have : q = 300 := nI_inj (by omega) (by decide) e
    omega
  have h148 : zu Y 143 37 (nI (q + 1)) 148 (236 + 9 * i) = 8 := by rw [zu_far _ _ _ (by decide)]; exact hw
  rw [m_X12_doOne]
  simp only [e_X12_doOne_0, e_X12_doOne_1, e_X12_doOne_4, e_X12_doOne_7, e_X12_doOne_21, e_X12_doOne_22, e_X12_doOne_23, e_X12_doOne_26, e_X12_doOne_27, e_X12_doOne_28, e_X12_doOne_31, e_X12_doOne_34, e_X12_doOne_36, e_X12_doOne_37, e_X12_doOne_38, e_X12_doOne_39, e_X12_doOne_40, e_X12_doOne_41, e_X12_doOne_44, e_X12_doOne_45, e_X12_doOne_46, e_X12_doOne_47, e_X12_doOne_48, e_X12_doOne_50, e_X12_doOne_78, e_X12_doOne_79, e_X12_doOne_81, e_X12_doOne_111, e_X12_doOne_112, e_X12_doOne_114, e_X12_doOne_117, e_X12_doOne_118, cA_6, cA_12, cA_18, cA_30, cA_42, cA_54, cA_66, cA_78, cA_90, cA_102, cA_114, cA_126, cA_138, cA_210, cA_222, lc_0, lc_1, lc_2, lc_3, lc_4, lc_5, g_143_20, q_148, nI_neg (show 236 + 9 * i < 2 ^ 31 by omega), nI_clamp (show 236 + 9 * i < 2 ^ 31 by omega), k_148 (show 236 + 9 * i < 2530 by omega), l_148 (show 236 + 9 * i < 2530 by omega), wI, g_143_37, p_143_37, h, hne, ne_eq, not_false_eq_true, not_true, nI_1, h148, if_pos (show (7 : Int32) ≤ 8 by decide), show ((8 : Int32) = 7) = False by decide, Option.bind_some, Option.isSome_some, Option.toList, List.cons_append, List.nil_append, zclr_i, zclr_r, zclr_n, zfit_i, zfit_l, and_self, if_true, if_false]
  rfl
theorem LR.turn {v : Int32} {z : Nat} (h : LR c0 l t N S X Y) (hl : isLife l) (ht : isTown t) : LR c0 l t N S (zu X (l + 1) z v) Y := h.cong (h.1.far (fun i hi => zu_far _ _ _ (life_town hl ht hi).2)) (fun k _ => by rw [zu_far _ _ _ (by omega)])
theorem CW.turn {v : Int32} {z : Nat} (h : CW B l t s q N S X) (hsc : isScript s) (hl : isLife l) (ht : isTown t) : CW B l t s q N S (zu X (l + 1) z v) := h.next hsc hl ht XF.rfl'.wr1 (h.1.far (fun i hi => zu_far _ _ _ (life_town hl ht hi).2)) (by rw [zu_far _ _ _ (by omega)]; exact h.2.2.1) h.2.2.2.1 (by rw [zu_far _ _ _ (by omega)]; exact h.2.2.2.2)
/-- the passes of a loop that are left -/
theorem lp_pass (hS : Scr B l t s L) (hdep : dep + 1 ≤ 3) (ha : a < L) (hi : i < 30) (hx1 : x1 < L) (hax : a + 1 < x1) (ho : B (s + 1) a = 24) (hoe : B (s + 1) x1 = 25) (hme : B (s + 5) x1 = nI a) (hK : K ≤ 99) (hc1 : c0 (236 + 9 * i + 1) = nI K) (hc8 : c0 (236 + 9 * i + 8) = nI i1) (hbody : ∀ q' N' k' X', CW B l t s q' N' S X' → N0 ≤ N' → k' + 4 * (300 - q') ≤ 1200 → Run n m g B c0 l t s S x d dep (a + 1) x1 (i + 1) i1 q' N' k' X') : ∀ r, r + 1 ≤ K → ∀ q N k X, CW B l t s q N S X → N0 ≤ N → k + 4 * (300 - q) ≤ 1200 → X (l + 1) a = nI (r + 1) → ∃ over X' N' q' k', ResX n m g B l t s S x d (dep + 1) a (a + 1) (x1 + 1) q N k X over X' N' q' k' ∧ (over = false → q < q') ∧ ∀ D, RefX n m g c0 l t S N N' X X' over (fun Y JY => zexec (D + 2 * (dep + 1) + 9) 401 120 [some (.ref 143), some (.int (nI i)), some (.int (nI (236 + 9 * i))), some (.int 8), some (.int (nI (K - (r + 1))))] [] (mk n m g Y JY)) := by
  obtain ⟨hsc, hl, ht, h60, hL⟩ := hS
  intro r
  induction r with
  | zero =>
    intro hr q N k X hC hN hb htu
    obtain ⟨over, X2, N2, q2, k2, ⟨r1, r2, r3, r4, r5, r6, r7, r8, r9⟩, p1, p2⟩ := hbody q N k X hC hN hb
    have hX2 : ∀ r, r < 6 → X2 (s + r) = B (s + r) := r4.2.1
    have href : ∀ D, RefX n m g c0 l t S N N2 X X2 over (fun Y JY => zexec (D + 2 * (dep + 1) + 9) 401 120 [some (.ref 143), some (.int (nI i)), some (.int (nI (236 + 9 * i))), some (.int 8), some (.int (nI (K - (0 + 1))))] [] (mk n m g Y JY)) := by
      intro D Y JY h h35
      obtain ⟨Y2, b1, b2, b3, b4⟩ := p2 D (nI (i + 1)) Y JY h h35
      have hda : zcall (D + 2 * dep + 10) 402 [.ref 143, .int (nI (i + 1)), .int (nI i1)] (mk n m g Y JY) = some (none, mk n m g Y2 (jy JY N N2)) := by
        rw [m_X12_doAll]
        simp only [e_X12_doAll_0, e_X12_doAll_1, Option.bind_some, Option.isSome_some, Option.toList, List.cons_append, List.nil_append, zclr_i, zclr_r, zclr_n, zfit_i, zfit_l, and_self, if_true, if_false]
        exact b1
      have hst := lo_step (v := 8) (K := K) (kk := K - (0 + 1)) hi (by omega) (by omega) h35 (by rw [h.rd (by omega)]; exact hc1) (by rw [h.rd (by omega)]; exact hc8) hda
      rw [show K - (0 + 1) + 1 = K by omega] at hst
      exact ⟨Y2, (show _ from hst).trans (lo_done hi (by omega) (by rw [b2.rd (by omega)]; exact hc1)), b2, b3, b4⟩
    cases over with
    | true =>
      refine ⟨true, X2, N2, q2, k2, ⟨r1, r2, by
        rw [show 1 + (dep + 1) = (1 + dep) + 1 from by omega, Nat.add_mul, Nat.one_mul]
        omega, r4, r5, r6, r7, fun z hz => r8 z (by omega), fun J y => ?_⟩, fun h => (by cases h), href⟩
      obtain ⟨y2, e2⟩ := r9 J y
      rw [if_pos rfl] at e2
      exact ⟨y2, by rw [if_pos rfl]; exact e2⟩
    | false =>
      have hlt := p1 (by omega) rfl
      have hk2 : k2 < 1500 := by
        have := bud (by omega : dep ≤ 3) hb r2 r4.2.2.2.1 r3
        omega
      refine ⟨false, X2, N2, q2, k2 + 1, ⟨r1, r2, cost3 r3 hlt, r4, r5, r6, r7, fun z hz => r8 z (by omega), fun J y => ?_⟩, fun _ => hlt, href⟩
      obtain ⟨y2, e2⟩ := r9 J y
      rw [if_neg (by decide)] at e2
      have he := it_end (n := n) (m := m) (g := g) (X := X2) (t := t) (x := x) (d := d) (y := y2) (J := jb J t N N2) (k := k2) (b0 := a) hl hsc hk2 hx1 h60 (by rw [show X2 s = B s from hX2 0 (by decide)]; exact hL) (by rw [hX2 1 (by decide)]; exact hoe) (by omega) (by rw [hX2 5 (by decide)]; exact hme)
      have hno : ¬ (X2 (s + 1) a = 24 ∧ 1 < X2 (l + 1) a) := fun h => by
        rw [r8 a (by omega), htu] at h
        exact absurd h.2 (by decide)
      rw [if_neg hno, if_neg hno] at he
      exact ⟨some 25, by rw [if_neg (by decide)]; exact e2.trans he⟩
  | succ r ih =>
    intro hr q N k X hC hN hb htu
    obtain ⟨over, X2, N2, q2, k2, ⟨r1, r2, r3, r4, r5, r6, r7, r8, r9⟩, p1, p2⟩ := hbody q N k X hC hN hb
    have hX2 : ∀ r, r < 6 → X2 (s + r) = B (s + r) := r4.2.1
    have hstep : ∀ D Y JY, LR c0 l t N S X Y → Y 143 35 = 0 → ∃ Y2, zexec (D + 2 * (dep + 1) + 9) 401 120 [some (.ref 143), some (.int (nI i)), some (.int (nI (236 + 9 * i))), some (.int 8), some (.int (nI (K - (r + 1 + 1))))] [] (mk n m g Y JY) = zexec (D + 2 * (dep + 1) + 9) 401 120 [some (.ref 143), some (.int (nI i)), some (.int (nI (236 + 9 * i))), some (.int 8), some (.int (nI (K - (r + 1))))] [] (mk n m g Y2 (jy JY N N2)) ∧ LR c0 l t N2 S X2 Y2 ∧ Y2 143 35 = bI over ∧ YF Y Y2 := by
      intro D Y JY h h35
      obtain ⟨Y2, b1, b2, b3, b4⟩ := p2 D (nI (i + 1)) Y JY h h35
      have hda : zcall (D + 2 * dep + 10) 402 [.ref 143, .int (nI (i + 1)), .int (nI i1)] (mk n m g Y JY) = some (none, mk n m g Y2 (jy JY N N2)) := by
        rw [m_X12_doAll]
        simp only [e_X12_doAll_0, e_X12_doAll_1, Option.bind_some, Option.isSome_some, Option.toList, List.cons_append, List.nil_append, zclr_i, zclr_r, zclr_n, zfit_i, zfit_l, and_self, if_true, if_false]
        exact b1
      have hst := lo_step (v := 8) (K := K) (kk := K - (r + 1 + 1)) hi (by omega) (by omega) h35 (by rw [h.rd (by omega)]; exact hc1) (by rw [h.rd (by omega)]; exact hc8) hda
      rw [show K - (r + 1 + 1) + 1 = K - (r + 1) by omega] at hst
      exact ⟨Y2, hst, b2, b3, b4⟩
    cases over with
    | true =>
      refine ⟨true, X2, N2, q2, k2, ⟨r1, r2, by
        rw [show 1 + (dep + 1) = (1 + dep) + 1 from by omega, Nat.add_mul, Nat.one_mul]
        omega, r4, r5, r6, r7, fun z hz => r8 z (by omega), fun J y => ?_⟩, fun h => (by cases h), fun D Y JY h h35 => ?_⟩
      · obtain ⟨y2, e2⟩ := r9 J y
        rw [if_pos rfl] at e2
        exact ⟨y2, by rw [if_pos rfl]; exact e2⟩
      · obtain ⟨Y2, b1, b2, b3, b4⟩ := hstep D Y JY h h35
        exact ⟨Y2, b1.trans (lo_over hi b3), b2, b3, b4⟩
    | false =>
      have hlt := p1 (by omega) rfl
      have hbd := bud (by omega : dep ≤ 3) hb r2 r4.2.2.2.1 r3
      have hbd2 := bud hdep hb r2 r4.2.2.2.1 (cost3 r3 hlt)
      have h1r : (1 : Int32) < nI (r + 1 + 1) := by
        have : nI 1 < nI (r + 1 + 1) := by
          rw [nI_ltq (by decide) (by omega)]
          omega
        exact this
      have htu2 : zu X2 (l + 1) a (nI (r + 1)) (l + 1) a = nI (r + 1) := by rw [zu_row, if_pos rfl]
      obtain ⟨over, X3, N3, q3, k3, ⟨s1, s2, s3, s4, s5, s6, s7, s8, s9⟩, o1, o2⟩ := ih (by omega) q2 N2 (k2 + 1) (zu X2 (l + 1) a (nI (r + 1))) (r4.turn hsc hl ht) (by omega) hbd2 htu2
      have hl2 : zu X2 (l + 1) a (nI (r + 1)) l = X2 l := zu_far _ _ _ (by omega)
      refine ⟨over, X3, N3, q3, k3, ⟨by omega, by omega, ?_, s4, (r5.wr1).trans s5, by rw [s6, hl2, r6], ?_, fun z hz => ?_, fun J y => ?_⟩, fun h => by have := o1 h; omega, fun D Y JY h h35 => ?_⟩
      · have e1 : (1 + (dep + 1)) * (q3 - q) = (1 + (dep + 1)) * (q2 - q) + (1 + (dep + 1)) * (q3 - q2) := by
          rw [← Nat.mul_add]
          congr 1
          omega
        have := cost3 r3 hlt
        omega
      · rcases s7 with h | h
        · rw [h, hl2]
          exact r7
        · exact .inr h
      · rw [s8 z hz, zu_row, if_neg (by omega), r8 z (by omega)]
      · obtain ⟨y2, e2⟩ := r9 J y
        rw [if_neg (by decide)] at e2
        have he := it_end (n := n) (m := m) (g := g) (X := X2) (t := t) (x := x) (d := d) (y := y2) (J := jb J t N N2) (k := k2) (b0 := a) hl hsc (by omega) hx1 h60 (by rw [show X2 s = B s from hX2 0 (by decide)]; exact hL) (by rw [hX2 1 (by decide)]; exact hoe) (by omega) (by rw [hX2 5 (by decide)]; exact hme)
        have hye : X2 (s + 1) a = 24 ∧ 1 < X2 (l + 1) a := ⟨by rw [hX2 1 (by decide)]; exact ho, by rw [r8 a (by omega), htu]; exact h1r⟩
        rw [if_pos hye, if_pos hye, r8 a (by omega), htu, nI_sub1 (by omega), show r + 1 + 1 - 1 = r + 1 by omega] at he
        obtain ⟨y3, e3⟩ := s9 (jb J t N N2) (some 25)
        rw [jb_jb r1 s1] at e3
        exact ⟨y3, e2.trans (he.trans e3)⟩
      · obtain ⟨Y2, b1, b2, b3, b4⟩ := hstep D Y JY h h35
        obtain ⟨Y3, d1, d2, d3, d4⟩ := o2 D Y2 (jy JY N N2) (b2.turn hl ht) b3
        rw [jy_jy r1 s1] at d1
        exact ⟨Y3, b1.trans d1, d2, d3, b4.trans d4⟩
/-- an empty loop of the reference -/
theorem lo_empty (hi : i + 1 ≤ 30) (hK : K ≤ 99) (h35 : Y 143 35 = 0) (hw : Y 148 (236 + 9 * i + 1) = nI K) (hw8 : Y 148 (236 + 9 * i + 8) = nI (i + 1)) : ∀ r, r ≤ K → zexec (d + 1) 401 120 [some (.ref 143), some (.int (nI i)), some (.int (nI (236 + 9 * i))), some (.int 8), some (.int (nI (K - r)))] [] (mk n m g Y JY) = some (none, mk n m g Y JY)
  | 0, _ => lo_done (by omega) (by omega) hw
  | r + 1, hr => by
    have hda : zcall d 402 [.ref 143, .int (nI (i + 1)), .int (nI (i + 1))] (mk n m g Y JY) = some (none, mk n m g Y JY) := by
      rw [m_X12_doAll]
      simp only [e_X12_doAll_0, e_X12_doAll_1, Option.bind_some, Option.isSome_some, Option.toList, List.cons_append, List.nil_append, zclr_i, zclr_r, zclr_n, zfit_i, zfit_l, and_self, if_true, if_false]
      exact da_done (by omega)
    have hst := lo_step (v := 8) (K := K) (kk := K - (r + 1)) (show i < 30 by omega) (by omega) (by omega) h35 hw hw8 hda
    rw [show K - (r + 1) + 1 = K - r by omega] at hst
    exact hst.trans (lo_empty hi hK h35 hw hw8 r (by omega))
theorem one_loop (hS : Scr B l t s L) (hC : CW B l t s q N S X) (hq : q < 300) (hdep : dep + 1 ≤ 3) (hb : k + 4 * (300 - q) ≤ 1200) (ha : a < L) (hi : i < 30) (hx1 : x1 < L) (hm : B (s + 5) a = nI x1) (ho : B (s + 1) a = 24) (hoe : B (s + 1) x1 = 25) (hme : B (s + 5) x1 = nI a) (hc : c0 (236 + 9 * i) = 8) (hc8 : c0 (236 + 9 * i + 8) = nI i1) (hK1 : 1 ≤ K) (hK : K ≤ 99) (hc1 : c0 (236 + 9 * i + 1) = nI K) (hBK : B (s + 2) a = nI K) (hax : a < x1) (hem : a + 1 = x1 → i + 1 = i1) (hbody : ∀ q' N' k' X', CW B l t s q' N' S X' → N ≤ N' → k' + 4 * (300 - q') ≤ 1200 → Run n m g B c0 l t s S x d dep (a + 1) x1 (i + 1) i1 q' N' k' X') : One n m g B c0 l t s S x d (dep + 1) a (x1 + 1) i q N k X := by
  have hS0 := hS
  obtain ⟨hsc, hl, ht, h60, hL⟩ := hS
  obtain ⟨lo, lo1⟩ := lif_out hl ht
  obtain ⟨X1, eX1⟩ : ∃ X1, X1 = zu X l 0 (nI (q + 1)) := ⟨_, rfl⟩
  have hX : ∀ r, r < 6 → X (s + r) = B (s + r) := hC.2.1
  have hxf : XF l t X X1 := by rw [eX1]; exact XF.rfl'.wr
  have hW1 : WT X1 t N S 2999 := by rw [eX1]; exact hC.1.far (fun i hi => zu_far _ _ _ (life_town hl ht hi).1)
  have hl1 : ∀ k, k ≠ 0 → X1 l k = X l k := fun k hk => by rw [eX1, zu_row, if_neg hk]
  have hl11 : X1 (l + 1) = X (l + 1) := by rw [eX1, zu_far _ _ _ (by omega)]
  have hC1 : CW B l t s (q + 1) N S X1 := hC.next hsc hl ht hxf hW1 (by rw [eX1, zu_row, if_pos rfl]) (by omega) (by rw [hl1 7 (by decide)]; exact hC.2.2.2.2)
  have hX1 : ∀ r, r < 6 → X1 (s + r) = B (s + r) := hC1.2.1
  have hs2 : X s 2 = nI L := by rw [show X s = B s from hX 0 (by decide)]; exact hL
  have hp : X (s + 1) a = 21 ∨ X (s + 1) a = 22 → ∃ p, p < 12 ∧ X (s + 2) a = nI p := by
    rw [hX 1 (by decide), ho]
    intro h
    rcases h with h | h <;> exact absurd h (by decide)
  obtain ⟨X2, eX2⟩ : ∃ X2, X2 = zu X1 (l + 1) a (nI K) := ⟨_, rfl⟩
  have hit : ∀ (a' : Nat), lIn X1 s t N a = nI a' → ∀ J y, hdX n m g l s t x d a k y X J = hdX n m g l s t x d a' (k + 1) (some (X (s + 1) a)) X2 J := by
    intro a' hin J y
    have := it_head (n := n) (m := m) (g := g) (x := x) (d := d) (y := y) (J := J) hl ht hsc hC.1.hN hC.1.h12 (show k < 1500 by omega) ha h60 hs2 (by rw [hX 1 (by decide), ho]; decide) (by rw [hX 1 (by decide), ho]; decide) hq hC.2.2.1 (by rw [hX 5 (by decide), hm]; exact nI_m1 (by omega)) hp eX1 (fun r hr => by rw [hX1 r hr, hX r hr]) hW1.hN hin
    rw [if_pos (by rw [hX 1 (by decide)]; exact ho), hX 2 (by decide), hBK, ← eX2] at this
    exact this
  have hC2 : CW B l t s (q + 1) N S X2 := by rw [eX2]; exact hC1.turn hsc hl ht
  have hxf2 : XF l t X X2 := by rw [eX2]; exact hxf.wr1
  have hl2 : ∀ k, k ≠ 0 → X2 l k = X l k := fun k hk => by rw [eX2, zu_far _ _ _ (by omega), hl1 k hk]
  have h24 : X1 (s + 1) a = 24 := by rw [hX1 1 (by decide)]; exact ho
  have hY : ∀ Y, LR c0 l t N S X Y → Y 143 35 = 0 → LR c0 l t N S X2 (zu Y 143 37 (nI (q + 1))) ∧ Y 143 37 = nI q ∧ Y 148 (236 + 9 * i) = 8 ∧ zu Y 143 37 (nI (q + 1)) 143 35 = 0 := fun Y h h35 => ⟨by rw [eX2, eX1]; exact (h.set hl ht (by omega) _).turn hl ht, by rw [h.2.2.2.1, hC.2.2.1], by rw [h.rd (by omega)]; exact hc, by rw [zu_row, if_neg (by decide)]; exact h35⟩
  by_cases hx : a + 1 = x1
  · have hin : lIn X1 s t N a = nI (x1 + 1) := by
      unfold lIn
      rw [if_pos h24, hX1 5 (by decide), hm, hx, if_pos rfl, nI_1]
    refine ⟨false, X2, N, q + 1, k + 1, ⟨Nat.le_refl N, by omega, ?_, hC2, hxf2, hl2 6 (by decide), .inl (hl2 5 (by decide)), fun z hz => by rw [eX2, zu_row, if_neg (by omega), hl11], fun J y => ⟨some (X (s + 1) a), by rw [if_neg (by decide), jb_id]; exact hit _ hin J y⟩⟩, fun _ => by omega, fun D Y JY h h35 => ?_⟩
    · have : q + 1 - q = 1 := by omega
      rw [this]
      omega
    · obtain ⟨y1, y2, y3, y5⟩ := hY Y h h35
      refine ⟨zu Y 143 37 (nI (q + 1)), ?_, y1, y5, YF.rfl'.wr (by decide) (by decide)⟩
      rw [jy_id]
      have he := lo_empty (n := n) (m := m) (g := g) (JY := JY) (d := D + 2 * (dep + 1) + 8) (show i + 1 ≤ 30 by omega) hK y5 (by rw [y1.rd (by omega)]; exact hc1) (by rw [y1.rd (by omega), hem hx]; exact hc8) K (Nat.le_refl K)
      rw [Nat.sub_self] at he
      exact (v_one_loop hi hq y2 y3 _).trans he
  · have hin : lIn X1 s t N a = nI (a + 1) := by
      unfold lIn
      rw [if_pos h24, hX1 5 (by decide), hm, if_neg (fun h => hx (nI_inj (by omega) (by omega) h).symm)]
    obtain ⟨K', rfl⟩ : ∃ K', K = K' + 1 := ⟨K - 1, by omega⟩
    obtain ⟨over, X3, N3, q3, k3, ⟨s1, s2, s3, s4, s5, s6, s7, s8, s9⟩, o1, o2⟩ := lp_pass (N0 := N) hS0 hdep ha hi hx1 (by omega) ho hoe hme hK hc1 hc8 hbody K' (Nat.le_refl _) (q + 1) N (k + 1) X2 hC2 (Nat.le_refl N) (by omega) (by rw [eX2, zu_row, if_pos rfl])
    refine ⟨over, X3, N3, q3, k3, ⟨s1, by omega, ?_, s4, hxf2.trans s5, by rw [s6, hl2 6 (by decide)], ?_, fun z hz => ?_, fun J y => ?_⟩, fun h => by have := o1 h; omega, fun D Y JY h h35 => ?_⟩
    · have e1 : (1 + (dep + 1)) * (q3 - q) = (1 + (dep + 1)) * 1 + (1 + (dep + 1)) * (q3 - (q + 1)) := by
        rw [← Nat.mul_add]
        congr 1
        omega
      omega
    · rcases s7 with h | h
      · exact .inl (by rw [h, hl2 5 (by decide)])
      · exact .inr h
    · rw [s8 z hz, eX2, zu_row, if_neg (by omega), hl11]
    · obtain ⟨y3, e3⟩ := s9 J (some (X (s + 1) a))
      exact ⟨y3, (hit _ hin J y).trans e3⟩
    · obtain ⟨y1, y2, y3, y5⟩ := hY Y h h35
      obtain ⟨Y3, d1, d2, d3, d4⟩ := o2 D (zu Y 143 37 (nI (q + 1))) JY y1 y5
      rw [Nat.sub_self] at d1
      exact ⟨Y3, (v_one_loop hi hq y2 y3 _).trans d1, d2, d3, YF.trans (YF.rfl'.wr (by decide) (by decide)) d4⟩
theorem blk_empty : ∀ f dep a i j, Blk B s c0 N0 S f dep a a i j → i = j
  | 0, _, _, _, _, h => h.2
  | f + 1, _, _, _, _, h => by
    rcases h with h | ⟨h1, _⟩ | ⟨d', h1, x, k, h2, h3, _⟩
    · exact h.2
    · omega
    · omega
theorem sim_op (h : Sim B s c0 N0 a i) : B (s + 1) a ≠ 25 ∧ (B (s + 1) a = 26 → c0 (236 + 9 * i) = 9) := by
  obtain ⟨_, _, h3⟩ := h
  rcases h3 with ⟨e1, _⟩ | ⟨e1, _⟩ | ⟨o, kk, hm, e1, _⟩ | ⟨e1, e2⟩ | ⟨e1, e2⟩
  · rw [e1]
    exact ⟨by decide, fun h => absurd h (by decide)⟩
  · rw [e1]
    exact ⟨by decide, fun h => absurd h (by decide)⟩
  · rw [e1]
    simp only [List.mem_cons, Prod.mk.injEq, List.not_mem_nil, or_false] at hm
    rcases hm with ⟨rfl, rfl⟩ | ⟨rfl, rfl⟩ | ⟨rfl, rfl⟩ | ⟨rfl, rfl⟩ <;> exact ⟨by decide, fun h => absurd h (by decide)⟩
  · rw [e1]
    exact ⟨by decide, fun h => absurd h (by decide)⟩
  · rw [e1]
    exact ⟨by decide, fun _ => e2⟩
theorem run_blk (hS : Scr B l t s L) : ∀ f dep a e i j, Blk B s c0 N0 S f dep a e i j → dep ≤ 3 → e ≤ L → j ≤ 30 → ∀ q N k X, CW B l t s q N S X → N0 ≤ N → k + 4 * (300 - q) ≤ 1200 → Run n m g B c0 l t s S x d dep a e i j q N k X
  | 0, dep, a, e, i, j, hb, _, _, hj, q, N, k, X, hC, _, _ => by
    obtain ⟨rfl, rfl⟩ := hb
    exact run_nil hC hj
  | f + 1, dep, a, e, i, j, hb, hdep, he, hj, q, N, k, X, hC, hN, hbu => by
    have hq3 := hC.2.2.2.1
    rcases hb with ⟨rfl, rfl⟩ | ⟨h1, h2, h3, h4⟩ | ⟨d', rfl, x1, kk, h2, h3, h4, h5, h6, h7, h8⟩
    · exact run_nil hC hj
    · obtain ⟨o25, o26⟩ := sim_op h3
      refine run_cons hdep hbu (show a < a + 1 by omega) (by omega) h2 hj h3.2.1 ?_ (fun q' N' k' X' hC' hN' hb' => run_blk hS f dep (a + 1) e (i + 1) j h4 hdep he hj q' N' k' X' hC' (by omega) hb')
      by_cases hq : q = 300
      · subst hq
        exact one_cut hS hC (by omega) (by omega) o25
      · by_cases h26 : B (s + 1) a = 26
        · exact one_stop hS hC (by omega) (by omega) (by omega) (by omega) h26 (o26 h26)
        · obtain ⟨_, ⟨kd, hkd, hc⟩, hA⟩ := sim_act (n := n) (m := m) (g := g) hS hC h3 hN (by omega) h26
          exact one_act hS hC (by omega) (by omega) (by omega) (by omega) o25 h26 h3.1 hkd hc hA
    · obtain ⟨m1, m2, m3, m4, m5⟩ := h6
      refine run_cons hdep hbu (show a < x1 + 1 by omega) (by omega) (show i < j by omega) hj m4 ?_ (fun q' N' k' X' hC' hN' hb' => run_blk hS f (d' + 1) (x1 + 1) e kk j h8 hdep he hj q' N' k' X' hC' (by omega) hb')
      have hbody : ∀ q' N' k' X', CW B l t s q' N' S X' → N ≤ N' → k' + 4 * (300 - q') ≤ 1200 → Run n m g B c0 l t s S x d d' (a + 1) x1 (i + 1) kk q' N' k' X' := fun q' N' k' X' hC' hN' hb' => run_blk hS f d' (a + 1) x1 (i + 1) kk h7 (by omega) (by omega) (by omega) q' N' k' X' hC' (by omega) hb'
      have o25 : B (s + 1) a ≠ 25 := by
        rcases m5 with ⟨e1, _⟩ | ⟨e1, _⟩ | ⟨e1, _⟩ | ⟨e1, _⟩ <;> rw [e1] <;> decide
      by_cases hq : q = 300
      · subst hq
        exact one_cut hS hC (by omega) (by omega) o25
      · rcases m5 with ⟨e1, e2, K, k1, k2, e3, e4⟩ | ⟨e1, e2, e3, e4⟩ | ⟨e1, e2, e3, e4⟩ | ⟨e1, e2, e3, e4, e5⟩
        · exact one_loop hS hC (by omega) hdep hbu (by omega) (by omega) (by omega) m1 e1 m2 m3 e2 m4 k1 k2 e4 e3 h2 (fun h => by subst h; exact blk_empty _ _ _ _ _ h7) hbody
        · exact one_when hS hC (by omega) hdep hbu (by omega) (by omega) (by omega) m1 m2 m3 e2 m4 (.inl ⟨e1, e3, e4⟩) hN h2 hbody
        · exact one_when hS hC (by omega) hdep hbu (by omega) (by omega) (by omega) m1 m2 m3 e2 m4 (.inr (.inl ⟨e1, e3, e4⟩)) hN h2 hbody
        · exact one_when hS hC (by omega) hdep hbu (by omega) (by omega) (by omega) m1 m2 m3 e2 m4 (.inr (.inr ⟨e1, e3, e4, e5⟩)) hN h2 hbody
end LQ
