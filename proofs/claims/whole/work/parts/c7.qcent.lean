/-! CALLS: centuries -/
section CH
variable {n m : Nat} {g : Nat → zC} {I X X' Y : Nat → Nat → Int32} {J JY : Nat → Nat → Int64} {L T N S s s' : Nat} {x : Int32} {c c' : Nat → Int32}
abbrev ST5 (w : Int32) (I : Nat → Nat → Int32) : Nat → Nat → Int32 := st w I
variable {st : Nat}
theorem blk_mv {b0 e0 i0 j0 : Nat} (hx : ∀ r l, 1 ≤ r → r ≤ 5 → b0 ≤ l → l < e0 → X' (s' + r) l = X (s + r) l) (hc : ∀ j, 236 + 9 * i0 ≤ j → j < 236 + 9 * j0 → c' j = c j) : ∀ F d b e i j, b0 ≤ b → e ≤ e0 → i0 ≤ i → j ≤ j0 → Blk X s c N S F d b e i j → Blk X' s' c' N S F d b e i j
  | 0, d, b, e, i, j, _, _, _, _, hb => hb
  | F + 1, d, b, e, i, j, h1', h2', h3', h4', hb => by
    rcases hb with hb | ⟨h1, h2, h3, h4⟩ | ⟨d', h1, x, k, h2, h3, h4, h5, h6, h7, h8⟩
    · exact Or.inl hb
    · refine Or.inr (Or.inl ⟨h1, h2, ?_, blk_mv hx hc F d _ _ _ _ (by omega) h2' (by omega) h4' h4⟩)
      unfold Sim
      rw [hx 1 b (by decide) (by decide) h1' (by omega), hx 2 b (by decide) (by decide) h1' (by omega), hx 3 b (by decide) (by decide) h1' (by omega), hx 5 b (by decide) (by decide) h1' (by omega), hc _ (by omega) (by omega), hc _ (by omega) (by omega), hc _ (by omega) (by omega), hc _ (by omega) (by omega)]
      exact h3
    · refine Or.inr (Or.inr ⟨d', h1, x, k, h2, h3, h4, h5, ?_, blk_mv hx hc F d' _ _ _ _ (by omega) (by omega) (by omega) (by omega) h7, blk_mv hx hc F d _ _ _ _ (by omega) h2' (by omega) h4' h8⟩)
      unfold Hea
      rw [hx 1 b (by decide) (by decide) h1' (by omega), hx 2 b (by decide) (by decide) h1' (by omega), hx 3 b (by decide) (by decide) h1' (by omega), hx 4 b (by decide) (by decide) h1' (by omega), hx 5 b (by decide) (by decide) h1' (by omega), hx 1 x (by decide) (by decide) (by omega) (by omega), hx 5 x (by decide) (by decide) (by omega) (by omega), hc _ (by omega) (by omega), hc _ (by omega) (by omega), hc _ (by omega) (by omega), hc _ (by omega) (by omega), hc _ (by omega) (by omega), hc _ (by omega) (by omega)]
      exact h6
theorem zsteps {R : Type} (X : Nat → R) (K : Nat) (hs : ∀ k, k < K → X k = X (k + 1)) : ∀ f k, k + f = K → X k = X K
  | 0, k, h => by rw [show k = K by omega]
  | f + 1, k, h => (hs k (by omega)).trans (zsteps X K hs f (k + 1) (by omega))
/-- the steps, laid -/
def laid (c : Nat → Int32) (k : Nat) : Nat → Int32 := fun j => if 236 ≤ j ∧ j < 236 + k then c (2024 + j) else c j
theorem laid_next {c : Nat → Int32} {k : Nat} (hk : k < 270) : fu (laid c k) (236 + k) (laid c k (2024 + (236 + k))) = laid c (k + 1) := by
  funext j
  have e : laid c k (2024 + (236 + k)) = c (2024 + (236 + k)) := if_neg (by omega)
  rw [e]
  unfold fu laid
  by_cases h : j = 236 + k
  · rw [if_pos h, if_pos (by omega), h]
  · rw [if_neg h]
    by_cases h2 : 236 ≤ j ∧ j < 236 + k
    · rw [if_pos h2, if_pos (by omega)]
    · rw [if_neg h2, if_neg (by omega)]
theorem cB_236 (k : Nat) : (2260 : Int32) + nI k = nI (2024 + (236 + k)) := cN 236 k
set_option maxHeartbeats 4000000 in
theorem cent_lay (hst : st ≤ 30) (h26 : Y 143 26 = nI st) (x2 : Option Value) (d : Nat) : zexec (d + 26) 310 59 [some (.ref 143), some (.int x), x2] [] (mk n m g Y JY) = some (some (.int (nI st)), mk n m g (zr Y 148 (laid (fu (fu (Y 148) 234 1) 235 (nI st)) (9 * st))) JY) := by
  have hz : mk n m g Y JY = mk n m g (zr Y 148 (Y 148)) JY := by rw [zr_id]
  have z26 : ∀ c, zr Y 148 c 143 26 = nI st := fun c => by rw [zr_far _ _ (by decide), h26]
  have e9 : (9 : Int32) * nI st = nI (9 * st) := by rw [show (9 : Int32) = nI 9 from rfl, pk_mul]
  have l0 : ∀ c : Nat → Int32, laid c 0 = c := fun c => by
    funext j
    exact if_neg (by omega)
  have hl := zsteps (fun k => zexec (d + 26) 310 82 [some (.ref 143), some (.int x), some (.int (nI k))] [] (mk n m g (zr Y 148 (laid (fu (fu (Y 148) 234 1) 235 (nI st)) k)) JY)) (9 * st) (fun k hk => by
    rw [e_X12_centuries_82, ← laid_next (c := fu (fu (Y 148) 234 1) 235 (nI st)) (show k < 270 by omega)]
    simp only [e_X12_centuries_83, e_X12_centuries_85, e_X12_centuries_86, e_X12_centuries_89, e_X12_centuries_90, e_X12_centuries_93, e_X12_centuries_94, e_X12_centuries_97, e_X12_centuries_100, e_X12_centuries_101, e_X12_centuries_102, e_X12_centuries_103, e_X12_centuries_106, e_X12_centuries_109, e_X12_centuries_110, e_X12_centuries_111, e_X12_centuries_112, e_X12_centuries_113, e_X12_centuries_116, g_143_20, g_143_26, z26, e9, if_neg (nI_ge hk (show 9 * st < 2 ^ 31 by omega)), cA_236, cB_236, nI_neg (show 236 + k < 2 ^ 31 by omega), nI_clamp (show 236 + k < 2 ^ 31 by omega), k_148 (show 236 + k < 2530 by omega), l_148 (show 236 + k < 2530 by omega), nI_neg (show 2024 + (236 + k) < 2 ^ 31 by omega), nI_clamp (show 2024 + (236 + k) < 2 ^ 31 by omega), k_148 (show 2024 + (236 + k) < 2530 by omega), l_148 (show 2024 + (236 + k) < 2530 by omega), zr_same, q_148, zr_put, nI_1, Option.bind_some, Option.isSome_some, Option.toList, List.cons_append, List.nil_append, zclr_i, zclr_r, zclr_n, zfit_i, zfit_l, and_self, if_true, if_false]) (9 * st) 0 (by omega)
  rw [l0] at hl
  rw [hz]
  simp only [e_X12_centuries_59, e_X12_centuries_60, e_X12_centuries_63, e_X12_centuries_66, e_X12_centuries_67, e_X12_centuries_68, e_X12_centuries_69, e_X12_centuries_72, e_X12_centuries_75, e_X12_centuries_76, e_X12_centuries_79, e_X12_centuries_80, e_X12_centuries_81, g_143_20, g_143_26, z26, show ((234 : Int32) < 0) = False by decide, show (234 : Int32).toNatClampNeg = 234 by decide, show ((235 : Int32) < 0) = False by decide, show (235 : Int32).toNatClampNeg = 235 by decide, k_148 (show 234 < 2530 by decide), k_148 (show 235 < 2530 by decide), q_148, zr_put, Option.bind_some, Option.isSome_some, Option.toList, List.cons_append, List.nil_append, zclr_i, zclr_r, zclr_n, zfit_i, zfit_l, and_self, if_true, if_false]
  refine hl.trans ?_
  rw [e_X12_centuries_82]
  simp only [e_X12_centuries_83, e_X12_centuries_85, e_X12_centuries_86, e_X12_centuries_89, e_X12_centuries_90, e_X12_centuries_93, e_X12_centuries_94, e_X12_centuries_97, e_X12_centuries_100, e_X12_centuries_101, e_X12_centuries_102, e_X12_centuries_103, e_X12_centuries_106, e_X12_centuries_109, e_X12_centuries_110, e_X12_centuries_111, e_X12_centuries_112, e_X12_centuries_113, e_X12_centuries_116, e_X12_centuries_119, e_X12_centuries_120, e_X12_centuries_123, g_143_26, z26, e9, if_pos (nI_le (Nat.le_refl (9 * st)) (show 9 * st < 2 ^ 31 by omega)), Option.bind_some, Option.isSome_some, Option.toList, List.cons_append, List.nil_append, zclr_i, zclr_r, zclr_n, zfit_i, zfit_l, and_self, if_true, if_false]
set_option maxHeartbeats 4000000 in
theorem cent_run {Y0 : Nat → Nat → Int32} {JY0 : Nat → Nat → Int64} (h : Inv I J N S) (hLT : L ≤ T) (hL3 : L ≤ 300) (hT9 : T ≤ 900) (e3 : I 3 5 = nI T) (e143 : I 143 8 = nI T) (hn : 158 ≤ n) (hy : ∀ a, 143 ≤ a → Y0 a = I a ∧ JY0 a = J a) : ∃ v g1 I1 J1 Y2 JY2 N' S', (∀ d, zcall (d + 30) 163 [.ref 3, .int (nI L)] (mk n m g I J) = some (some (.int v), mk (n + 2) (m + 8) g1 I1 J1)) ∧ (∀ (n2 m2 : Nat) (g2 : Nat → zC) (d : Nat), zcall (d + 30) 310 [.ref 143, .int (nI L)] (mk n2 m2 g2 Y0 JY0) = some (some (.int v), mk n2 m2 g2 Y2 JY2)) ∧ (∀ a, a < 143 → Y2 a = Y0 a ∧ JY2 a = JY0 a) ∧ (∀ a, 143 ≤ a → I1 a = I a ∧ J1 a = J a) ∧ (∀ a, a < 3 → g1 a = g a) ∧ Inv (mix I1 Y2) (mix J1 JY2) N' S' := by
  obtain ⟨Z0, eZ⟩ : ∃ Z0, Z0 = (zu (zu (Y0) 143 1 0) 143 0 0) := ⟨_, rfl⟩
  have zf : ∀ a, 143 < a → Z0 a = I a := fun a ha => by rw [eZ, zu_far _ _ _ (by omega), zu_far _ _ _ (by omega), (hy a (by omega)).1]
  obtain ⟨X1, JX1, Y1, JY1, a1, a2, a5, a6, X', JX', Y', JY', o3, o4, o2, o1⟩ := cent_core (I := I) (J := J) (Y0 := Z0) (JY0 := JY0) (L := L) hL3 h.W h.jw (fun k hk => ⟨by rw [zf 147 (by decide)]; exact h.tape.1 k hk, h.tape.2.1 k hk⟩) h.rd.2.2 (by rw [zf 148 (by decide)]; exact h.R.n0.trans h.W.hS) (by rw [zf 148 (by decide)]; exact h.R.n1.trans h.W.hN) (hy 151 (by decide)).2
  -- the class's run up to its loop
  have hra : ∀ (d : Nat) (v : Int32) (dp : Nat) (f : Nat → Int32) (M : Nat → Nat → Int32) (JM : Nat → Nat → Int64), zexec (d + 29) 1 9 [some (.ref n), some (.int (nI 0)), none] [] (mk (n + 2) (m + 8) (GC g n 0 (fun _ => 0)) (clS (zu X1 3 5 0)) JX1) = some (some (.int v), mk (n + 2) (m + 8) (GC g n dp f) M JM) → zcall (d + 30) 163 [.ref 3, .int (nI L)] (mk n m g I J) = zexec (d + 30) 163 64 [some (.ref 3), some (.int (nI L))] [.int v] (mk (n + 2) (m + 8) (GC g n dp f) M JM) := fun d v dp f M JM hv => by
    have hb := d_begin (n := n) (m := m) (g := g) (show L ≤ 900 by omega) a1 (d + 27)
    have hi := ct_init (m := m) (g := g) (I := zu X1 3 5 0) (J := JX1) hn (d + 29)
    have hr : zcall (d + 29) 1 [.ref n] (mk (n + 2) (m + 8) (GC g n 0 (fun _ => 0)) (zu X1 3 5 0) JX1) = some (some (.int v), mk (n + 2) (m + 8) (GC g n dp f) M JM) := by
      rw [m_X0_readAll]
      simp only [e_X0_readAll_0, e_X0_readAll_1, e_X0_readAll_4, e_X0_readAll_7, e_X0_readAll_8, c_S0 s56, g_ct_2 hn, s_clear s56, Option.bind_some, Option.isSome_some, Option.toList, List.cons_append, List.nil_append, zclr_i, zclr_r, zclr_n, zfit_i, zfit_l, and_self, if_true, if_false]
      exact hv
    rw [m_X11_centuries]
    simp only [e_X11_centuries_0, e_X11_centuries_1, e_X11_centuries_4, e_X11_centuries_5, e_X11_centuries_6, e_X11_centuries_9, e_X11_centuries_12, e_X11_centuries_13, e_X11_centuries_16, e_X11_centuries_19, e_X11_centuries_20, e_X11_centuries_21, e_X11_centuries_24, e_X11_centuries_25, e_X11_centuries_26, e_X11_centuries_29, e_X11_centuries_30, e_X11_centuries_33, e_X11_centuries_34, e_X11_centuries_37, e_X11_centuries_38, e_X11_centuries_39, e_X11_centuries_42, e_X11_centuries_45, e_X11_centuries_46, e_X11_centuries_47, e_X11_centuries_50, e_X11_centuries_51, e_X11_centuries_54, e_X11_centuries_55, e_X11_centuries_58, e_X11_centuries_61, c_13, g_3_4, g_3_5, g_3_6, g_3_7, g_3_10, p_3_5, e3, nI_neg (show L < 2 ^ 31 by omega), eq_false (show ¬ nI T < nI L from Int32.not_lt.mpr (nI_le hLT (by omega))), eq_true (show nI L ≤ 300 from nI_le (b := 300) hL3 (by decide)), hb, mk_new hn, mk_1, zfN_0, hi, c_ct hn, hr, Option.bind_some, Option.isSome_some, Option.toList, List.cons_append, List.nil_append, zclr_i, zclr_r, zclr_n, zfit_i, zfit_l, and_self, if_true, if_false]
  -- the reference's
  have hrl : ∀ (n2 m2 : Nat) (g2 : Nat → zC) (d : Nat), zcall (d + 30) 310 [.ref 143, .int (nI L)] (mk n2 m2 g2 Y0 JY0) = zexec (d + 30) 310 50 [some (.ref 143), some (.int (nI L)), none] [] (mk n2 m2 g2 Y' JY') := fun n2 m2 g2 d => by
    have z8 : Z0 143 8 = nI T := by rw [eZ, zu_row, if_neg (by decide), zu_row, if_neg (by decide), (hy 143 (by decide)).1, e143]
    have hs : zcall (d + 29) 287 [.ref 143, .int (nI L), .int 300] (mk n2 m2 g2 Z0 JY0) = some (some (.int 1), mk n2 m2 g2 Y1 JY1) := v_starts (M := 300) hLT hL3 z8 (by omega) (by decide) a2 (d + 27)
    have ho := o2 n2 m2 g2 (d + 4) (some (.int (nI L))) none
    rw [m_X12_centuries]
    simp only [e_X12_centuries_0, e_X12_centuries_1, e_X12_centuries_2, e_X12_centuries_5, e_X12_centuries_6, e_X12_centuries_7, e_X12_centuries_10, e_X12_centuries_11, e_X12_centuries_12, e_X12_centuries_15, e_X12_centuries_18, e_X12_centuries_21, e_X12_centuries_22, e_X12_centuries_23, e_X12_centuries_24, e_X12_centuries_25, c_143, g_143_0, g_143_1, p_143_0, p_143_1, ← eZ, hs, show ((1 : Int32) = 0) = False by decide, g_143_26, p_143_26, Option.bind_some, Option.isSome_some, Option.toList, List.cons_append, List.nil_append, zclr_i, zclr_r, zclr_n, zfit_i, zfit_l, and_self, if_true, if_false]
    exact ho
  -- rows
  have hX : ∀ a, a ≠ 13 → a ≠ 3 → ¬ (56 ≤ a ∧ a < 62) → X' a = I a := fun a c1 c2 c3 => by
    rw [o3.1 a c1 c3, clS_far (by omega), zu_far _ _ _ c2, a5.1 a c1]
    unfold bgX
    rw [zu_far _ _ _ c1, zu_far _ _ _ c1, zu_far _ _ _ c1, zu_far _ _ _ c1, zu_far _ _ _ c1]
  have hX3 : ∀ k, X' 3 k = if k = 5 then 0 else I 3 k := fun k => by
    rw [o3.1 3 (by decide) (by decide), clS_far (by decide), zu_row, a5.1 3 (by decide)]
    unfold bgX
    rw [zu_far _ _ _ (by decide), zu_far _ _ _ (by decide), zu_far _ _ _ (by decide), zu_far _ _ _ (by decide), zu_far _ _ _ (by decide)]
  have hJX : ∀ a, a ≠ 13 → JX' a = J a := fun a c1 => by rw [o3.2 a c1, a5.2 a c1]
  have hY : ∀ a, a ≠ 143 → a ≠ 148 → Y' a = Y0 a := fun a c1 c2 => by
    rw [o4.1 a c1 c2, zu_far _ _ _ c1, a6.1 a c1]
    unfold bgY
    rw [zu_far _ _ _ c1, zu_far _ _ _ c1, zu_far _ _ _ c1, zu_far _ _ _ c1, eZ, zu_far _ _ _ c1, zu_far _ _ _ c1]
  have hY1 : ∀ k, k < 12 → Y' 143 k = if k = 8 then 0 else if k = 9 then nI L else Z0 143 k := fun k hk => by
    rw [o4.2.1 k hk, zu_row, if_neg (by omega), a6.2.1 k (by omega)]
    unfold bgY
    rw [zu_row, if_neg (by omega), zu_row, if_neg (by omega), zu_row, zu_row]
  have hY2 : ∀ k, 18 < k → k ≠ 25 → k ≠ 26 → Y' 143 k = I 143 k := fun k hk k1 k2 => by
    rw [o4.2.2.1 k hk k1 k2, zu_row, if_neg (by omega), a6.2.1 k (by omega)]
    unfold bgY
    rw [zu_row, if_neg (by omega), zu_row, if_neg (by omega), zu_row, if_neg (by omega), zu_row, if_neg (by omega), eZ, zu_row, if_neg (by omega), zu_row, if_neg (by omega), (hy 143 (by decide)).1]
  have hY3 : ∀ j, j < 2024 → Y' 148 j = I 148 j := fun j hj => by
    rw [o4.2.2.2.1 j hj, zu_far _ _ _ (by decide), a6.1 148 (by decide)]
    unfold bgY
    rw [zu_far _ _ _ (by decide), zu_far _ _ _ (by decide), zu_far _ _ _ (by decide), zu_far _ _ _ (by decide), zf 148 (by decide)]
  have hJY : ∀ a, a ≠ 143 → a ≠ 151 → JY' a = JY0 a := fun a c1 c2 => by rw [o4.2.2.2.2.1 a c1 c2, a6.2.2.1 a c1]
  have hJY1 : ∀ k, k ≠ 19 → JY' 143 k = J 143 k := fun k hk => by rw [o4.2.2.2.2.2.1 k hk, a6.2.2.2 k hk, (hy 143 (by decide)).2]
  have hJY2 : ∀ j, j < 72 → JY' 151 j = J 151 j := fun j hj => by rw [o4.2.2.2.2.2.2 j hj, a6.2.2.1 151 (by decide), (hy 151 (by decide)).2]
  have z0 : Z0 143 0 = 0 := by rw [eZ, zu_row, if_pos rfl]
  have gg : ∀ dp f a, a < 3 → GC g n dp f a = g a := fun dp f a ha => by
    unfold GC zup
    rw [if_neg (by omega), if_neg (by omega)]
  rcases o1 with ⟨hB, dpF, fF, hF⟩ | ⟨k', f', p', st, ln, he, h5, hk3, hC, _, _, _, bl⟩
  · -- a fault
    have jy151 : JY' 151 = JY' 151 := rfl
    refine ⟨-1, GC g n dpF fF, zu X' 3 0 10, JX', zu (zu (zu Y' 143 10 (Y' 143 12)) 143 11 (Y' 143 13)) 143 0 10, JY', N, S, fun d => ?_, fun n2 m2 g2 d => ?_, fun a ha => ⟨?_, hJY a (by omega) (by omega)⟩, fun a ha => ⟨?_, hJX a (by omega)⟩, gg dpF fF, ?_⟩
    · rw [hra d 0 dpF fF X' JX' (hF (n + 2) (m + 8) g (d + 4) n none hn)]
      simp only [e_X11_centuries_64, e_X11_centuries_67, e_X11_centuries_68, e_X11_centuries_70, e_X11_centuries_73, c_3, n_refuse, Option.bind_some, Option.isSome_some, Option.toList, List.cons_append, List.nil_append, zclr_i, zclr_r, zclr_n, zfit_i, zfit_l, and_self, if_true, if_false]
    · have hw : ∀ d, zcall (d + 1) 288 [.ref 143] (mk n2 m2 g2 Y' JY') = some (some (.int 0), mk n2 m2 g2 (zu (zu (zu Y' 143 10 (Y' 143 12)) 143 11 (Y' 143 13)) 143 0 10) JY') := fun d => by
        have q1 : zu Y' 143 10 (Y' 143 12) 143 12 = Y' 143 12 := by rw [zu_row, if_neg (by decide)]
        have q2 : zu Y' 143 10 (Y' 143 12) 143 13 = Y' 143 13 := by rw [zu_row, if_neg (by decide)]
        have q3 : zu (zu Y' 143 10 (Y' 143 12)) 143 11 (Y' 143 13) 143 12 = Y' 143 12 := by rw [zu_row, if_neg (by decide), q1]
        rw [m_X12_isWell]
        simp only [e_X12_isWell_0, e_X12_isWell_1, e_X12_isWell_2, e_X12_isWell_5, e_X12_isWell_8, e_X12_isWell_9, e_X12_isWell_10, e_X12_isWell_13, e_X12_isWell_16, e_X12_isWell_17, e_X12_isWell_20, e_X12_isWell_21, e_X12_isWell_24, e_X12_isWell_27, e_X12_isWell_28, e_X12_isWell_31, e_X12_isWell_34, e_X12_isWell_35, e_X12_isWell_37, e_X12_isWell_40, e_X12_isWell_43, e_X12_isWell_44, e_X12_isWell_47, e_X12_isWell_48, c_143, g_143_10, g_143_11, g_143_12, g_143_13, p_143_10, p_143_11, q1, q2, q3, hB.ne, v_no, zfit_b0, Option.bind_some, Option.isSome_some, Option.toList, List.cons_append, List.nil_append, zclr_i, zclr_r, zclr_n, zfit_i, zfit_l, and_self, if_true, if_false]
      rw [hrl n2 m2 g2 d]
      simp only [e_X12_centuries_50, e_X12_centuries_51, e_X12_centuries_54, e_X12_centuries_57, e_X12_centuries_58, c_143, hw, Option.bind_some, Option.isSome_some, Option.toList, List.cons_append, List.nil_append, zclr_i, zclr_r, zclr_n, zfit_i, zfit_l, and_self, if_true, if_false]
    · rw [zu_far _ _ _ (by omega), zu_far _ _ _ (by omega), zu_far _ _ _ (by omega), hY a (by omega) (by omega)]
    · rw [zu_far _ _ _ (by omega), hX a (by omega) (by omega) (by omega)]
    · obtain ⟨K, eK⟩ : ∃ K, K = mix (zu X' 3 0 10) (zu (zu (zu Y' 143 10 (Y' 143 12)) 143 11 (Y' 143 13)) 143 0 10) := ⟨_, rfl⟩
      obtain ⟨JK, eJK⟩ : ∃ JK, JK = mix JX' JY' := ⟨_, rfl⟩
      have kl : ∀ a, a < 143 → a ≠ 3 → K a = X' a := fun a h1 h2 => by rw [eK, mix_l h1, zu_far _ _ _ h2]
      have k3 : ∀ k, K 3 k = if k = 0 then 10 else X' 3 k := fun k => by rw [eK, mix_l (by decide), zu_row]
      have kr : ∀ a, 143 < a → K a = Y' a := fun a h1 => by rw [eK, mix_r (by omega), zu_far _ _ _ (by omega), zu_far _ _ _ (by omega), zu_far _ _ _ (by omega)]
      have k143 : ∀ k, K 143 k = if k = 0 then 10 else if k = 11 then Y' 143 13 else if k = 10 then Y' 143 12 else Y' 143 k := fun k => by rw [eK, mix_r (by decide), zu_row, zu_row, zu_row]
      have jl : ∀ a, a < 143 → JK a = JX' a := fun a h1 => by rw [eJK, mix_l h1]
      have jr : ∀ a, 143 ≤ a → JK a = JY' a := fun a h1 => by rw [eJK, mix_r h1]
      rw [← eK, ← eJK]
      have kt : ∀ i, i < 17 → K (16 + i) = I (16 + i) := fun i hi => by rw [kl _ (by omega) (by omega), hX _ (by omega) (by omega) (by omega)]
      have c148 : ∀ j, j < 2024 → K 148 j = I 148 j := fun j hj => by rw [kr 148 (by decide), hY3 j hj]
      refine h.rdg (h.W.far kt) ((h.R.far kt).cells (h.W.far kt) (fun j hj => c148 j (by omega))) ?_ (h.cs.far (fun r hr => ?_) (fun j _ hj => c148 j (by omega))) ?_ (fun a ha => ?_) ?_ ?_ ?_ ?_ ?_ ?_ ?_ (fun j _ hj => c148 j hj) (fun a ha => ?_) ?_ (fun k hk => ?_) (fun j _ hj => ?_)
      · exact h.jw.cells h.W.h12 h.W.h6 (fun j hj => by rw [jr 151 (by decide), hJY2 j (by omega)]) (fun s _ => by rw [jl _ (by decide), hJX _ (by decide)]) (fun p _ => by rw [jl _ (by decide), hJX _ (by decide)])
      · rw [kl _ (by omega) (by omega), hX _ (by omega) (by omega) (by omega)]
      · rw [k3, if_pos rfl, k143, if_pos rfl]
      · by_cases hl : a < 143
        · rw [kl a hl (by omega), hX a (by omega) (by omega) (by omega)]
        · rw [kr a (by omega), hY a (by omega) (by omega), (hy a (by omega)).1]
      · rw [k3, if_neg (by decide), hX3, if_pos rfl]
      · rw [k3, if_neg (by decide), hX3, if_neg (by decide)]
      · rw [k143, if_neg (by decide), if_neg (by decide), if_neg (by decide), hY1 8 (by decide), if_pos rfl]
      · rw [k143, if_neg (by decide), if_neg (by decide), if_neg (by decide), hY2 24 (by decide) (by decide) (by decide)]
      · rw [k143, if_neg (by decide), if_neg (by decide), if_neg (by decide), hY2 34 (by decide) (by decide) (by decide)]
      · obtain ⟨kk, _, _, b1, b2, _⟩ := hB
        rw [kl 13 (by decide) (by decide), k143, if_neg (by decide), if_neg (by decide), if_pos rfl, b1, b2]
      · obtain ⟨kk, _, _, b1, b2, b3⟩ := hB
        rw [kl 13 (by decide) (by decide), k143, if_neg (by decide), if_pos rfl, b3]
      · by_cases hl : a < 143
        · rw [jl a hl, hJX a (by omega)]
        · rw [jr a (by omega), hJY a (by omega) (by omega), (hy a (by omega)).2]
      · rw [jl 3 (by decide), hJX 3 (by decide)]
      · rw [jr 143 (by decide), hJY1 k hk]
      · rw [jr 151 (by decide), hJY2 j hj]
  · -- centuries
    have h30 := hC.h30
    have hln := hC.hln
    obtain ⟨X2, eX2⟩ : ∃ X2, X2 = zu X' 56 0 1 := ⟨_, rfl⟩
    have x2 : ∀ a, a ≠ 56 → X2 a = X' a := fun a ha => by rw [eX2, zu_far _ _ _ ha]
    have x256 : ∀ k, X2 56 k = if k = 0 then 1 else X' 56 k := fun k => by rw [eX2, zu_row]
    have hbo : zfit .boolean (.int (X2 56 0)) = true := by rw [x256, if_pos rfl]; rfl
    obtain ⟨I1, eI1⟩ : ∃ I1, I1 = zu (sCopy 56 50 X2) 3 0 0 := ⟨_, rfl⟩
    have i1 : ∀ a, a ≠ 3 → (∀ i, i < 6 → a ≠ 50 + i) → I1 a = X2 a := fun a c1 c2 => by rw [eI1, zu_far _ _ _ c1, sCopy_out c2]
    have i13 : ∀ k, I1 3 k = if k = 0 then 0 else X' 3 k := fun k => by rw [eI1, zu_row, sCopy_out (fun i _ => by omega), x2 3 (by decide)]
    obtain ⟨Y2, eY2⟩ : ∃ Y2, Y2 = zr (zu (zu Y' 143 10 0) 143 11 (-1)) 148 (laid (fu (fu (Y' 148) 234 1) 235 (nI st)) (9 * st)) := ⟨_, rfl⟩
    have y2 : ∀ a, a ≠ 143 → a ≠ 148 → Y2 a = Y' a := fun a c1 c2 => by rw [eY2, zr_far _ _ c2, zu_far _ _ _ c1, zu_far _ _ _ c1]
    have y2c : Y2 148 = laid (fu (fu (Y' 148) 234 1) 235 (nI st)) (9 * st) := by rw [eY2, zr_same]
    have y2f : ∀ k, Y2 143 k = if k = 11 then -1 else if k = 10 then 0 else Y' 143 k := fun k => by rw [eY2, zr_far _ _ (by decide), zu_row, zu_row]
    have clo : ∀ j, j < 234 → laid (fu (fu (Y' 148) 234 1) 235 (nI st)) (9 * st) j = Y' 148 j := fun j hj => by
      unfold laid
      rw [if_neg (by omega), fu_ne _ _ (by omega), fu_ne _ _ (by omega)]
    have chi : ∀ j, 506 ≤ j → laid (fu (fu (Y' 148) 234 1) 235 (nI st)) (9 * st) j = Y' 148 j := fun j hj => by
      unfold laid
      rw [if_neg (by omega), fu_ne _ _ (by omega), fu_ne _ _ (by omega)]
    refine ⟨nI st, GC g n 0 f', I1, JX', Y2, JY', N, S, fun d => ?_, fun n2 m2 g2 d => ?_, fun a ha => ⟨?_, hJY a (by omega) (by omega)⟩, fun a ha => ⟨?_, hJX a (by omega)⟩, gg 0 f', ?_⟩
    · obtain ⟨x', ex⟩ := he (n + 2) (m + 8) g (d + 4) n none hn
      have hv : zexec (d + 29) 1 9 [some (.ref n), some (.int (nI 0)), none] [] (mk (n + 2) (m + 8) (GC g n 0 (fun _ => 0)) (clS (zu X1 3 5 0)) JX1) = some (some (.int 1), mk (n + 2) (m + 8) (GC g n 0 f') X2 JX') := by
        refine ex.trans ?_
        rw [eX2]
        simp only [e_X0_readAll_9, e_X0_readAll_10, e_X0_readAll_13, e_X0_readAll_16, e_X0_readAll_17, e_X0_readAll_20, e_X0_readAll_23, e_X0_readAll_26, e_X0_readAll_27, e_X0_readAll_30, e_X0_readAll_33, e_X0_readAll_35, e_X0_readAll_38, e_X0_readAll_39, e_X0_readAll_42, e_X0_readAll_45, e_X0_readAll_46, e_X0_readAll_47, e_X0_readAll_50, e_X0_readAll_53, e_X0_readAll_56, e_X0_readAll_57, e_X0_readAll_58, e_X0_readAll_61, e_X0_readAll_62, e_X0_readAll_65, e_X0_readAll_68, e_X0_readAll_71, e_X0_readAll_72, e_X0_readAll_73, e_X0_readAll_76, e_X0_readAll_79, e_X0_readAll_80, e_X0_readAll_83, e_X0_readAll_86, e_X0_readAll_87, e_X0_readAll_90, e_X0_readAll_93, e_X0_readAll_94, e_X0_readAll_95, e_X0_readAll_98, e_X0_readAll_99, e_X0_readAll_102, e_X0_readAll_103, c_13, g_ct_0 hn, g_ct_2 hn, g_ct_4 hn, k300 hk3, d_atEnd, h5, decide_true, bI, if_true, show ((1 : Int32) = 0) = False by decide, show (nI 0 ≤ (0 : Int32)) = True by decide, g_S0_0 s56, p_S0_0 s56, zfit_b1, Option.bind_some, Option.isSome_some, Option.toList, List.cons_append, List.nil_append, zclr_i, zclr_r, zclr_n, zfit_i, zfit_l, and_self, if_true, if_false]
      have s51 : sCopy 56 50 X2 50 1 = nI st := by rw [sCopy_0 (by omega) (by decide), x256, if_neg (by decide)]; exact hC.xs
      rw [hra d 1 0 f' X2 JX' hv, eI1]
      simp only [e_X11_centuries_64, e_X11_centuries_67, e_X11_centuries_68, e_X11_centuries_70, e_X11_centuries_73, e_X11_centuries_74, e_X11_centuries_75, e_X11_centuries_78, e_X11_centuries_79, e_X11_centuries_82, e_X11_centuries_85, e_X11_centuries_86, e_X11_centuries_87, e_X11_centuries_90, e_X11_centuries_93, e_X11_centuries_96, c_3, c_S0 s50, g_3_9, g_3_10, show ((1 : Int32) = 0) = False by decide, s_copyFrom s56 s50 hbo, g_S0_1 s50, s51, n_answer, Option.bind_some, Option.isSome_some, Option.toList, List.cons_append, List.nil_append, zclr_i, zclr_r, zclr_n, zfit_i, zfit_l, and_self, if_true, if_false]
    · have hb0 : Y' 143 12 = 0 := hC.rs.bad
      have hw : ∀ d, zcall d 288 [.ref 143] (mk n2 m2 g2 Y' JY') = some (some (.int 1), mk n2 m2 g2 (zu (zu Y' 143 10 0) 143 11 (-1)) JY') := fun d => by
        have q1 : zu Y' 143 10 0 143 12 = 0 := by rw [zu_row, if_neg (by decide), hb0]
        have q3 : zu (zu Y' 143 10 0) 143 11 (-1) 143 12 = 0 := by rw [zu_row, if_neg (by decide), q1]
        rw [m_X12_isWell]
        simp only [e_X12_isWell_0, e_X12_isWell_1, e_X12_isWell_2, e_X12_isWell_5, e_X12_isWell_8, e_X12_isWell_9, e_X12_isWell_10, e_X12_isWell_13, e_X12_isWell_16, e_X12_isWell_17, e_X12_isWell_20, e_X12_isWell_21, e_X12_isWell_24, e_X12_isWell_27, e_X12_isWell_28, e_X12_isWell_31, e_X12_isWell_34, e_X12_isWell_35, e_X12_isWell_37, e_X12_isWell_40, e_X12_isWell_43, e_X12_isWell_44, e_X12_isWell_47, e_X12_isWell_48, c_143, g_143_10, g_143_11, g_143_12, g_143_13, p_143_10, p_143_11, hb0, q1, q3, zfit_b1, Option.bind_some, Option.isSome_some, Option.toList, List.cons_append, List.nil_append, zclr_i, zclr_r, zclr_n, zfit_i, zfit_l, and_self, if_true, if_false]
      have h148 : zu (zu Y' 143 10 0) 143 11 (-1) 148 = Y' 148 := by rw [zu_far _ _ _ (by decide), zu_far _ _ _ (by decide)]
      have h26 : zu (zu Y' 143 10 0) 143 11 (-1) 143 26 = nI st := by rw [zu_row, if_neg (by decide), zu_row, if_neg (by decide)]; exact hC.ys
      have hl := cent_lay (n := n2) (m := m2) (g := g2) (JY := JY') (x := nI L) h30 h26 none (d + 4)
      rw [h148] at hl
      rw [hrl n2 m2 g2 d, eY2]
      simp only [e_X12_centuries_50, e_X12_centuries_51, e_X12_centuries_54, e_X12_centuries_57, e_X12_centuries_58, c_143, hw, show ((1 : Int32) = 0) = False by decide, Option.bind_some, Option.isSome_some, Option.toList, List.cons_append, List.nil_append, zclr_i, zclr_r, zclr_n, zfit_i, zfit_l, and_self, if_true, if_false]
      exact hl
    · rw [y2 a (by omega) (by omega), hY a (by omega) (by omega)]
    · rw [i1 a (by omega) (fun i _ => by omega), x2 a (by omega), hX a (by omega) (by omega) (by omega)]
    · obtain ⟨K, eK⟩ : ∃ K, K = mix I1 Y2 := ⟨_, rfl⟩
      obtain ⟨JK, eJK⟩ : ∃ JK, JK = mix JX' JY' := ⟨_, rfl⟩
      have kl : ∀ a, a < 143 → K a = I1 a := fun a h1 => by rw [eK, mix_l h1]
      have kr : ∀ a, 143 ≤ a → K a = Y2 a := fun a h1 => by rw [eK, mix_r h1]
      have jl : ∀ a, a < 143 → JK a = JX' a := fun a h1 => by rw [eJK, mix_l h1]
      have jr : ∀ a, 143 ≤ a → JK a = JY' a := fun a h1 => by rw [eJK, mix_r h1]
      rw [← eK, ← eJK]
      have kt : ∀ i, i < 17 → K (16 + i) = I (16 + i) := fun i hi => by rw [kl _ (by omega), i1 _ (by omega) (fun i _ => by omega), x2 _ (by omega), hX _ (by omega) (by omega) (by omega)]
      have k148 : K 148 = laid (fu (fu (Y' 148) 234 1) 235 (nI st)) (9 * st) := by rw [kr 148 (by decide), y2c]
      refine h.rdg (h.W.far kt) ?_ ?_ ?_ ?_ (fun a ha => ?_) ?_ ?_ ?_ ?_ ?_ ?_ ?_ (fun j h1 hj => ?_) (fun a ha => ?_) ?_ (fun k hk => ?_) (fun j h1 hj => ?_)
      · rw [k148]
        exact (h.R.far kt).cells (h.W.far kt) (fun j hj => by rw [clo j hj, hY3 j (by omega)])
      · exact h.jw.cells h.W.h12 h.W.h6 (fun j hj => by rw [jr 151 (by decide), hJY2 j (by omega)]) (fun s _ => by rw [jl _ (by decide), hJX _ (by decide)]) (fun p _ => by rw [jl _ (by decide), hJX _ (by decide)])
      · have hcs : CS X2 56 (fun j => if j = 234 then 1 else if j = 235 then nI st else nb Y' j) N S := by
          refine ⟨by rw [x256]; rfl, .inr ⟨rfl, ln, st, by omega, h30, ?_, rfl, ?_, ?_⟩⟩
          · rw [x256, if_neg (by decide)]; exact hC.xs
          · rw [x256, if_neg (by decide)]; exact hC.xl
          · refine blk_in (b0 := 0) (e0 := ln) (i0 := 0) (j0 := st) (X := X') (c := nb Y') ?_ ?_ 60 3 0 ln 0 st (Nat.le_refl _) (Nat.le_refl _) (Nat.le_refl _) (Nat.le_refl _) (bl 60 (by omega))
            · exact fun r l r1 r5 _ _ => by rw [x2 _ (by omega)]
            · exact fun j j1 j2 => by rw [if_neg (by omega), if_neg (by omega)]
        obtain ⟨g0, g1⟩ := hcs
        rw [k148]
        refine ⟨?_, .inr ⟨?_, ln, st, by omega, h30, ?_, ?_, ?_, ?_⟩⟩
        · rw [kl 50 (by decide), eI1, zu_far _ _ _ (by decide), sCopy_0 (by omega) (by decide), x256, if_pos rfl]
          unfold laid
          rw [if_neg (by omega), fu_ne _ _ (by decide), fu_eq]
        · unfold laid
          rw [if_neg (by omega), fu_ne _ _ (by decide), fu_eq]
        · rw [kl 50 (by decide), eI1, zu_far _ _ _ (by decide), sCopy_0 (by omega) (by decide), x256, if_neg (by decide)]; exact hC.xs
        · unfold laid
          rw [if_neg (by omega), fu_eq]
        · rw [kl 50 (by decide), eI1, zu_far _ _ _ (by decide), sCopy_0 (by omega) (by decide), x256, if_neg (by decide)]; exact hC.xl
        · refine blk_mv (b0 := 0) (e0 := ln) (i0 := 0) (j0 := st) (X := X') (s := 56) (s' := 50) (c := nb Y') ?_ ?_ 60 3 0 ln 0 st (Nat.le_refl _) (Nat.le_refl _) (Nat.le_refl _) (Nat.le_refl _) (bl 60 (by omega))
          · intro r l r1 r5 _ hl
            rw [kl _ (by omega), eI1, zu_far _ _ _ (by omega), sCopy_r (by omega) r1 (by omega) (by omega), x2 _ (by omega)]
          · intro j j1 j2
            unfold laid nb
            rw [if_pos (by omega), fu_ne _ _ (by omega), fu_ne _ _ (by omega)]
      · rw [kl 3 (by decide), i13, if_pos rfl, kr 143 (by decide), y2f, if_neg (by decide), if_neg (by decide), hY1 0 (by decide), if_neg (by decide), if_neg (by decide), z0]
      · by_cases hl : a < 143
        · rw [kl a hl, i1 a (by omega) (fun i _ => by omega), x2 a (by omega), hX a (by omega) (by omega) (by omega)]
        · rw [kr a (by omega), y2 a (by omega) (by omega), hY a (by omega) (by omega), (hy a (by omega)).1]
      · rw [kl 3 (by decide), i13, if_neg (by decide), hX3, if_pos rfl]
      · rw [kl 3 (by decide), i13, if_neg (by decide), hX3, if_neg (by decide)]
      · rw [kr 143 (by decide), y2f, if_neg (by decide), if_neg (by decide), hY1 8 (by decide), if_pos rfl]
      · rw [kr 143 (by decide), y2f, if_neg (by decide), if_neg (by decide), hY2 24 (by decide) (by decide) (by decide)]
      · rw [kr 143 (by decide), y2f, if_neg (by decide), if_neg (by decide), hY2 34 (by decide) (by decide) (by decide)]
      · rw [kl 13 (by decide), i1 13 (by decide) (fun i _ => by omega), x2 13 (by decide), hC.rs.2.2.2.2.1.1, kr 143 (by decide), y2f, if_neg (by decide), if_pos rfl]
      · rw [kl 13 (by decide), i1 13 (by decide) (fun i _ => by omega), x2 13 (by decide), hC.rs.2.2.2.2.1.2, kr 143 (by decide), y2f, if_pos rfl]
      · rw [k148, chi j h1, hY3 j hj]
      · by_cases hl : a < 143
        · rw [jl a hl, hJX a (by omega)]
        · rw [jr a (by omega), hJY a (by omega) (by omega), (hy a (by omega)).2]
      · rw [jl 3 (by decide), hJX 3 (by decide)]
      · rw [jr 143 (by decide), hJY1 k hk]
      · rw [jr 151 (by decide), hJY2 j hj]
theorem q_centuries (h : Inv I J N S) (hn : 158 ≤ n) (d : Nat) : Eqw (d + 30) 163 310 [.int x] n m g I J := by
  obtain ⟨_, _, T, hT9, e3, e143⟩ := h.tape
  by_cases hx : ∃ L, L ≤ T ∧ L ≤ 300 ∧ x = nI L
  · obtain ⟨L, hL, hL3, rfl⟩ := hx
    obtain ⟨v, g1, I1, J1, Y2, JY2, N', S', r1, _, _, r4, r5, _⟩ := cent_run (n := n) (m := m) (g := g) (Y0 := I) (JY0 := J) (L := L) (T := T) h hL hL3 hT9 e3 e143 hn (fun _ _ => ⟨rfl, rfl⟩)
    obtain ⟨v2, g2, I3, J3, Y4, JY4, N2, S2, s1, s2, s3, s4, s5, s6⟩ := cent_run (n := n) (m := m) (g := g) (Y0 := I1) (JY0 := J1) (L := L) (T := T) h hL hL3 hT9 e3 e143 hn r4
    have e := (r1 d).symm.trans (s1 d)
    have e2 := Option.some.inj e
    have ev : v = v2 := by
      have := congrArg Prod.fst e2
      have := Option.some.inj this
      injection this
    have em : mk (n + 2) (m + 8) g1 I1 J1 = mk (n + 2) (m + 8) g2 I3 J3 := congrArg Prod.snd e2
    refine ⟨.int v, mk (n + 2) (m + 8) g1 I1 J1, n + 2, m + 8, g1, mix I3 Y4, mix J3 JY4, N2, S2, r1 d, ?_, s6, by omega, by omega, by omega, r5, fun a ha => (show (if a < 3 then g1 a else _) = g1 a from if_pos ha).trans (r5 a ha), c_143⟩
    rw [ev, s2 (n + 2) (m + 8) g1 d, mk_mix em s3]
  · refine Eqv.w ?_
    have c1 : x < 0 ∨ nI T < x ∨ ¬ x ≤ 300 := by
      by_cases c : x < 0
      · exact .inl c
      · by_cases c2 : nI T < x
        · exact .inr (.inl c2)
        · refine .inr (.inr (fun c3 => ?_))
          obtain ⟨k, _, k2, ek⟩ := nI_btw (lo := 0) (hi := T) (x := x) (Int32.not_lt.mp c) (Int32.not_lt.mp c2) (by decide) (by omega)
          obtain ⟨k', _, k2', ek'⟩ := nI_btw (lo := 0) (hi := 300) (x := x) (Int32.not_lt.mp c) c3 (by decide) (by decide)
          have : k = k' := nI_inj (by omega) (by omega) (ek.symm.trans ek')
          exact hx ⟨k, k2, by omega, ek⟩
    refine ⟨.int (-1), zu I 3 0 5, J, ST5 5 I, J, N, S, ?_, ?_, h.stI⟩
    · rw [m_X11_centuries]
      by_cases c : x < 0
      · simp only [e_X11_centuries_0, e_X11_centuries_1, e_X11_centuries_4, e_X11_centuries_5, e_X11_centuries_6, e_X11_centuries_9, e_X11_centuries_12, e_X11_centuries_13, e_X11_centuries_16, e_X11_centuries_19, e_X11_centuries_20, e_X11_centuries_21, e_X11_centuries_24, c_3, g_3_5, c, n_refuse, Option.bind_some, Option.isSome_some, Option.toList, List.cons_append, List.nil_append, zclr_i, zclr_r, zclr_n, zfit_i, zfit_l, and_self, if_true, if_false]
      · by_cases c2 : nI T < x
        · simp only [e_X11_centuries_0, e_X11_centuries_1, e_X11_centuries_4, e_X11_centuries_5, e_X11_centuries_6, e_X11_centuries_9, e_X11_centuries_12, e_X11_centuries_13, e_X11_centuries_16, e_X11_centuries_19, e_X11_centuries_20, e_X11_centuries_21, e_X11_centuries_24, c_3, g_3_5, c, e3, c2, n_refuse, Option.bind_some, Option.isSome_some, Option.toList, List.cons_append, List.nil_append, zclr_i, zclr_r, zclr_n, zfit_i, zfit_l, and_self, if_true, if_false]
        · have c3 := (c1.resolve_left c).resolve_left c2
          simp only [e_X11_centuries_0, e_X11_centuries_1, e_X11_centuries_4, e_X11_centuries_5, e_X11_centuries_6, e_X11_centuries_9, e_X11_centuries_12, e_X11_centuries_13, e_X11_centuries_16, e_X11_centuries_19, e_X11_centuries_20, e_X11_centuries_21, e_X11_centuries_24, c_3, g_3_5, c, e3, c2, c3, n_refuse, Option.bind_some, Option.isSome_some, Option.toList, List.cons_append, List.nil_append, zclr_i, zclr_r, zclr_n, zfit_i, zfit_l, and_self, if_true, if_false]
    · have c8 : (zu (zu (zu I 3 0 5) 143 1 0) 143 0 0) 143 8 = nI T := e143
      have hs : zcall (d + 29) 287 [.ref 143, .int x, .int 300] (mk n m g (zu (zu (zu I 3 0 5) 143 1 0) 143 0 0) J) = some (some (.int 0), mk n m g (zu (zu (zu (zu I 3 0 5) 143 1 0) 143 0 0) 143 0 5) J) := by
        rw [m_X12_starts]
        by_cases c : x < 0
        · simp only [e_X12_starts_0, e_X12_starts_1, e_X12_starts_4, e_X12_starts_5, e_X12_starts_6, e_X12_starts_9, e_X12_starts_12, e_X12_starts_13, e_X12_starts_14, e_X12_starts_17, e_X12_starts_18, e_X12_starts_19, e_X12_starts_22, e_X12_starts_23, e_X12_starts_24, e_X12_starts_25, e_X12_starts_28, e_X12_starts_29, e_X12_starts_30, e_X12_starts_33, e_X12_starts_34, e_X12_starts_35, e_X12_starts_38, e_X12_starts_39, e_X12_starts_40, e_X12_starts_43, e_X12_starts_44, e_X12_starts_47, e_X12_starts_48, c_143, g_143_8, c8, c, v_no, zfit_b0, Option.bind_some, Option.isSome_some, Option.toList, List.cons_append, List.nil_append, zclr_i, zclr_r, zclr_n, zfit_i, zfit_l, and_self, if_true, if_false]
        · by_cases c2 : nI T < x
          · simp only [e_X12_starts_0, e_X12_starts_1, e_X12_starts_4, e_X12_starts_5, e_X12_starts_6, e_X12_starts_9, e_X12_starts_12, e_X12_starts_13, e_X12_starts_14, e_X12_starts_17, e_X12_starts_18, e_X12_starts_19, e_X12_starts_22, e_X12_starts_23, e_X12_starts_24, e_X12_starts_25, e_X12_starts_28, e_X12_starts_29, e_X12_starts_30, e_X12_starts_33, e_X12_starts_34, e_X12_starts_35, e_X12_starts_38, e_X12_starts_39, e_X12_starts_40, e_X12_starts_43, e_X12_starts_44, e_X12_starts_47, e_X12_starts_48, c_143, g_143_8, c8, c, c2, v_no, zfit_b0, Option.bind_some, Option.isSome_some, Option.toList, List.cons_append, List.nil_append, zclr_i, zclr_r, zclr_n, zfit_i, zfit_l, and_self, if_true, if_false]
          · have c3 := (c1.resolve_left c).resolve_left c2
            simp only [e_X12_starts_0, e_X12_starts_1, e_X12_starts_4, e_X12_starts_5, e_X12_starts_6, e_X12_starts_9, e_X12_starts_12, e_X12_starts_13, e_X12_starts_14, e_X12_starts_17, e_X12_starts_18, e_X12_starts_19, e_X12_starts_22, e_X12_starts_23, e_X12_starts_24, e_X12_starts_25, e_X12_starts_28, e_X12_starts_29, e_X12_starts_30, e_X12_starts_33, e_X12_starts_34, e_X12_starts_35, e_X12_starts_38, e_X12_starts_39, e_X12_starts_40, e_X12_starts_43, e_X12_starts_44, e_X12_starts_47, e_X12_starts_48, c_143, g_143_8, c8, c, c2, c3, v_no, zfit_b0, Option.bind_some, Option.isSome_some, Option.toList, List.cons_append, List.nil_append, zclr_i, zclr_r, zclr_n, zfit_i, zfit_l, and_self, if_true, if_false]
      rw [m_X12_centuries]
      simp only [e_X12_centuries_0, e_X12_centuries_1, e_X12_centuries_2, e_X12_centuries_5, e_X12_centuries_6, e_X12_centuries_7, e_X12_centuries_10, e_X12_centuries_11, e_X12_centuries_12, e_X12_centuries_15, e_X12_centuries_18, e_X12_centuries_21, e_X12_centuries_22, c_143, g_143_0, g_143_1, p_143_0, p_143_1, hs, st_eq, Option.bind_some, Option.isSome_some, Option.toList, List.cons_append, List.nil_append, zclr_i, zclr_r, zclr_n, zfit_i, zfit_l, and_self, if_true, if_false]
end CH
