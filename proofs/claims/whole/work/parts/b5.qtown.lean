/-! CALLS: town -/
section TN
variable {n m : Nat} {g : Nat → zC} {I : Nat → Nat → Int32} {J : Nat → Nat → Int64} {L T N S : Nat} {x : Int32}
set_option maxHeartbeats 4000000 in
theorem town_run {Y0 : Nat → Nat → Int32} {JY0 : Nat → Nat → Int64} (h : Inv I J N S) (hLT : L ≤ T) (hT9 : T ≤ 900) (e3 : I 3 5 = nI T) (e143 : I 143 8 = nI T) (hn : 158 ≤ n) (hy : ∀ a, 143 ≤ a → Y0 a = I a ∧ JY0 a = J a) : ∃ v g1 I1 J1 Y2 JY2 N' S', (∀ d, zcall (d + 30) 162 [.ref 3, .int (nI L)] (mk n m g I J) = some (some (.int v), mk (n + 1) (m + 3) g1 I1 J1)) ∧ (∀ (n2 m2 : Nat) (g2 : Nat → zC) (d : Nat), zcall (d + 30) 306 [.ref 143, .int (nI L)] (mk n2 m2 g2 Y0 JY0) = some (some (.int v), mk n2 m2 g2 Y2 JY2)) ∧ (∀ a, a < 143 → Y2 a = Y0 a ∧ JY2 a = JY0 a) ∧ (∀ a, 143 ≤ a → I1 a = I a ∧ J1 a = J a) ∧ (∀ a, a < 3 → g1 a = g a) ∧ Inv (mix I1 Y2) (mix J1 JY2) N' S' := by
  obtain ⟨Z0, eZ⟩ : ∃ Z0, Z0 = (zu (zu (Y0) 143 1 0) 143 0 0) := ⟨_, rfl⟩
  have z147 : Z0 147 = I 147 := by rw [eZ, zu_far _ _ _ (by decide), zu_far _ _ _ (by decide), (hy 147 (by decide)).1]
  obtain ⟨X1, JX1, Y1, JY1, a1, a2, a5, a6, t', X', JX', Y', JY', o1, o2, o3, o4⟩ := town_core (I := I) (J := J) (Y0 := Z0) (JY0 := JY0) (L := L) (by omega) (fun k hk => ⟨by rw [z147]; exact h.tape.1 k hk, h.tape.2.1 k hk⟩) h.rd.2.2
  -- the class's run up to its answer
  have hcl : ∀ v, TLc 0 t' 0 (clX (zu X1 3 5 0)) JX1 v X' JX' → ∀ d, zcall (d + 30) 162 [.ref 3, .int (nI L)] (mk n m g I J) = zexec (d + 30) 162 53 [some (.ref 3), some (.int (nI L))] [.int v] (mk (n + 1) (m + 3) (zup g n (tto t')) X' JX') := fun v hv d => by
    have hb := d_begin (n := n) (m := m) (g := g) (show L ≤ 900 by omega) a1 (d + 27)
    have hg0 : zup g n (.inr (8, zdef 8)) n = .inr (8, zdef 8) := zup_at
    have hg : zup g n (tto 0) n = tto 0 := zup_at
    have hi := t_init (n := n + 1) (m := m + 3) (I := zu X1 3 5 0) (J := JX1) hn hg0 (d + 29)
    rw [zup_zup] at hi
    have hra : zcall (d + 29) 121 [.ref n] (mk (n + 1) (m + 3) (zup g n (tto 0)) (zu X1 3 5 0) JX1) = some (some (.int v), mk (n + 1) (m + 3) (zup g n (tto t')) X' JX') := by
      have hv' := hv (n + 1) (m + 3) (zup g n (tto 0)) (d + 4) n hn hg
      rw [zup_zup] at hv'
      rw [m_X8_readAll]
      simp only [e_X8_readAll_0, e_X8_readAll_1, e_X8_readAll_4, e_X8_readAll_7, e_X8_readAll_8, c_T0 t33, g_tt_1 hn hg, t_clear t33, Option.bind_some, Option.isSome_some, Option.toList, List.cons_append, List.nil_append, zclr_i, zclr_r, zclr_n, zfit_i, zfit_l, and_self, if_true, if_false]
      exact hv'
    rw [m_X11_town]
    simp only [e_X11_town_0, e_X11_town_1, e_X11_town_4, e_X11_town_5, e_X11_town_6, e_X11_town_9, e_X11_town_12, e_X11_town_13, e_X11_town_14, e_X11_town_17, e_X11_town_18, e_X11_town_19, e_X11_town_22, e_X11_town_23, e_X11_town_26, e_X11_town_27, e_X11_town_30, e_X11_town_31, e_X11_town_32, e_X11_town_35, e_X11_town_38, e_X11_town_39, e_X11_town_40, e_X11_town_43, e_X11_town_44, e_X11_town_47, e_X11_town_50, c_13, g_3_4, g_3_5, g_3_6, g_3_8, p_3_5, e3, nI_neg (show L < 2 ^ 31 by omega), eq_true (show nI L ≤ nI T from nI_le hLT (by omega)), hb, mk_new hn, mk_1, zfN_8, hi, c_tt hn hg, hra, Option.bind_some, Option.isSome_some, Option.toList, List.cons_append, List.nil_append, zclr_i, zclr_r, zclr_n, zfit_i, zfit_l, and_self, if_true, if_false]
  -- the reference's
  have hrl : ∀ (n2 m2 : Nat) (g2 : Nat → zC) (d : Nat), zcall (d + 30) 306 [.ref 143, .int (nI L)] (mk n2 m2 g2 Y0 JY0) = zexec (d + 30) 306 64 [some (.ref 143), some (.int (nI L))] [] (mk n2 m2 g2 Y' JY') := fun n2 m2 g2 d => by
    have z8 : Z0 143 8 = nI T := by rw [eZ, zu_row, if_neg (by decide), zu_row, if_neg (by decide), (hy 143 (by decide)).1, e143]
    have hs : zcall (d + 29) 287 [.ref 143, .int (nI L), .int 900] (mk n2 m2 g2 Z0 JY0) = some (some (.int 1), mk n2 m2 g2 Y1 JY1) := v_starts (M := 900) hLT (by omega) z8 (by omega) (by decide) a2 (d + 27)
    have he : zcall (d + 29) 290 [.ref 143, .int 4] (mk n2 m2 g2 Y1 JY1) = some (none, mk n2 m2 g2 (zr Y1 148 (emp 2024 (Y1 148))) JY1) := v_empties (B := 4) (by decide) (d + 28)
    have ho := o2 n2 m2 g2 (d + 5) (some (.int (nI L)))
    rw [m_X12_town]
    simp only [e_X12_town_0, e_X12_town_1, e_X12_town_2, e_X12_town_5, e_X12_town_6, e_X12_town_7, e_X12_town_10, e_X12_town_11, e_X12_town_12, e_X12_town_15, e_X12_town_18, e_X12_town_21, e_X12_town_22, e_X12_town_23, e_X12_town_24, e_X12_town_25, e_X12_town_28, e_X12_town_29, e_X12_town_30, c_143, g_143_0, g_143_1, p_143_0, p_143_1, ← eZ, hs, show ((1 : Int32) = 0) = False by decide, he, g_143_25, p_143_25, Option.bind_some, Option.isSome_some, Option.toList, List.cons_append, List.nil_append, zclr_i, zclr_r, zclr_n, zfit_i, zfit_l, and_self, if_true, if_false]
    exact ho
  -- rows
  have hX : ∀ a, a ≠ 13 → a ≠ 3 → ¬ (33 ≤ a ∧ a < 50) → X' a = I a := fun a c1 c2 c3 => by
    rw [o3.1 a c1 c3, clX_far (by omega) (by omega), zu_far _ _ _ c2, a5.1 a c1]
    unfold bgX
    rw [zu_far _ _ _ c1, zu_far _ _ _ c1, zu_far _ _ _ c1, zu_far _ _ _ c1, zu_far _ _ _ c1]
  have hX3 : ∀ k, X' 3 k = if k = 5 then 0 else I 3 k := fun k => by
    rw [o3.1 3 (by decide) (by decide), clX_far (by decide) (by decide), zu_row, a5.1 3 (by decide)]
    unfold bgX
    rw [zu_far _ _ _ (by decide), zu_far _ _ _ (by decide), zu_far _ _ _ (by decide), zu_far _ _ _ (by decide), zu_far _ _ _ (by decide)]
  have hJX : ∀ a, a ≠ 13 → ¬ (33 ≤ a ∧ a < 50) → JX' a = J a := fun a c1 c3 => by rw [o3.2 a c1 c3, a5.2 a c1]
  have hY : ∀ a, a ≠ 143 → a ≠ 148 → Y' a = Y0 a := fun a c1 c2 => by
    rw [o4.1 a c1 c2, zu_far _ _ _ c1, zr_far _ _ c2, a6.1 a c1]
    unfold bgY
    rw [zu_far _ _ _ c1, zu_far _ _ _ c1, zu_far _ _ _ c1, zu_far _ _ _ c1, eZ, zu_far _ _ _ c1, zu_far _ _ _ c1]
  have hY1 : ∀ k, k < 12 → Y' 143 k = if k = 8 then 0 else if k = 9 then nI L else Z0 143 k := fun k hk => by
    rw [o4.2.1 k hk, zu_row, if_neg (by omega), zr_far _ _ (by decide), a6.2.1 k (by omega)]
    unfold bgY
    rw [zu_row, if_neg (by omega), zu_row, if_neg (by omega), zu_row, zu_row]
  have hY2 : ∀ k, 18 < k → k ≠ 25 → k ≠ 26 → Y' 143 k = I 143 k := fun k hk k1 k2 => by
    rw [o4.2.2.1 k hk k1 k2, zu_row, if_neg (by omega), zr_far _ _ (by decide), a6.2.1 k (by omega)]
    unfold bgY
    rw [zu_row, if_neg (by omega), zu_row, if_neg (by omega), zu_row, if_neg (by omega), zu_row, if_neg (by omega), eZ, zu_row, if_neg (by omega), zu_row, if_neg (by omega), (hy 143 (by decide)).1]
  have hY3 : ∀ j, j < 2024 → Y' 148 j = I 148 j := fun j hj => by
    rw [o4.2.2.2.1 j hj, zu_far _ _ _ (by decide), zr_same]
    unfold emp
    rw [if_neg (by omega), a6.1 148 (by decide)]
    unfold bgY
    rw [zu_far _ _ _ (by decide), zu_far _ _ _ (by decide), zu_far _ _ _ (by decide), zu_far _ _ _ (by decide), eZ, zu_far _ _ _ (by decide), zu_far _ _ _ (by decide), (hy 148 (by decide)).1]
  have hJY : ∀ a, a ≠ 143 → a ≠ 151 → JY' a = JY0 a := fun a c1 c2 => by rw [o4.2.2.2.2.1 a c1 c2, a6.2.2.1 a c1]
  have hJY1 : ∀ k, k ≠ 19 → JY' 143 k = J 143 k := fun k hk => by rw [o4.2.2.2.2.2.1 k hk, a6.2.2.2 k hk, (hy 143 (by decide)).2]
  have hJY2 : ∀ j, j < 72 → JY' 151 j = J 151 j := fun j hj => by rw [o4.2.2.2.2.2.2 j hj, a6.2.2.1 151 (by decide), (hy 151 (by decide)).2]
  have z0 : Z0 143 0 = 0 := by rw [eZ, zu_row, if_pos rfl]
  rcases o1 with ⟨c1, hB⟩ | ⟨c1, p', N', S', hT⟩
  · -- a fault
    refine ⟨-1, zup g n (tto t'), zu X' 3 0 10, JX', zu (zu (zu Y' 143 10 (Y' 143 12)) 143 11 (Y' 143 13)) 143 0 10, JY', N, S, fun d => ?_, fun n2 m2 g2 d => ?_, fun a ha => ⟨?_, hJY a (by omega) (by omega)⟩, fun a ha => ⟨?_, hJX a (by omega) (by omega)⟩, fun a ha => ?_, ?_⟩
    · rw [hcl 0 c1 d]
      simp only [e_X11_town_53, e_X11_town_56, e_X11_town_57, e_X11_town_59, e_X11_town_62, c_3, n_refuse, Option.bind_some, Option.isSome_some, Option.toList, List.cons_append, List.nil_append, zclr_i, zclr_r, zclr_n, zfit_i, zfit_l, and_self, if_true, if_false]
    · have hw : ∀ d, zcall (d + 1) 288 [.ref 143] (mk n2 m2 g2 Y' JY') = some (some (.int 0), mk n2 m2 g2 (zu (zu (zu Y' 143 10 (Y' 143 12)) 143 11 (Y' 143 13)) 143 0 10) JY') := fun d => by
        have q1 : zu Y' 143 10 (Y' 143 12) 143 12 = Y' 143 12 := by rw [zu_row, if_neg (by decide)]
        have q2 : zu Y' 143 10 (Y' 143 12) 143 13 = Y' 143 13 := by rw [zu_row, if_neg (by decide)]
        have q3 : zu (zu Y' 143 10 (Y' 143 12)) 143 11 (Y' 143 13) 143 12 = Y' 143 12 := by rw [zu_row, if_neg (by decide), q1]
        rw [m_X12_isWell]
        simp only [e_X12_isWell_0, e_X12_isWell_1, e_X12_isWell_2, e_X12_isWell_5, e_X12_isWell_8, e_X12_isWell_9, e_X12_isWell_10, e_X12_isWell_13, e_X12_isWell_16, e_X12_isWell_17, e_X12_isWell_20, e_X12_isWell_21, e_X12_isWell_24, e_X12_isWell_27, e_X12_isWell_28, e_X12_isWell_31, e_X12_isWell_34, e_X12_isWell_35, e_X12_isWell_37, e_X12_isWell_40, e_X12_isWell_43, e_X12_isWell_44, e_X12_isWell_47, e_X12_isWell_48, c_143, g_143_10, g_143_11, g_143_12, g_143_13, p_143_10, p_143_11, q1, q2, q3, hB.ne, v_no, zfit_b0, Option.bind_some, Option.isSome_some, Option.toList, List.cons_append, List.nil_append, zclr_i, zclr_r, zclr_n, zfit_i, zfit_l, and_self, if_true, if_false]
      rw [hrl n2 m2 g2 d]
      simp only [e_X12_town_64, e_X12_town_65, e_X12_town_68, e_X12_town_71, e_X12_town_72, e_X12_town_73, e_X12_town_74, e_X12_town_75, e_X12_town_76, e_X12_town_79, e_X12_town_80, e_X12_town_83, e_X12_town_84, e_X12_town_85, c_143, hw, Option.bind_some, Option.isSome_some, Option.toList, List.cons_append, List.nil_append, zclr_i, zclr_r, zclr_n, zfit_i, zfit_l, and_self, if_true, if_false]
    · rw [zu_far _ _ _ (by omega), zu_far _ _ _ (by omega), zu_far _ _ _ (by omega), hY a (by omega) (by omega)]
    · rw [zu_far _ _ _ (by omega), hX a (by omega) (by omega) (by omega)]
    · exact if_neg (by omega)
    · obtain ⟨K, eK⟩ : ∃ K, K = mix (zu X' 3 0 10) (zu (zu (zu Y' 143 10 (Y' 143 12)) 143 11 (Y' 143 13)) 143 0 10) := ⟨_, rfl⟩
      obtain ⟨JK, eJK⟩ : ∃ JK, JK = mix JX' JY' := ⟨_, rfl⟩
      have kl : ∀ a, a < 143 → a ≠ 3 → K a = X' a := fun a h1 h2 => by rw [eK, mix_l h1, zu_far _ _ _ h2]
      have k3 : ∀ k, K 3 k = if k = 0 then 10 else X' 3 k := fun k => by rw [eK, mix_l (by decide), zu_row]
      have kr : ∀ a, 143 < a → K a = Y' a := fun a h1 => by rw [eK, mix_r (by omega), zu_far _ _ _ (by omega), zu_far _ _ _ (by omega), zu_far _ _ _ (by omega)]
      have k143 : ∀ k, K 143 k = if k = 0 then 10 else if k = 11 then Y' 143 13 else if k = 10 then Y' 143 12 else Y' 143 k := fun k => by rw [eK, mix_r (by decide), zu_row, zu_row, zu_row]
      have jl : ∀ a, a < 143 → JK a = JX' a := fun a h1 => by rw [eJK, mix_l h1]
      have jr : ∀ a, 143 ≤ a → JK a = JY' a := fun a h1 => by rw [eJK, mix_r h1]
      rw [← eK, ← eJK]
      have kt : ∀ i, i < 17 → K (16 + i) = I (16 + i) := fun i hi => by rw [kl _ (by omega) (by omega), hX _ (by omega) (by omega) (by omega)]
      have c148 : ∀ j, j < 2024 → K 148 j = I 148 j := fun j hj => by rw [kr 148 (by decide), hY3 j hj]
      refine h.rdg (h.W.far kt) ((h.R.far kt).cells (h.W.far kt) (fun j hj => c148 j (by omega))) ?_ (h.cs.far (fun r hr => ?_) (fun j _ hj => c148 j (by omega))) ?_ (fun a ha => ?_) ?_ ?_ ?_ ?_ ?_ ?_ ?_ (fun j _ hj => c148 j hj) (fun a ha => ?_) ?_ (fun k hk => ?_) (fun j _ hj => ?_)
      · exact h.jw.cells h.W.h12 h.W.h6 (fun j hj => by rw [jr 151 (by decide), hJY2 j (by omega)]) (fun s _ => by rw [jl _ (by decide), hJX _ (by decide) (by decide)]) (fun p _ => by rw [jl _ (by decide), hJX _ (by decide) (by decide)])
      · rw [kl _ (by omega) (by omega), hX _ (by omega) (by omega) (by omega)]
      · rw [k3, if_pos rfl, k143, if_pos rfl]
      · by_cases hl : a < 143
        · rw [kl a hl (by omega), hX a (by omega) (by omega) (by omega)]
        · rw [kr a (by omega), hY a (by omega) (by omega), (hy a (by omega)).1]
      · rw [k3, if_neg (by decide), hX3, if_pos rfl]
      · rw [k3, if_neg (by decide), hX3, if_neg (by decide)]
      · rw [k143, if_neg (by decide), if_neg (by decide), if_neg (by decide), hY1 8 (by decide), if_pos rfl]
      · rw [k143, if_neg (by decide), if_neg (by decide), if_neg (by decide), hY2 24 (by decide) (by decide) (by decide)]
      · rw [k143, if_neg (by decide), if_neg (by decide), if_neg (by decide), hY2 34 (by decide) (by decide) (by decide)]
      · obtain ⟨kk, _, _, b1, b2, _⟩ := hB
        rw [kl 13 (by decide) (by decide), k143, if_neg (by decide), if_neg (by decide), if_pos rfl, b1, b2]
      · obtain ⟨kk, _, _, b1, b2, b3⟩ := hB
        rw [kl 13 (by decide) (by decide), k143, if_neg (by decide), if_pos rfl, b3]
      · by_cases hl : a < 143
        · rw [jl a hl, hJX a (by omega) (by omega)]
        · rw [jr a (by omega), hJY a (by omega) (by omega), (hy a (by omega)).2]
      · rw [jl 3 (by decide), hJX 3 (by decide) (by decide)]
      · rw [jr 143 (by decide), hJY1 k hk]
      · rw [jr 151 (by decide), hJY2 j hj]
  · -- a town
    have W1 := hT.W
    have hd : apart 33 16 := town_apart t33 t16 (by decide)
    have vN : nb Y' 1 = nI N' := (TQ.R hT).n1.trans W1.hN
    obtain ⟨I1, eI1⟩ : ∃ I1, I1 = zu (zu (zu (zu (tCopy 33 16 X') 50 0 0) 50 1 0) 50 2 0) 3 0 0 := ⟨_, rfl⟩
    obtain ⟨J1, eJ1⟩ : ∃ J1, J1 = cpS 33 16 4 12 (cpS 33 16 1 6 JX') := ⟨_, rfl⟩
    have tf : ∀ a, (∀ i, i < 17 → a ≠ 16 + i) → tCopy 33 16 X' a = X' a := fun a ha => tCopy_far ha
    have i1 : ∀ a, a ≠ 3 → a ≠ 50 → (∀ i, i < 17 → a ≠ 16 + i) → I1 a = X' a := fun a c1 c2 c3 => by rw [eI1, zu_far _ _ _ c1, zu_far _ _ _ c2, zu_far _ _ _ c2, zu_far _ _ _ c2, tf a c3]
    have i13 : ∀ k, I1 3 k = if k = 0 then 0 else X' 3 k := fun k => by rw [eI1, zu_row, zu_far _ _ _ (by decide), zu_far _ _ _ (by decide), zu_far _ _ _ (by decide), tf 3 (fun i _ => by omega)]
    have i16 : ∀ i, i < 17 → I1 (16 + i) = tCopy 33 16 X' (16 + i) := fun i hi => by rw [eI1, zu_far _ _ _ (by omega), zu_far _ _ _ (by omega), zu_far _ _ _ (by omega), zu_far _ _ _ (by omega)]
    have i50 : I1 50 0 = 0 := by rw [eI1, zu_far _ _ _ (by decide), zu_row, if_neg (by decide), zu_row, if_neg (by decide), zu_row, if_pos rfl]
    have j1 : ∀ a, a ≠ 17 → a ≠ 20 → J1 a = JX' a := fun a c1 c2 => by rw [eJ1, cpS_far _ c2, cpS_far _ c1]
    obtain ⟨Y2, eY2⟩ : ∃ Y2, Y2 = zr (zu (zu Y' 143 10 0) 143 11 (-1)) 148 (blkC (Y' 148) 506 4 0) := ⟨_, rfl⟩
    obtain ⟨JY2, eJY2⟩ : ∃ JY2, JY2 = zr JY' 151 (blkC (JY' 151) 18 4 0) := ⟨_, rfl⟩
    have y2 : ∀ a, a ≠ 143 → a ≠ 148 → Y2 a = Y' a := fun a c1 c2 => by rw [eY2, zr_far _ _ c2, zu_far _ _ _ c1, zu_far _ _ _ c1]
    have y2c : Y2 148 = blkC (Y' 148) 506 4 0 := by rw [eY2, zr_same]
    have y2f : ∀ k, Y2 143 k = if k = 11 then -1 else if k = 10 then 0 else Y' 143 k := fun k => by rw [eY2, zr_far _ _ (by decide), zu_row, zu_row]
    have jy2 : ∀ a, a ≠ 151 → JY2 a = JY' a := fun a c1 => by rw [eJY2, zr_far _ _ c1]
    have jy2w : JY2 151 = blkC (JY' 151) 18 4 0 := by rw [eJY2, zr_same]
    have bn : ∀ j, j < 506 → blkC (Y' 148) 506 4 0 j = nb Y' j := fun j hj => by
      unfold blkC nb
      rw [if_pos (by omega)]
      exact congrArg (Y' 148) (by omega)
    have bo : ∀ j, 506 ≤ j → blkC (Y' 148) 506 4 0 j = Y' 148 j := fun j hj => by
      unfold blkC
      rw [if_neg (by omega)]
    have wn : ∀ j, j < 18 → blkC (JY' 151) 18 4 0 j = nw JY' j := fun j hj => by
      unfold blkC nw
      rw [if_pos (by omega)]
      exact congrArg (JY' 151) (by omega)
    have wo : ∀ j, 18 ≤ j → blkC (JY' 151) 18 4 0 j = JY' 151 j := fun j hj => by
      unfold blkC
      rw [if_neg (by omega)]
    refine ⟨nI N', zup g n (tto t'), I1, J1, Y2, JY2, N', S', fun d => ?_, fun n2 m2 g2 d => ?_, fun a ha => ⟨?_, ?_⟩, fun a ha => ⟨?_, ?_⟩, fun a ha => if_neg (by omega), ?_⟩
    · have pr : ∀ k, zu (zu (zu (tCopy 33 16 X') 50 0 0) 50 1 0) 50 2 0 16 k = tCopy 33 16 X' 16 k := fun k => by rw [zu_far _ _ _ (by decide), zu_far _ _ _ (by decide), zu_far _ _ _ (by decide)]
      have pN : tCopy 33 16 X' 16 4 = nI N' := (W1.copy hd).hN
      rw [hcl 1 c1 d, eI1, eJ1]
      simp only [e_X11_town_53, e_X11_town_56, e_X11_town_57, e_X11_town_59, e_X11_town_62, e_X11_town_63, e_X11_town_64, e_X11_town_67, e_X11_town_68, e_X11_town_71, e_X11_town_74, e_X11_town_75, e_X11_town_78, e_X11_town_81, e_X11_town_82, e_X11_town_83, e_X11_town_86, e_X11_town_89, e_X11_town_92, c_3, c_T0 t16, c_S0 s50, g_3_7, g_3_8, g_3_9, show ((1 : Int32) = 0) = False by decide, t_copyFrom t33 t16, s_clear s50, g_T0_4 t16, pr, pN, n_answer, Option.bind_some, Option.isSome_some, Option.toList, List.cons_append, List.nil_append, zclr_i, zclr_r, zclr_n, zfit_i, zfit_l, and_self, if_true, if_false]
    · have hb0 : Y' 143 12 = 0 := hT.rs.bad
      have hw : ∀ d, zcall d 288 [.ref 143] (mk n2 m2 g2 Y' JY') = some (some (.int 1), mk n2 m2 g2 (zu (zu Y' 143 10 0) 143 11 (-1)) JY') := fun d => by
        have q1 : zu Y' 143 10 0 143 12 = 0 := by rw [zu_row, if_neg (by decide), hb0]
        have q3 : zu (zu Y' 143 10 0) 143 11 (-1) 143 12 = 0 := by rw [zu_row, if_neg (by decide), q1]
        rw [m_X12_isWell]
        simp only [e_X12_isWell_0, e_X12_isWell_1, e_X12_isWell_2, e_X12_isWell_5, e_X12_isWell_8, e_X12_isWell_9, e_X12_isWell_10, e_X12_isWell_13, e_X12_isWell_16, e_X12_isWell_17, e_X12_isWell_20, e_X12_isWell_21, e_X12_isWell_24, e_X12_isWell_27, e_X12_isWell_28, e_X12_isWell_31, e_X12_isWell_34, e_X12_isWell_35, e_X12_isWell_37, e_X12_isWell_40, e_X12_isWell_43, e_X12_isWell_44, e_X12_isWell_47, e_X12_isWell_48, c_143, g_143_10, g_143_11, g_143_12, g_143_13, p_143_10, p_143_11, hb0, q1, q3, zfit_b1, Option.bind_some, Option.isSome_some, Option.toList, List.cons_append, List.nil_append, zclr_i, zclr_r, zclr_n, zfit_i, zfit_l, and_self, if_true, if_false]
      have hcp := v_copy (n := n2) (m := m2) (g := g2) (I := zu (zu Y' 143 10 0) 143 11 (-1)) (J := JY') (f := 4) (t := 0) (by decide) (by decide) (by decide) (d + 29)
      have h148 : zu (zu Y' 143 10 0) 143 11 (-1) 148 = Y' 148 := by rw [zu_far _ _ _ (by decide), zu_far _ _ _ (by decide)]
      rw [h148] at hcp
      have hcp2 : zcall (d + 29) 407 [.ref 143, .int 4, .int 0] (mk n2 m2 g2 (zu (zu Y' 143 10 0) 143 11 (-1)) JY') = _ := hcp
      have e1 : zr (zu (zu Y' 143 10 0) 143 11 (-1)) 148 (blkC (Y' 148) 506 4 0) 148 1 = nI N' := by rw [zr_same, bn 1 (by decide), vN]
      rw [hrl n2 m2 g2 d, eY2, eJY2]
      simp only [e_X12_town_64, e_X12_town_65, e_X12_town_68, e_X12_town_71, e_X12_town_72, e_X12_town_73, e_X12_town_74, e_X12_town_75, e_X12_town_76, e_X12_town_79, e_X12_town_80, e_X12_town_83, e_X12_town_84, e_X12_town_85, c_143, hw, show ((1 : Int32) = 0) = False by decide, hcp2, g_143_20, lc_1, e1, Option.bind_some, Option.isSome_some, Option.toList, List.cons_append, List.nil_append, zclr_i, zclr_r, zclr_n, zfit_i, zfit_l, and_self, if_true, if_false]
    · rw [y2 a (by omega) (by omega), hY a (by omega) (by omega)]
    · rw [jy2 a (by omega), hJY a (by omega) (by omega)]
    · rw [i1 a (by omega) (by omega) (fun i _ => by omega), hX a (by omega) (by omega) (by omega)]
    · rw [j1 a (by omega) (by omega), hJX a (by omega) (by omega)]
    · obtain ⟨K, eK⟩ : ∃ K, K = mix I1 Y2 := ⟨_, rfl⟩
      obtain ⟨JK, eJK⟩ : ∃ JK, JK = mix J1 JY2 := ⟨_, rfl⟩
      have kl : ∀ a, a < 143 → K a = I1 a := fun a h1 => by rw [eK, mix_l h1]
      have kr : ∀ a, 143 ≤ a → K a = Y2 a := fun a h1 => by rw [eK, mix_r h1]
      have jl : ∀ a, a < 143 → JK a = J1 a := fun a h1 => by rw [eJK, mix_l h1]
      have jr : ∀ a, 143 ≤ a → JK a = JY2 a := fun a h1 => by rw [eJK, mix_r h1]
      rw [← eK, ← eJK]
      have kt : ∀ i, i < 17 → K (16 + i) = tCopy 33 16 X' (16 + i) := fun i hi => by rw [kl _ (by omega), i16 i hi]
      have k148 : K 148 = blkC (Y' 148) 506 4 0 := by rw [kr 148 (by decide), y2c]
      have wn2 := (W1.copy hd).far kt
      refine h.rdg wn2 ?_ ?_ ?_ ?_ (fun a ha => ?_) ?_ ?_ ?_ ?_ ?_ ?_ ?_ (fun j h1 hj => ?_) (fun a ha => ?_) ?_ (fun k hk => ?_) (fun j h1 hj => ?_)
      · rw [k148]
        exact (((TQ.R hT).copy W1 hd).far kt).cells wn2 (fun j hj => bn j (by omega))
      · rw [jr 151 (by decide), jy2w]
        refine (TQ.jw hT).cells W1.h12 W1.h6 wn (fun s hs => ?_) (fun p hp => ?_)
        · have := W1.h6
          rw [jl _ (by decide), eJ1, cpS_far _ (by decide), cpS_at, cpR_lt (by omega)]
        · have := W1.h12
          rw [jl _ (by decide), eJ1, cpS_at, cpR_lt (by omega), cpS_far _ (by decide)]
      · have e : blkC (Y' 148) 506 4 0 234 = 0 := by rw [bn 234 (by decide)]; exact TQ.c0 hT
        refine ⟨?_, .inl ?_⟩
        · rw [kl 50 (by decide), i50, k148, e]
        · rw [k148, e]
      · rw [kl 3 (by decide), i13, if_pos rfl, kr 143 (by decide), y2f, if_neg (by decide), if_neg (by decide), hY1 0 (by decide), if_neg (by decide), if_neg (by decide), z0]
      · by_cases hl : a < 143
        · rw [kl a hl, i1 a (by omega) (by omega) (fun i _ => by omega), hX a (by omega) (by omega) (by omega)]
        · rw [kr a (by omega), y2 a (by omega) (by omega), hY a (by omega) (by omega), (hy a (by omega)).1]
      · rw [kl 3 (by decide), i13, if_neg (by decide), hX3, if_pos rfl]
      · rw [kl 3 (by decide), i13, if_neg (by decide), hX3, if_neg (by decide)]
      · rw [kr 143 (by decide), y2f, if_neg (by decide), if_neg (by decide), hY1 8 (by decide), if_pos rfl]
      · rw [kr 143 (by decide), y2f, if_neg (by decide), if_neg (by decide), hY2 24 (by decide) (by decide) (by decide)]
      · rw [kr 143 (by decide), y2f, if_neg (by decide), if_neg (by decide), hY2 34 (by decide) (by decide) (by decide)]
      · rw [kl 13 (by decide), i1 13 (by decide) (by decide) (fun i _ => by omega), hT.rs.2.2.2.2.1.1, kr 143 (by decide), y2f, if_neg (by decide), if_pos rfl]
      · rw [kl 13 (by decide), i1 13 (by decide) (by decide) (fun i _ => by omega), hT.rs.2.2.2.2.1.2, kr 143 (by decide), y2f, if_pos rfl]
      · rw [k148, bo j h1, hY3 j hj]
      · by_cases hl : a < 143
        · rw [jl a hl, j1 a (by omega) (by omega), hJX a (by omega) (by omega)]
        · rw [jr a (by omega), jy2 a (by omega), hJY a (by omega) (by omega), (hy a (by omega)).2]
      · rw [jl 3 (by decide), j1 3 (by decide) (by decide), hJX 3 (by decide) (by decide)]
      · rw [jr 143 (by decide), jy2 143 (by decide), hJY1 k hk]
      · rw [jr 151 (by decide), jy2w, wo j h1, hJY2 j hj]
theorem q_town (h : Inv I J N S) (hn : 158 ≤ n) (d : Nat) : Eqw (d + 30) 162 306 [.int x] n m g I J := by
  obtain ⟨_, _, T, hT9, e3, e143⟩ := h.tape
  rcases p_cases x (T + 1) with ⟨L, hL, rfl⟩ | hx
  · obtain ⟨v, g1, I1, J1, Y2, JY2, N', S', r1, _, _, r4, r5, _⟩ := town_run (n := n) (m := m) (g := g) (Y0 := I) (JY0 := J) (L := L) (T := T) h (by omega) hT9 e3 e143 hn (fun _ _ => ⟨rfl, rfl⟩)
    obtain ⟨v2, g2, I3, J3, Y4, JY4, N2, S2, s1, s2, s3, s4, s5, s6⟩ := town_run (n := n) (m := m) (g := g) (Y0 := I1) (JY0 := J1) (L := L) (T := T) h (by omega) hT9 e3 e143 hn r4
    have e := (r1 d).symm.trans (s1 d)
    have e2 := Option.some.inj e
    have ev : v = v2 := by
      have := congrArg Prod.fst e2
      have := Option.some.inj this
      injection this
    have em : mk (n + 1) (m + 3) g1 I1 J1 = mk (n + 1) (m + 3) g2 I3 J3 := congrArg Prod.snd e2
    refine ⟨.int v, mk (n + 1) (m + 3) g1 I1 J1, n + 1, m + 3, g1, mix I3 Y4, mix J3 JY4, N2, S2, r1 d, ?_, s6, by omega, by omega, by omega, r5, fun a ha => (show (if a < 3 then g1 a else _) = g1 a from if_pos ha).trans (r5 a ha), c_143⟩
    rw [ev, s2 (n + 1) (m + 3) g1 d, mk_mix em s3]
  · refine Eqv.w ?_
    have c1 : x < 0 ∨ nI T < x := by
      by_cases c : x < 0
      · exact .inl c
      · by_cases c2 : nI T < x
        · exact .inr c2
        · obtain ⟨k, _, k2, ek⟩ := nI_btw (lo := 0) (hi := T) (x := x) (Int32.not_lt.mp c) (Int32.not_lt.mp c2) (by decide) (by omega)
          exact absurd ek (hx k (by omega))
    refine ⟨.int (-1), zu I 3 0 5, J, st 5 I, J, N, S, ?_, ?_, h.stI⟩
    · rw [m_X11_town]
      by_cases c : x < 0
      · simp only [e_X11_town_0, e_X11_town_1, e_X11_town_4, e_X11_town_5, e_X11_town_6, e_X11_town_9, e_X11_town_12, e_X11_town_13, e_X11_town_14, e_X11_town_17, c_3, g_3_5, c, n_refuse, Option.bind_some, Option.isSome_some, Option.toList, List.cons_append, List.nil_append, zclr_i, zclr_r, zclr_n, zfit_i, zfit_l, and_self, if_true, if_false]
      · have c2 := c1.resolve_left c
        simp only [e_X11_town_0, e_X11_town_1, e_X11_town_4, e_X11_town_5, e_X11_town_6, e_X11_town_9, e_X11_town_12, e_X11_town_13, e_X11_town_14, e_X11_town_17, c_3, g_3_5, c, e3, eq_false (Int32.not_le.mpr c2), n_refuse, Option.bind_some, Option.isSome_some, Option.toList, List.cons_append, List.nil_append, zclr_i, zclr_r, zclr_n, zfit_i, zfit_l, and_self, if_true, if_false]
    · have c8 : (zu (zu (zu I 3 0 5) 143 1 0) 143 0 0) 143 8 = nI T := e143
      have hs : zcall (d + 29) 287 [.ref 143, .int x, .int 900] (mk n m g (zu (zu (zu I 3 0 5) 143 1 0) 143 0 0) J) = some (some (.int 0), mk n m g (zu (zu (zu (zu I 3 0 5) 143 1 0) 143 0 0) 143 0 5) J) := by
        rw [m_X12_starts]
        by_cases c : x < 0
        · simp only [e_X12_starts_0, e_X12_starts_1, e_X12_starts_4, e_X12_starts_5, e_X12_starts_6, e_X12_starts_9, e_X12_starts_12, e_X12_starts_13, e_X12_starts_14, e_X12_starts_17, e_X12_starts_18, e_X12_starts_19, e_X12_starts_22, e_X12_starts_23, e_X12_starts_24, e_X12_starts_25, e_X12_starts_28, e_X12_starts_29, e_X12_starts_30, e_X12_starts_33, e_X12_starts_34, e_X12_starts_35, e_X12_starts_38, e_X12_starts_39, e_X12_starts_40, e_X12_starts_43, e_X12_starts_44, e_X12_starts_47, e_X12_starts_48, c_143, g_143_8, c8, c, v_no, zfit_b0, Option.bind_some, Option.isSome_some, Option.toList, List.cons_append, List.nil_append, zclr_i, zclr_r, zclr_n, zfit_i, zfit_l, and_self, if_true, if_false]
        · have c2 := c1.resolve_left c
          simp only [e_X12_starts_0, e_X12_starts_1, e_X12_starts_4, e_X12_starts_5, e_X12_starts_6, e_X12_starts_9, e_X12_starts_12, e_X12_starts_13, e_X12_starts_14, e_X12_starts_17, e_X12_starts_18, e_X12_starts_19, e_X12_starts_22, e_X12_starts_23, e_X12_starts_24, e_X12_starts_25, e_X12_starts_28, e_X12_starts_29, e_X12_starts_30, e_X12_starts_33, e_X12_starts_34, e_X12_starts_35, e_X12_starts_38, e_X12_starts_39, e_X12_starts_40, e_X12_starts_43, e_X12_starts_44, e_X12_starts_47, e_X12_starts_48, c_143, g_143_8, c8, c, c2, v_no, zfit_b0, Option.bind_some, Option.isSome_some, Option.toList, List.cons_append, List.nil_append, zclr_i, zclr_r, zclr_n, zfit_i, zfit_l, and_self, if_true, if_false]
      rw [m_X12_town]
      simp only [e_X12_town_0, e_X12_town_1, e_X12_town_2, e_X12_town_5, e_X12_town_6, e_X12_town_7, e_X12_town_10, e_X12_town_11, e_X12_town_12, e_X12_town_15, e_X12_town_18, e_X12_town_21, e_X12_town_22, c_143, g_143_0, g_143_1, p_143_0, p_143_1, hs, st_eq, Option.bind_some, Option.isSome_some, Option.toList, List.cons_append, List.nil_append, zclr_i, zclr_r, zclr_n, zfit_i, zfit_l, and_self, if_true, if_false]
end TN
