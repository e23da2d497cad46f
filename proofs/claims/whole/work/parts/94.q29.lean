/-! CALLS: mark, back -/
section RE
variable {n m : Nat} {g : Nat → zC} {I I2 A A' : Nat → Nat → Int32} {J J2 : Nat → Nat → Int64} {N S N2 S2 U b s s2 : Nat} {c c' : Nat → Int32}
theorem RT.cells (h : RT A b c N S) (hW : WT A b N S U) (hc : ∀ j, j < 234 → c' j = c j) : RT A b c' N S := by
  have hq := hW.hQ.2
  exact h.queue (fun _ _ _ _ _ => rfl) (fun j _ hj => hc j (by omega)) hW.h12 hW.h6 hW.pK6 (by rw [hc 5 (by decide)]; exact h.n5) (fun k hk => ⟨by rw [hc _ (by omega)]; exact h.who k hk, by rw [hc _ (by omega)]; exact h.want k hk⟩)
theorem JW.cells {w w' : Nat → Int64} (h : JW J b w N S) (h12 : N ≤ 12) (h6 : S ≤ 6) (hw : ∀ j, j < 18 → w' j = w j) (h1 : ∀ s, s < S → J2 (s2 + 1) s = J (b + 1) s) (h4 : ∀ p, p < N → J2 (s2 + 4) p = J (b + 4) p) : JW J2 s2 w' N S := by
  obtain ⟨a, b⟩ := h
  refine ⟨fun s hs => ?_, fun p hp => ?_⟩
  · rw [hw s (by omega), h1 s hs]
    exact a s hs
  · rw [hw (6 + p) (by omega), h4 p hp]
    exact b p hp
theorem Inv.mkI (h : Inv I J N S) (hW : WT I2 16 N2 S2 2999) (hR : RT I2 16 (I2 148) N2 S2) (hj : JW J2 16 (J2 151) N2 S2) (hcs : CS I2 50 (I2 148) N2 S2) (hm : marksOk I2 J2) (hst : I2 3 0 = I2 143 0) (hI : ∀ a, (a == 5 || a == 6 || a == 12 || a == 13 || a == 62 || a == 71 || a == 144 || a == 145 || a == 147 || a == 157) = true → I2 a = I a) (h3 : I2 3 5 = I 3 5) (h143 : ∀ k, k = 8 ∨ k = 10 ∨ k = 11 ∨ k = 34 → I2 143 k = I 143 k) (hJ : ∀ a, (a == 3 || a == 143 || a == 8 || a == 9 || a == 10 || a == 11 || a == 14 || a == 146) = true → J2 a = J a) : Inv I2 J2 N2 S2 := by
  refine ⟨hW, hR, hj, hcs, hst, ?_, ?_, ?_, ?_, ?_, ?_, hm⟩
  · rw [hJ 3 rfl, hJ 143 rfl]; exact h.tb
  · obtain ⟨a1, a2, a3⟩ := h.tray
    unfold trayOk yWellT
    rw [hI 5 rfl, hI 6 rfl, hI 144 rfl, hI 145 rfl, hJ 146 rfl]
    refine ⟨a1, a2, fun t k h1 h2 h4 => ?_⟩
    rw [hJ (8 + t) (by
      have : t = 0 ∨ t = 1 ∨ t = 2 ∨ t = 3 := by omega
      rcases this with rfl | rfl | rfl | rfl <;> rfl)]
    exact a3 t k h1 h2 h4
  · unfold tapeOk
    rw [hI 12 rfl, hI 147 rfl, h3, h143 8 (by decide)]
    exact h.tape
  · unfold readOk
    rw [hI 13 rfl, h143 10 (by decide), h143 11 (by decide), hJ 14 rfl]
    exact h.rd
  · unfold pointOk
    rw [hI 71 rfl]
    exact h.pt
  · unfold lifeOk
    rw [hI 62 rfl, h143 34 (by decide), hI 157 rfl]
    exact h.life
theorem town_k {k : Nat} (hk : k < 3) : isTown (74 + 23 * k) := by
  have : k = 0 ∨ k = 1 ∨ k = 2 := by omega
  rcases this with rfl | rfl | rfl
  · exact Or.inr (Or.inr (Or.inl rfl))
  · exact Or.inr (Or.inr (Or.inr (Or.inl rfl)))
  · exact Or.inr (Or.inr (Or.inr (Or.inr rfl)))
theorem script_k {k : Nat} (hk : k < 3) : isScript (91 + 23 * k) := by
  have : k = 0 ∨ k = 1 ∨ k = 2 := by omega
  rcases this with rfl | rfl | rfl
  · exact Or.inr (Or.inr (Or.inl rfl))
  · exact Or.inr (Or.inr (Or.inr (Or.inl rfl)))
  · exact Or.inr (Or.inr (Or.inr (Or.inr rfl)))
theorem s50 : isScript 50 := Or.inl rfl
theorem r_72 {k : Nat} (hk : k < 3) : zag (mk n m g I J) 72 k = some (74 + 23 * k) := by
  have : k = 0 ∨ k = 1 ∨ k = 2 := by omega
  rcases this with rfl | rfl | rfl <;> rfl
theorem r_73 {k : Nat} (hk : k < 3) : zag (mk n m g I J) 73 k = some (91 + 23 * k) := by
  have : k = 0 ∨ k = 1 ∨ k = 2 := by omega
  rcases this with rfl | rfl | rfl <;> rfl
theorem CS.bool (h : CS I s c N S) : zfit .boolean (.int (I s 0)) = true := by
  obtain ⟨h1, h2⟩ := h
  rw [h1]
  rcases h2 with e | ⟨e, _⟩ <;> rw [e]
  · exact zfit_b0
  · exact zfit_b1
theorem q_mark (h : Inv I J N S) (d : Nat) : Eqv (d + 30) 213 408 [] n m g I J := by
  have hW := h.W
  have h12 := hW.h12
  have h6 := hW.h6
  obtain ⟨K, hK, e3, e143, hm⟩ := h.marks
  by_cases hK3 : K < 3
  · have hb := town_k hK3
    have hs := script_k hK3
    have hd : apart 16 (74 + 23 * K) := town_apart t16 hb (by omega)
    have k3 : nI K < 3 := by
      have : nI K < nI 3 := by rw [nI_ltq (by omega) (by decide)]; exact hK3
      exact this
    have kne : ¬ nI K = 3 := fun e => by
      have e2 : nI K = nI 3 := e
      rw [nI_eq (by omega) (by omega)] at e2
      omega
    have o1 : ∀ a, (∀ i, i < 17 → a ≠ 74 + 23 * K + i) → tCopy 16 (74 + 23 * K) I a = I a := fun a ha => tCopy_far ha
    have hbo : zfit .boolean (.int (tCopy 16 (74 + 23 * K) I 50 0)) = true := by
      rw [o1 50 (fun i _ => by omega)]
      exact h.cs.bool
    have hrow : ∀ a, (∀ i, i < 17 → a ≠ 74 + 23 * K + i) → (∀ i, i < 6 → a ≠ 91 + 23 * K + i) → sCopy 50 (91 + 23 * K) (tCopy 16 (74 + 23 * K) I) a = I a := fun a h1 h2 => by rw [sCopy_out h2, o1 a h1]
    have i2row : ∀ a, a ≠ 3 → a ≠ 143 → a ≠ 148 → zr (zu (zu (zu (zu (zu (sCopy 50 (91 + 23 * K) (tCopy 16 (74 + 23 * K) I)) 3 17 (nI (K + 1))) 3 0 0) 143 1 0) 143 0 0) 143 24 (nI (K + 1))) 148 (blkC (I 148) 506 0 (K + 1)) a = sCopy 50 (91 + 23 * K) (tCopy 16 (74 + 23 * K) I) a := by
      intro a a3 a143 a148
      rw [zr_far _ _ a148, zu_far _ _ _ a143, zu_far _ _ _ a143, zu_far _ _ _ a143, zu_far _ _ _ a3, zu_far _ _ _ a3]
    have r3 := hrow 3 (fun i _ => by omega) (fun i _ => by omega)
    have r143 := hrow 143 (fun i _ => by omega) (fun i _ => by omega)
    have r148 := hrow 148 (fun i _ => by omega) (fun i _ => by omega)
    have j151 : cpS 16 (74 + 23 * K) 4 12 (cpS 16 (74 + 23 * K) 1 6 J) 151 = J 151 := by rw [cpS_far _ (by omega), cpS_far _ (by omega)]
    refine ⟨.int (nI (K + 1)), zu (zu (sCopy 50 (91 + 23 * K) (tCopy 16 (74 + 23 * K) I)) 3 17 (nI (K + 1))) 3 0 0, cpS 16 (74 + 23 * K) 4 12 (cpS 16 (74 + 23 * K) 1 6 J), zr (zu (zu (zu (zu (zu (sCopy 50 (91 + 23 * K) (tCopy 16 (74 + 23 * K) I)) 3 17 (nI (K + 1))) 3 0 0) 143 1 0) 143 0 0) 143 24 (nI (K + 1))) 148 (blkC (I 148) 506 0 (K + 1)), zr (cpS 16 (74 + 23 * K) 4 12 (cpS 16 (74 + 23 * K) 1 6 J)) 151 (blkC (J 151) 18 0 (K + 1)), N, S, ?_, ?_, ?_⟩
    · have k17 : ∀ X : Nat → Nat → Int32, X 3 = I 3 → X 3 17 = nI K := fun X hX => by rw [hX, e3]
      have t3 := o1 3 (fun i _ => by omega)
      rw [m_X11_mark]
      simp only [e_X11_mark_0, e_X11_mark_1, e_X11_mark_4, e_X11_mark_5, e_X11_mark_8, e_X11_mark_9, e_X11_mark_11, e_X11_mark_14, e_X11_mark_15, e_X11_mark_16, e_X11_mark_19, e_X11_mark_20, e_X11_mark_23, e_X11_mark_24, e_X11_mark_25, e_X11_mark_28, e_X11_mark_31, e_X11_mark_32, e_X11_mark_35, e_X11_mark_36, e_X11_mark_39, e_X11_mark_40, e_X11_mark_41, e_X11_mark_44, e_X11_mark_47, e_X11_mark_48, e_X11_mark_49, e_X11_mark_52, e_X11_mark_53, e_X11_mark_54, e_X11_mark_57, e_X11_mark_58, e_X11_mark_59, e_X11_mark_62, e_X11_mark_65, c_3, c_T0 hb, c_S0 hs, g_3_7, g_3_9, g_3_15, g_3_16, g_3_17, p_3_17, e3, k17 _ t3, k17 _ r3, if_pos k3, nI_neg (show K < 2 ^ 31 by omega), nI_clamp (show K < 2 ^ 31 by omega), r_72 hK3, r_73 hK3, t_copyFrom t16 hb, s_copyFrom s50 hs hbo, zu_row, nI_1, n_answer, Option.bind_some, Option.isSome_some, Option.toList, List.cons_append, List.nil_append, zclr_i, zclr_r, zclr_n, zfit_i, zfit_l, and_self, if_true, if_false]
    · have c24 : (zu (zu (zu (zu (sCopy 50 (91 + 23 * K) (tCopy 16 (74 + 23 * K) I)) 3 17 (nI (K + 1))) 3 0 0) 143 1 0) 143 0 0) 143 24 = nI K := by
        rw [zu_row, if_neg (by decide), zu_row, if_neg (by decide), zu_far _ _ _ (by decide), zu_far _ _ _ (by decide), r143, e143]
      have hcp := v_copy (n := n) (m := m) (g := g) (I := zu (zu (zu (zu (zu (sCopy 50 (91 + 23 * K) (tCopy 16 (74 + 23 * K) I)) 3 17 (nI (K + 1))) 3 0 0) 143 1 0) 143 0 0) 143 24 (nI (K + 1))) (J := cpS 16 (74 + 23 * K) 4 12 (cpS 16 (74 + 23 * K) 1 6 J)) (f := 0) (t := K + 1) (by omega) (by omega) (by omega) (d + 29)
      have h148 : zu (zu (zu (zu (zu (sCopy 50 (91 + 23 * K) (tCopy 16 (74 + 23 * K) I)) 3 17 (nI (K + 1))) 3 0 0) 143 1 0) 143 0 0) 143 24 (nI (K + 1)) 148 = I 148 := by
        rw [zu_far _ _ _ (by decide), zu_far _ _ _ (by decide), zu_far _ _ _ (by decide), zu_far _ _ _ (by decide), zu_far _ _ _ (by decide), r148]
      rw [h148, j151] at hcp
      have hcp2 : zcall (d + 29) 407 [.ref 143, .int 0, .int (nI (K + 1))] (mk n m g (zu (zu (zu (zu (zu (sCopy 50 (91 + 23 * K) (tCopy 16 (74 + 23 * K) I)) 3 17 (nI (K + 1))) 3 0 0) 143 1 0) 143 0 0) 143 24 (nI (K + 1))) (cpS 16 (74 + 23 * K) 4 12 (cpS 16 (74 + 23 * K) 1 6 J))) = _ := hcp
      have c24b : zr (zu (zu (zu (zu (zu (sCopy 50 (91 + 23 * K) (tCopy 16 (74 + 23 * K) I)) 3 17 (nI (K + 1))) 3 0 0) 143 1 0) 143 0 0) 143 24 (nI (K + 1))) 148 (blkC (I 148) 506 0 (K + 1)) 143 24 = nI (K + 1) := by
        rw [zr_far _ _ (by decide), zu_row, if_pos rfl]
      have c24c : zu (zu (zu (zu (zu (sCopy 50 (91 + 23 * K) (tCopy 16 (74 + 23 * K) I)) 3 17 (nI (K + 1))) 3 0 0) 143 1 0) 143 0 0) 143 24 (nI (K + 1)) 143 24 = nI (K + 1) := by rw [zu_row, if_pos rfl]
      rw [m_X12_mark]
      simp only [e_X12_mark_0, e_X12_mark_1, e_X12_mark_2, e_X12_mark_5, e_X12_mark_6, e_X12_mark_7, e_X12_mark_10, e_X12_mark_11, e_X12_mark_14, e_X12_mark_15, e_X12_mark_18, e_X12_mark_19, e_X12_mark_21, e_X12_mark_24, e_X12_mark_25, e_X12_mark_26, e_X12_mark_27, e_X12_mark_30, e_X12_mark_31, e_X12_mark_32, e_X12_mark_35, e_X12_mark_36, e_X12_mark_37, e_X12_mark_38, e_X12_mark_41, e_X12_mark_44, e_X12_mark_45, e_X12_mark_48, c_143, g_143_0, g_143_1, g_143_24, p_143_0, p_143_1, p_143_24, c24, nI_1, kne, c24c, hcp2, c24b, ne_eq, not_false_eq_true, Option.bind_some, Option.isSome_some, Option.toList, List.cons_append, List.nil_append, zclr_i, zclr_r, zclr_n, zfit_i, zfit_l, and_self, if_true, if_false] <;> first | rfl | simp
    · have hc148 : zr (zu (zu (zu (zu (zu (sCopy 50 (91 + 23 * K) (tCopy 16 (74 + 23 * K) I)) 3 17 (nI (K + 1))) 3 0 0) 143 1 0) 143 0 0) 143 24 (nI (K + 1))) 148 (blkC (I 148) 506 0 (K + 1)) 148 = blkC (I 148) 506 0 (K + 1) := zr_same _ _ _
      have hlow : ∀ j, j < 506 → blkC (I 148) 506 0 (K + 1) j = I 148 j := fun j hj => by unfold blkC; rw [if_neg (by omega)]
      have hblk : ∀ k j, k ≠ K → j < 506 → blkC (I 148) 506 0 (K + 1) (506 * (k + 1) + j) = I 148 (506 * (k + 1) + j) := fun k j hk hj => by unfold blkC; rw [if_neg (by omega)]
      have hnew : ∀ j, j < 506 → blkC (I 148) 506 0 (K + 1) (506 * (K + 1) + j) = I 148 j := fun j hj => by
        unfold blkC
        rw [if_pos (by omega)]
        exact congrArg (I 148) (by omega)
      have wlow : ∀ j, j < 18 → blkC (J 151) 18 0 (K + 1) j = J 151 j := fun j hj => by unfold blkC; rw [if_neg (by omega)]
      have wblk : ∀ k j, k ≠ K → j < 18 → blkC (J 151) 18 0 (K + 1) (18 * (k + 1) + j) = J 151 (18 * (k + 1) + j) := fun k j hk hj => by unfold blkC; rw [if_neg (by omega)]
      have wnew : ∀ j, j < 18 → blkC (J 151) 18 0 (K + 1) (18 * (K + 1) + j) = J 151 j := fun j hj => by
        unfold blkC
        rw [if_pos (by omega)]
        exact congrArg (J 151) (by omega)
      have t16r : ∀ i, i < 17 → zr (zu (zu (zu (zu (zu (sCopy 50 (91 + 23 * K) (tCopy 16 (74 + 23 * K) I)) 3 17 (nI (K + 1))) 3 0 0) 143 1 0) 143 0 0) 143 24 (nI (K + 1))) 148 (blkC (I 148) 506 0 (K + 1)) (16 + i) = I (16 + i) := fun i hi => by rw [i2row _ (by omega) (by omega) (by omega), hrow _ (fun i _ => by omega) (fun i _ => by omega)]
      have w16 := hW.far t16r
      have jr : ∀ a, (∀ i, i < 17 → a ≠ 74 + 23 * K + i) → a ≠ 151 → zr (cpS 16 (74 + 23 * K) 4 12 (cpS 16 (74 + 23 * K) 1 6 J)) 151 (blkC (J 151) 18 0 (K + 1)) a = J a := fun a ha h151 => by rw [zr_far _ _ h151, cpS_far _ (ha 4 (by decide)), cpS_far _ (ha 1 (by decide))]
      refine h.mkI w16 ?_ ?_ ?_ ⟨K + 1, by omega, ?_, ?_, fun k hk => ?_⟩ ?_ (fun a ha => ?_) ?_ (fun k hk => ?_) (fun a ha => ?_)
      · rw [hc148]
        exact (h.R.far t16r).cells w16 (fun j hj => hlow j (by omega))
      · rw [zr_same]
        exact h.jw.cells h12 h6 wlow (fun s _ => by rw [jr 17 (fun i _ => by omega) (by decide)]) (fun p _ => by rw [jr 20 (fun i _ => by omega) (by decide)])
      · rw [hc148]
        exact h.cs.far (fun r hr => by rw [i2row _ (by omega) (by omega) (by omega), hrow _ (fun i _ => by omega) (fun i _ => by omega)]) (fun j _ hj => hlow j hj)
      · rw [zr_far _ _ (by decide), zu_far _ _ _ (by decide), zu_far _ _ _ (by decide), zu_far _ _ _ (by decide), zu_row, if_neg (by decide), zu_row, if_pos rfl]
      · rw [zr_far _ _ (by decide), zu_row, if_pos rfl]
      · by_cases ek : k = K
        · subst ek
          have wn := hW.copy hd
          have rn : ∀ i, i < 17 → zr (zu (zu (zu (zu (zu (sCopy 50 (91 + 23 * k) (tCopy 16 (74 + 23 * k) I)) 3 17 (nI (k + 1))) 3 0 0) 143 1 0) 143 0 0) 143 24 (nI (k + 1))) 148 (blkC (I 148) 506 0 (k + 1)) (74 + 23 * k + i) = tCopy 16 (74 + 23 * k) I (74 + 23 * k + i) := fun i hi => by rw [i2row _ (by omega) (by omega) (by omega), sCopy_out (fun i _ => by omega)]
          refine ⟨N, S, wn.far rn, ?_, ?_, ?_⟩
          · rw [hc148]
            exact ((h.R.copy hW hd).far rn).cells (wn.far rn) (fun j hj => hnew j (by omega))
          · rw [zr_same]
            refine h.jw.cells h12 h6 wnew (fun s hs => ?_) (fun p hp => ?_)
            · rw [zr_far _ _ (by omega), cpS_far _ (by omega), cpS_at, cpR_lt (by omega)]
            · rw [zr_far _ _ (by omega), cpS_at, cpR_lt (by omega), cpS_far _ (by omega)]
          · rw [hc148]
            refine h.cs.move (fun f hf => ?_) (fun r a h1 h2 ha => ?_) (fun j _ hj => hnew j hj)
            · rw [i2row _ (by omega) (by omega) (by omega), sCopy_0 (by omega) hf, o1 50 (fun i _ => by omega)]
            · rw [i2row _ (by omega) (by omega) (by omega), sCopy_r (by omega) h1 h2 ha, o1 _ (fun i _ => by omega)]
        · obtain ⟨N1, S1, w1, r1, j1, c1⟩ := hm k (by omega)
          have rn : ∀ i, i < 17 → zr (zu (zu (zu (zu (zu (sCopy 50 (91 + 23 * K) (tCopy 16 (74 + 23 * K) I)) 3 17 (nI (K + 1))) 3 0 0) 143 1 0) 143 0 0) 143 24 (nI (K + 1))) 148 (blkC (I 148) 506 0 (K + 1)) (74 + 23 * k + i) = I (74 + 23 * k + i) := fun i hi => by rw [i2row _ (by omega) (by omega) (by omega), hrow _ (fun i _ => by omega) (fun i _ => by omega)]
          refine ⟨N1, S1, w1.far rn, ?_, ?_, ?_⟩
          · rw [hc148]
            exact (r1.far rn).cells (w1.far rn) (fun j hj => hblk k j ek (by omega))
          · rw [zr_same]
            exact j1.cells w1.h12 w1.h6 (fun j hj => wblk k j ek hj) (fun s _ => by rw [jr _ (fun i _ => by omega) (by omega)]) (fun p _ => by rw [jr _ (fun i _ => by omega) (by omega)])
          · rw [hc148]
            exact c1.far (fun r hr => by rw [i2row _ (by omega) (by omega) (by omega), hrow _ (fun i _ => by omega) (fun i _ => by omega)]) (fun j _ hj => hblk k j ek hj)
      · rw [zr_far _ _ (by decide), zr_far _ _ (by decide), zu_far _ _ _ (by decide), zu_far _ _ _ (by decide), zu_far _ _ _ (by decide), zu_row, if_pos rfl, zu_row, if_neg (by decide), zu_row, if_pos rfl]
      · simp only [Bool.or_eq_true, beq_iff_eq] at ha
        rw [i2row _ (by omega) (by omega) (by omega), hrow _ (fun i _ => by omega) (fun i _ => by omega)]
      · rw [zr_far _ _ (by decide), zu_far _ _ _ (by decide), zu_far _ _ _ (by decide), zu_far _ _ _ (by decide), zu_row, if_neg (by decide), zu_row, if_neg (by decide), r3]
      · rw [zr_far _ _ (by decide), zu_row, if_neg (by omega), zu_row, if_neg (by omega), zu_row, if_neg (by omega), zu_far _ _ _ (by decide), zu_far _ _ _ (by decide), r143]
      · simp only [Bool.or_eq_true, beq_iff_eq] at ha
        exact jr a (fun i _ => by omega) (by omega)
  · have hK3' : K = 3 := by omega
    subst hK3'
    refine ⟨.int (-1), zu I 3 0 7, J, st 7 I, J, N, S, ?_, ?_, h.stI⟩
    · rw [m_X11_mark]
      simp only [e_X11_mark_0, e_X11_mark_1, e_X11_mark_4, e_X11_mark_5, e_X11_mark_8, e_X11_mark_9, e_X11_mark_11, e_X11_mark_14, e_X11_mark_15, e_X11_mark_16, e_X11_mark_19, e_X11_mark_20, e_X11_mark_23, e_X11_mark_24, e_X11_mark_25, e_X11_mark_28, e_X11_mark_31, e_X11_mark_32, e_X11_mark_35, e_X11_mark_36, e_X11_mark_39, e_X11_mark_40, e_X11_mark_41, e_X11_mark_44, e_X11_mark_47, e_X11_mark_48, e_X11_mark_49, e_X11_mark_52, e_X11_mark_53, e_X11_mark_54, e_X11_mark_57, e_X11_mark_58, e_X11_mark_59, e_X11_mark_62, e_X11_mark_65, c_3, g_3_17, e3, if_neg (show ¬ nI 3 < 3 by decide), n_refuse, Option.bind_some, Option.isSome_some, Option.toList, List.cons_append, List.nil_append, zclr_i, zclr_r, zclr_n, zfit_i, zfit_l, and_self, if_true, if_false]
    · have c24 : (zu (zu (zu I 3 0 7) 143 1 0) 143 0 0) 143 24 = nI 3 := e143
      rw [m_X12_mark]
      simp only [e_X12_mark_0, e_X12_mark_1, e_X12_mark_2, e_X12_mark_5, e_X12_mark_6, e_X12_mark_7, e_X12_mark_10, e_X12_mark_11, e_X12_mark_14, e_X12_mark_15, e_X12_mark_18, e_X12_mark_19, e_X12_mark_21, e_X12_mark_24, e_X12_mark_25, e_X12_mark_26, e_X12_mark_27, e_X12_mark_30, e_X12_mark_31, e_X12_mark_32, e_X12_mark_35, e_X12_mark_36, e_X12_mark_37, e_X12_mark_38, e_X12_mark_41, e_X12_mark_44, e_X12_mark_45, e_X12_mark_48, c_143, g_143_0, g_143_1, g_143_24, p_143_0, p_143_1, c24, show (nI 3 = (3 : Int32)) = True by decide, ne_eq, not_true, v_refuse, st_eq, Option.bind_some, Option.isSome_some, Option.toList, List.cons_append, List.nil_append, zclr_i, zclr_r, zclr_n, zfit_i, zfit_l, and_self, if_true, if_false] <;> first | rfl | simp
end RE
