/-! MARKS: copies of blocks, of scripts -/
section RD
variable {n m : Nat} {g : Nat → zC} {I I2 A A' : Nat → Nat → Int32} {J J2 : Nat → Nat → Int64} {N S U b s s2 : Nat} {c c' : Nat → Int32}
theorem nI_mul (k : Nat) (x : Int32) (hx : x = nI k) (t j : Nat) : x * nI t + nI j = nI (k * t + j) := by
  rw [hx, pk_mul, nI_add]
/-- a block put in place of another -/
def blkC {α : Type} (c : Nat → α) (w f t : Nat) : Nat → α := fun j => if w * t ≤ j ∧ j < w * t + w then c (w * f + (j - w * t)) else c j
theorem blk_for {α : Type} {w f t : Nat} {c : Nat → α} (hd : w * f + w ≤ w * t ∨ w * t + w ≤ w * f) : ∀ k, k ≤ w → zfor (fun k (x : Nat → α) => fu x (w * t + k) (x (w * f + k))) 0 k c = fun j => if w * t ≤ j ∧ j < w * t + k then c (w * f + (j - w * t)) else c j
  | 0, _ => by
    funext j
    rw [zfor, if_neg (by omega)]
  | k + 1, hk => by
    rw [zfor_succ, blk_for hd k (by omega)]
    funext j
    simp only [Nat.zero_add]
    by_cases e : j = w * t + k
    · rw [e, fu_eq, if_neg (by omega), if_pos (by omega)]
      congr 1
      omega
    · rw [fu_ne _ _ e]
      by_cases e2 : w * t ≤ j ∧ j < w * t + k
      · rw [if_pos e2, if_pos (by omega)]
      · rw [if_neg e2, if_neg (by omega)]
theorem v_copy {f t : Nat} (hf : f ≤ 4) (ht : t ≤ 4) (hft : f ≠ t) (d : Nat) : zcall d 407 [.ref 143, .int (nI f), .int (nI t)] (mk n m g I J) = some (none, mk n m g (zr I 148 (blkC (I 148) 506 f t)) (zr J 151 (blkC (J 151) 18 f t))) := by
  rw [m_X12_copy]
  have hl1 := zloop (fun k (x : Nat → Int32) => zexec d 407 2 [some (.ref 143), some (.int (nI f)), some (.int (nI t)), some (.int (nI k))] [] (mk n m g (zr I 148 x) J)) (fun k (x : Nat → Int32) => fu x (506 * t + k) (x (506 * f + k))) 506 ?_ 506 0 (I 148) (by omega)
  · have hl2 := zloop (fun k (x : Nat → Int64) => zexec d 407 41 [some (.ref 143), some (.int (nI f)), some (.int (nI t)), some (.int (nI k))] [] (mk n m g (zr I 148 (zfor (fun k (x : Nat → Int32) => fu x (506 * t + k) (x (506 * f + k))) 0 506 (I 148))) (zr J 151 x))) (fun k (x : Nat → Int64) => fu x (18 * t + k) (x (18 * f + k))) 18 ?_ 18 0 (J 151) (by omega)
    · rw [zr_id] at hl1 hl2
      simp only [e_X12_copy_0, e_X12_copy_1, Option.bind_some, Option.isSome_some, Option.toList, List.cons_append, List.nil_append, zclr_i, zclr_r, zclr_n, zfit_i, zfit_l, and_self, if_true, if_false]
      refine (show _ from hl1).trans ?_
      rw [e_X12_copy_2]
      simp only [e_X12_copy_3, e_X12_copy_6, e_X12_copy_9, e_X12_copy_10, e_X12_copy_13, e_X12_copy_16, e_X12_copy_17, e_X12_copy_18, e_X12_copy_19, e_X12_copy_20, e_X12_copy_21, e_X12_copy_24, e_X12_copy_27, e_X12_copy_28, e_X12_copy_29, e_X12_copy_30, e_X12_copy_31, e_X12_copy_32, e_X12_copy_33, e_X12_copy_36, e_X12_copy_39, e_X12_copy_40, if_pos (show (506 : Int32) ≤ nI 506 by decide), Option.bind_some, Option.isSome_some, Option.toList, List.cons_append, List.nil_append, zclr_i, zclr_r, zclr_n, zfit_i, zfit_l, and_self, if_true, if_false]
      refine (show _ from hl2).trans ?_
      rw [e_X12_copy_41]
      simp only [e_X12_copy_42, e_X12_copy_44, e_X12_copy_47, e_X12_copy_48, e_X12_copy_51, e_X12_copy_53, e_X12_copy_54, e_X12_copy_55, e_X12_copy_56, e_X12_copy_57, e_X12_copy_58, e_X12_copy_61, e_X12_copy_63, e_X12_copy_64, e_X12_copy_65, e_X12_copy_66, e_X12_copy_67, e_X12_copy_68, e_X12_copy_69, e_X12_copy_72, e_X12_copy_75, if_pos (show (18 : Int32) ≤ nI 18 by decide), Option.bind_some, Option.isSome_some, Option.toList, List.cons_append, List.nil_append, zclr_i, zclr_r, zclr_n, zfit_i, zfit_l, and_self, if_true, if_false]
      rw [blk_for (by omega) 506 (Nat.le_refl _), blk_for (by omega) 18 (Nat.le_refl _)]
      rfl
    · intro k x hk
      have i1 := nI_mul 18 18 rfl t k
      have i2 := nI_mul 18 18 rfl f k
      rw [e_X12_copy_41]
      simp only [e_X12_copy_42, e_X12_copy_44, e_X12_copy_47, e_X12_copy_48, e_X12_copy_51, e_X12_copy_53, e_X12_copy_54, e_X12_copy_55, e_X12_copy_56, e_X12_copy_57, e_X12_copy_58, e_X12_copy_61, e_X12_copy_63, e_X12_copy_64, e_X12_copy_65, e_X12_copy_66, e_X12_copy_67, e_X12_copy_68, e_X12_copy_69, e_X12_copy_72, g_143_23, i1, i2, if_neg (show ¬ (18 : Int32) ≤ nI k from nI_ge (b := 18) hk (by decide)), nI_neg (show 18 * t + k < 2 ^ 31 by omega), nI_clamp (show 18 * t + k < 2 ^ 31 by omega), k_151 (show 18 * t + k < 90 by omega), nI_neg (show 18 * f + k < 2 ^ 31 by omega), nI_clamp (show 18 * f + k < 2 ^ 31 by omega), k_151 (show 18 * f + k < 90 by omega), q_151, zr_same, zu_zr, nI_1, Option.bind_some, Option.isSome_some, Option.toList, List.cons_append, List.nil_append, zclr_i, zclr_r, zclr_n, zfit_i, zfit_l, and_self, if_true, if_false]
  · intro k x hk
    have i1 := nI_mul 506 506 rfl t k
    have i2 := nI_mul 506 506 rfl f k
    rw [e_X12_copy_2]
    simp only [e_X12_copy_3, e_X12_copy_6, e_X12_copy_9, e_X12_copy_10, e_X12_copy_13, e_X12_copy_16, e_X12_copy_17, e_X12_copy_18, e_X12_copy_19, e_X12_copy_20, e_X12_copy_21, e_X12_copy_24, e_X12_copy_27, e_X12_copy_28, e_X12_copy_29, e_X12_copy_30, e_X12_copy_31, e_X12_copy_32, e_X12_copy_33, e_X12_copy_36, g_143_20, q_148, i1, i2, if_neg (show ¬ (506 : Int32) ≤ nI k from nI_ge (b := 506) hk (by decide)), nI_neg (show 506 * t + k < 2 ^ 31 by omega), nI_clamp (show 506 * t + k < 2 ^ 31 by omega), k_148 (show 506 * t + k < 2530 by omega), l_148 (show 506 * t + k < 2530 by omega), nI_neg (show 506 * f + k < 2 ^ 31 by omega), nI_clamp (show 506 * f + k < 2 ^ 31 by omega), k_148 (show 506 * f + k < 2530 by omega), l_148 (show 506 * f + k < 2530 by omega), zr_same, zu_zr, nI_1, Option.bind_some, Option.isSome_some, Option.toList, List.cons_append, List.nil_append, zclr_i, zclr_r, zclr_n, zfit_i, zfit_l, and_self, if_true, if_false]
theorem Sim.move {a i : Nat} (hI : ∀ r, 1 ≤ r → r < 6 → I2 (s2 + r) a = I (s + r) a) (hc : ∀ k, 234 ≤ k → k < 506 → c' k = c k) (hi : i < 30) (h : Sim I s c N a i) : Sim I2 s2 c' N a i := by
  unfold Sim
  rw [hI 1 (by decide) (by decide), hI 2 (by decide) (by decide), hI 3 (by decide) (by decide), hI 5 (by decide) (by decide), hc _ (by omega) (by omega), hc _ (by omega) (by omega), hc _ (by omega) (by omega), hc _ (by omega) (by omega)]
  exact h
theorem Hea.move {a e i j : Nat} (hI : ∀ r a, 1 ≤ r → r < 6 → a < 60 → I2 (s2 + r) a = I (s + r) a) (hc : ∀ k, 234 ≤ k → k < 506 → c' k = c k) (hi : i < 30) (ha : a < 60) (he : e < 60) (h : Hea I s c N S a e i j) : Hea I2 s2 c' N S a e i j := by
  unfold Hea
  rw [hI 1 a (by decide) (by decide) ha, hI 2 a (by decide) (by decide) ha, hI 3 a (by decide) (by decide) ha, hI 4 a (by decide) (by decide) ha, hI 5 a (by decide) (by decide) ha, hI 1 e (by decide) (by decide) he, hI 5 e (by decide) (by decide) he, hc _ (by omega) (by omega), hc _ (by omega) (by omega), hc _ (by omega) (by omega), hc _ (by omega) (by omega), hc _ (by omega) (by omega), hc _ (by omega) (by omega)]
  exact h
theorem Blk.move (hI : ∀ r a, 1 ≤ r → r < 6 → a < 60 → I2 (s2 + r) a = I (s + r) a) (hc : ∀ k, 234 ≤ k → k < 506 → c' k = c k) : ∀ f d a e i j, e ≤ 60 → j ≤ 30 → Blk I s c N S f d a e i j → Blk I2 s2 c' N S f d a e i j
  | 0, d, a, e, i, j, _, _, hb => hb
  | f + 1, d, a, e, i, j, he, hj, hb => by
    rcases hb with hb | ⟨h1, h2, h3, h4⟩ | ⟨d', h1, x, k, h2, h3, h4, h5, h6, h7, h8⟩
    · exact Or.inl hb
    · exact Or.inr (Or.inl ⟨h1, h2, h3.move (fun r h1 h2 => hI r a h1 h2 (by omega)) hc (by omega), Blk.move hI hc f d _ _ _ _ he hj h4⟩)
    · exact Or.inr (Or.inr ⟨d', h1, x, k, h2, h3, h4, h5, h6.move hI hc (by omega) (by omega) (by omega), Blk.move hI hc f d' _ _ _ _ (by omega) (by omega) h7, Blk.move hI hc f d _ _ _ _ he hj h8⟩)
theorem CS.move (h : CS I s c N S) (h0 : ∀ f, f < 3 → I2 s2 f = I s f) (hI : ∀ r a, 1 ≤ r → r < 6 → a < 60 → I2 (s2 + r) a = I (s + r) a) (hc : ∀ k, 234 ≤ k → k < 506 → c' k = c k) : CS I2 s2 c' N S := by
  obtain ⟨h1, h2⟩ := h
  unfold CS
  rw [h0 0 (by decide), h0 1 (by decide), h0 2 (by decide), hc 234 (by decide) (by decide), hc 235 (by decide) (by decide)]
  refine ⟨h1, ?_⟩
  rcases h2 with h2 | ⟨h2, L, k, a1, a2, a3, a4, a5, a6⟩
  · exact Or.inl h2
  · exact Or.inr ⟨h2, L, k, a1, a2, a3, a4, a5, Blk.move hI hc 60 3 _ _ _ _ a1 a2 a6⟩
theorem cpS_far {α : Type} {a b i k x : Nat} (I : Nat → Nat → α) (h : x ≠ b + i) : cpS a b i k I x = I x := zr_far _ _ h
theorem cpF_far {a b k x : Nat} (I : Nat → Nat → Int32) (h : x ≠ b) : cpF a b k I x = I x := zu_far _ _ _ h
theorem sCopy_0 {f : Nat} (hd : s + 6 ≤ s2 ∨ s2 + 6 ≤ s) (hf : f < 3) : sCopy s s2 I s2 f = I s f := by
  unfold sCopy
  rw [cpS_far _ (by omega), cpS_far _ (by omega), cpS_far _ (by omega), cpS_far _ (by omega), cpS_far _ (by omega)]
  unfold cpF
  have : s ≠ s2 := by omega
  have h3 : f = 0 ∨ f = 1 ∨ f = 2 := by omega
  rcases h3 with rfl | rfl | rfl <;> simp [zu, this]
theorem sCopy_r {r a : Nat} (hd : s + 6 ≤ s2 ∨ s2 + 6 ≤ s) (h1 : 1 ≤ r) (h6 : r < 6) (ha : a < 60) : sCopy s s2 I (s2 + r) a = I (s + r) a := by
  unfold sCopy
  have h : r = 1 ∨ r = 2 ∨ r = 3 ∨ r = 4 ∨ r = 5 := by omega
  rcases h with rfl | rfl | rfl | rfl | rfl
  · rw [cpS_far _ (by omega), cpS_far _ (by omega), cpS_far _ (by omega), cpS_far _ (by omega), cpS_at, cpR_lt ha, cpF_far _ (by omega), cpF_far _ (by omega), cpF_far _ (by omega)]
  · rw [cpS_far _ (by omega), cpS_far _ (by omega), cpS_far _ (by omega), cpS_at, cpR_lt ha, cpS_far _ (by omega), cpF_far _ (by omega), cpF_far _ (by omega), cpF_far _ (by omega)]
  · rw [cpS_far _ (by omega), cpS_far _ (by omega), cpS_at, cpR_lt ha, cpS_far _ (by omega), cpS_far _ (by omega), cpF_far _ (by omega), cpF_far _ (by omega), cpF_far _ (by omega)]
  · rw [cpS_far _ (by omega), cpS_at, cpR_lt ha, cpS_far _ (by omega), cpS_far _ (by omega), cpS_far _ (by omega), cpF_far _ (by omega), cpF_far _ (by omega), cpF_far _ (by omega)]
  · rw [cpS_at, cpR_lt ha, cpS_far _ (by omega), cpS_far _ (by omega), cpS_far _ (by omega), cpS_far _ (by omega), cpF_far _ (by omega), cpF_far _ (by omega), cpF_far _ (by omega)]
theorem sCopy_out {x : Nat} (h : ∀ i, i < 6 → x ≠ s2 + i) : sCopy s s2 I x = I x := by
  unfold sCopy
  have h0 := h 0 (by decide)
  rw [cpS_far _ (h 5 (by decide)), cpS_far _ (h 4 (by decide)), cpS_far _ (h 3 (by decide)), cpS_far _ (h 2 (by decide)), cpS_far _ (h 1 (by decide)), cpF_far _ (by simpa using h0), cpF_far _ (by simpa using h0), cpF_far _ (by simpa using h0)]
end RD
