/-! CALLS: wish -/
section RA
variable {n m : Nat} {g : Nat → zC} {I I2 A A' : Nat → Nat → Int32} {J J2 : Nat → Nat → Int64} {N S U b : Nat} {c c' : Nat → Int32}
theorem RT.lk (h : RT A b c N S) (h12 : N ≤ 12) (h6 : S ≤ 6) (hq : qN A b ≤ 12) (hf : ∀ j, j < 17 → j ≠ 12 → j ≠ 13 → A' (b + j) = A (b + j)) (hc : ∀ j, (j < 126 ∨ 210 ≤ j) → j < 234 → c' j = c j) (hl : ∀ p, p < N → c' (126 + p) = A' (b + 12) p) (hk : ∀ p k, p < N → k < pK A' b p → c' (138 + (6 * p + k)) = A' (b + 13) (p * 6 + k)) : RT A' b c' N S := by
  have h0 : A' b = A b := hf 0 (by decide) (by decide) (by decide)
  have hQ : qN A' b = qN A b := qN_far (hf 14 (by decide) (by decide) (by decide))
  have g2 := hf 2 (by decide) (by decide) (by decide)
  have g3 := hf 3 (by decide) (by decide) (by decide)
  have g5 := hf 5 (by decide) (by decide) (by decide)
  have g6 := hf 6 (by decide) (by decide) (by decide)
  have g7 := hf 7 (by decide) (by decide) (by decide)
  have g8 := hf 8 (by decide) (by decide) (by decide)
  have g9 := hf 9 (by decide) (by decide) (by decide)
  have g10 := hf 10 (by decide) (by decide) (by decide)
  have g11 := hf 11 (by decide) (by decide) (by decide)
  have g14 := hf 14 (by decide) (by decide) (by decide)
  have g15 := hf 15 (by decide) (by decide) (by decide)
  have g16 := hf 16 (by decide) (by decide) (by decide)
  refine RT.intro ?_ ?_ ?_ ?_ ?_ ?_ ?_ ?_ ?_ ?_ ?_ ?_ ?_ ?_ ?_ ?_ ?_ hl hk ?_ ?_
  · rw [h0, hc _ (by omega) (by omega)]; exact h.n0
  · rw [h0, hc _ (by omega) (by omega)]; exact h.n1
  · rw [h0, hc _ (by omega) (by omega)]; exact h.n2
  · rw [h0, hc _ (by omega) (by omega)]; exact h.n3
  · rw [h0, hc _ (by omega) (by omega)]; exact h.n4
  · rw [g14, hc _ (by omega) (by omega)]; exact h.n5
  · intro s hs; rw [g2, hc _ (by omega) (by omega)]; exact h.worth s hs
  · intro s hs; rw [g3, hc _ (by omega) (by omega)]; exact h.sold s hs
  · intro p hp; rw [g5, hc _ (by omega) (by omega)]; exact h.born p hp
  · intro p hp; rw [g7, hc _ (by omega) (by omega)]; exact h.bears p hp
  · intro p hp; rw [g8, hc _ (by omega) (by omega)]; exact h.coins p hp
  · intro p hp; rw [h0, hc _ (by omega) (by omega)]; exact h.miser p hp
  · intro p hp; rw [g6, hc _ (by omega) (by omega)]; exact h.died p hp
  · intro p hp; rw [g9, hc _ (by omega) (by omega)]; exact h.wed p hp
  · intro p hp; rw [g10, hc _ (by omega) (by omega)]; exact h.one p hp
  · intro p hp; rw [g10, hc _ (by omega) (by omega)]; exact h.two p hp
  · intro p hp; rw [g11, hc _ (by omega) (by omega)]; exact h.away p hp
  · intro k hk; rw [hQ] at hk; rw [g15, hc _ (by omega) (by omega)]; exact h.who k hk
  · intro k hk; rw [hQ] at hk; rw [g16, hc _ (by omega) (by omega)]; exact h.want k hk
/-- do the numbers tell surnames, each once? -/
def tellS (v : Nat → Int64) (S : Nat) : Nat → Nat → Int32 → Bool
  | 0, _, _ => true
  | f + 1, k, s => if v k < 0 ∨ ¬ v k < (nI S).toInt64 ∨ ¬ s >>> ((v k).toInt32 &&& 31) &&& 1 = 0 then false else tellS v S f (k + 1) (s ||| 1 <<< ((v k).toInt32 &&& 31))
theorem l64_range {x : Int64} {S : Nat} (hS : S ≤ 6) : (¬ x < 0 ∧ x < (nI S).toInt64) → ∃ s, s < S ∧ x.toInt32 = nI s ∧ x = (nI s).toInt64 := by
  rintro ⟨h1, h2⟩
  rw [Int64.lt_iff_toInt_lt, show (0 : Int64).toInt = 0 from rfl] at h1
  rw [Int64.lt_iff_toInt_lt, Int32.toInt_toInt64, nI_toInt (by omega)] at h2
  have hx : x = (nI x.toInt.toNat).toInt64 := by
    apply Int64.toInt_inj.mp
    rw [Int32.toInt_toInt64, nI_toInt (by omega)]
    omega
  refine ⟨x.toInt.toNat, by omega, ?_, hx⟩
  rw [show x.toInt32 = ((nI x.toInt.toNat).toInt64).toInt32 from congrArg Int64.toInt32 hx, Int32.toInt32_toInt64]
theorem tellS_ok {v : Nat → Int64} (hS : S ≤ 6) : ∀ f k (s : Int32), tellS v S f k s = true → ∀ j, k ≤ j → j < k + f → ∃ t, t < S ∧ (v j).toInt32 = nI t
  | 0, k, s, _, j, h1, h2 => by omega
  | f + 1, k, s, h, j, h1, h2 => by
    rw [tellS] at h
    by_cases hc : v k < 0 ∨ ¬ v k < (nI S).toInt64 ∨ ¬ s >>> ((v k).toInt32 &&& 31) &&& 1 = 0
    · rw [if_pos hc] at h
      exact absurd h (by decide)
    · rw [if_neg hc] at h
      by_cases e : j = k
      · subst e
        obtain ⟨t, ht, e1, _⟩ := l64_range (x := v j) hS ⟨fun e => hc (Or.inl e), Classical.byContradiction (fun e => hc (Or.inr (Or.inl e)))⟩
        exact ⟨t, ht, e1⟩
      · exact tellS_ok hS f (k + 1) _ h j (by omega) (by omega)
theorem n_tells {t K : Nat} (ht : t < 4) (hK : K ≤ 60) (hS : I 16 3 = nI S) (d : Nat) : zcall (d + 1) 223 [.ref 3, .int (nI t), .int (nI K)] (mk n m g I J) = some (some (.int (bI (tellS (J (8 + t)) S K 0 0))), mk n m g I J) := by
  rw [m_X11_tellsSurnames]
  simp only [e_X11_tellsSurnames_0, e_X11_tellsSurnames_1, e_X11_tellsSurnames_2, e_X11_tellsSurnames_3, e_X11_tellsSurnames_7, e_X11_tellsSurnames_8, e_X11_tellsSurnames_11, e_X11_tellsSurnames_12, e_X11_tellsSurnames_15, e_X11_tellsSurnames_16, e_X11_tellsSurnames_18, e_X11_tellsSurnames_21, e_X11_tellsSurnames_23, e_X11_tellsSurnames_25, e_X11_tellsSurnames_26, e_X11_tellsSurnames_27, e_X11_tellsSurnames_30, e_X11_tellsSurnames_32, e_X11_tellsSurnames_33, e_X11_tellsSurnames_36, e_X11_tellsSurnames_39, e_X11_tellsSurnames_40, e_X11_tellsSurnames_41, e_X11_tellsSurnames_44, e_X11_tellsSurnames_45, e_X11_tellsSurnames_47, e_X11_tellsSurnames_48, e_X11_tellsSurnames_49, e_X11_tellsSurnames_50, e_X11_tellsSurnames_51, e_X11_tellsSurnames_54, e_X11_tellsSurnames_55, e_X11_tellsSurnames_56, e_X11_tellsSurnames_57, e_X11_tellsSurnames_58, e_X11_tellsSurnames_60, e_X11_tellsSurnames_61, e_X11_tellsSurnames_62, e_X11_tellsSurnames_63, e_X11_tellsSurnames_64, e_X11_tellsSurnames_67, e_X11_tellsSurnames_70, e_X11_tellsSurnames_71, Option.bind_some, Option.isSome_some, Option.toList, List.cons_append, List.nil_append, zclr_i, zclr_r, zclr_n, zfit_i, zfit_l, and_self, if_true, if_false]
  have : ∀ f k (s : Int32) (x : Option Int64), k + f = K → zexec (d + 1) 223 5 [some (.ref 3), some (.int (nI t)), some (.int (nI K)), some (.int s), some (.int (nI k)), x.map Value.long, none] [] (mk n m g I J) = some (some (.int (bI (tellS (J (8 + t)) S f k s))), mk n m g I J) := by
    intro f
    induction f with
    | zero =>
      intro k s x hk
      rw [e_X11_tellsSurnames_5]
      simp only [e_X11_tellsSurnames_0, e_X11_tellsSurnames_1, e_X11_tellsSurnames_2, e_X11_tellsSurnames_3, e_X11_tellsSurnames_7, e_X11_tellsSurnames_8, e_X11_tellsSurnames_11, e_X11_tellsSurnames_12, e_X11_tellsSurnames_15, e_X11_tellsSurnames_16, e_X11_tellsSurnames_18, e_X11_tellsSurnames_21, e_X11_tellsSurnames_23, e_X11_tellsSurnames_25, e_X11_tellsSurnames_26, e_X11_tellsSurnames_27, e_X11_tellsSurnames_30, e_X11_tellsSurnames_32, e_X11_tellsSurnames_33, e_X11_tellsSurnames_36, e_X11_tellsSurnames_39, e_X11_tellsSurnames_40, e_X11_tellsSurnames_41, e_X11_tellsSurnames_44, e_X11_tellsSurnames_45, e_X11_tellsSurnames_47, e_X11_tellsSurnames_48, e_X11_tellsSurnames_49, e_X11_tellsSurnames_50, e_X11_tellsSurnames_51, e_X11_tellsSurnames_54, e_X11_tellsSurnames_55, e_X11_tellsSurnames_56, e_X11_tellsSurnames_57, e_X11_tellsSurnames_58, e_X11_tellsSurnames_60, e_X11_tellsSurnames_61, e_X11_tellsSurnames_62, e_X11_tellsSurnames_63, e_X11_tellsSurnames_64, e_X11_tellsSurnames_67, e_X11_tellsSurnames_70, e_X11_tellsSurnames_71, if_pos (nI_le (show K ≤ k by omega) (show k < 2 ^ 31 by omega)), zfit_b1, Option.bind_some, Option.isSome_some, Option.toList, List.cons_append, List.nil_append, zclr_i, zclr_r, zclr_n, zfit_i, zfit_l, and_self, if_true, if_false]
      rfl
    | succ f ih =>
      intro k s x hk
      have hk60 : k < 60 := by omega
      have i0 : (lg_cmp (J (8 + t) k) 0 < 0) = (J (8 + t) k < 0) := lg_lt0 _ _
      have i1 : (0 ≤ lg_cmp (J (8 + t) k) (nI S).toInt64) = ¬ (J (8 + t) k < (nI S).toInt64) := by rw [← Int32.not_lt, lg_lt0]
      rw [tellS, e_X11_tellsSurnames_5]
      simp only [e_X11_tellsSurnames_0, e_X11_tellsSurnames_1, e_X11_tellsSurnames_2, e_X11_tellsSurnames_3, e_X11_tellsSurnames_7, e_X11_tellsSurnames_8, e_X11_tellsSurnames_11, e_X11_tellsSurnames_12, e_X11_tellsSurnames_15, e_X11_tellsSurnames_16, e_X11_tellsSurnames_18, e_X11_tellsSurnames_21, e_X11_tellsSurnames_23, e_X11_tellsSurnames_25, e_X11_tellsSurnames_26, e_X11_tellsSurnames_27, e_X11_tellsSurnames_30, e_X11_tellsSurnames_32, e_X11_tellsSurnames_33, e_X11_tellsSurnames_36, e_X11_tellsSurnames_39, e_X11_tellsSurnames_40, e_X11_tellsSurnames_41, e_X11_tellsSurnames_44, e_X11_tellsSurnames_45, e_X11_tellsSurnames_47, e_X11_tellsSurnames_48, e_X11_tellsSurnames_49, e_X11_tellsSurnames_50, e_X11_tellsSurnames_51, e_X11_tellsSurnames_54, e_X11_tellsSurnames_55, e_X11_tellsSurnames_56, e_X11_tellsSurnames_57, e_X11_tellsSurnames_58, e_X11_tellsSurnames_60, e_X11_tellsSurnames_61, e_X11_tellsSurnames_62, e_X11_tellsSurnames_63, e_X11_tellsSurnames_64, e_X11_tellsSurnames_67, e_X11_tellsSurnames_70, e_X11_tellsSurnames_71, c_3, c_4, g_3_3, g_3_7, g_T0_3 t16, hS, y_at ht hk60, if_neg (nI_ge (show k < K by omega) (show K < 2 ^ 31 by omega)), i0, i1, nI_1, zfit_b0, Option.bind_some, Option.isSome_some, Option.toList, List.cons_append, List.nil_append, zclr_i, zclr_r, zclr_n, zfit_i, zfit_l, and_self, if_true, if_false]
      by_cases h1 : J (8 + t) k < 0
      · simp [h1, bI]
      · by_cases h2 : J (8 + t) k < (nI S).toInt64
        · by_cases h3 : s >>> ((J (8 + t) k).toInt32 &&& 31) &&& 1 = 0
          · simp only [h1, h2, h3, not_true, if_false, if_true, or_self]
            exact ih (k + 1) _ (some (J (8 + t) k)) (by omega)
          · simp [h1, h2, h3, bI]
        · simp [h1, h2, bI]
  exact this K 0 0 none (by omega)
theorem v_tells {p t K : Nat} (ht : t < 4) (hK : K ≤ 60) (hS6 : S ≤ 6) (hc : I 148 0 = nI S) (he : ∀ k, k < K → J (8 + t) k = J 146 (60 * t + k)) (d : Nat) : ∀ f k (s : Int32) (x : Option Int64), k + f = K → ∃ (s' : Int32) (x' : Option Int64), zexec (d + 1) 358 93 [some (.ref 143), some (.int (nI p)), some (.int (nI t)), some (.int (nI K)), some (.int s), some (.int (nI k)), x.map Value.long, none] [] (mk n m g I J) = if tellS (J (8 + t)) S f k s = true then zexec (d + 1) 358 159 [some (.ref 143), some (.int (nI p)), some (.int (nI t)), some (.int (nI K)), some (.int s'), some (.int (nI K)), x'.map Value.long, none] [] (mk n m g I J) else some (some (.int 0), mk n m g (zu I 143 0 5) J) := by
  intro f
  induction f with
  | zero =>
    intro k s x hk
    refine ⟨s, x, ?_⟩
    have : k = K := by omega
    subst this
    rw [e_X12_wish_93]
    simp only [e_X12_wish_95, e_X12_wish_96, if_pos (nI_le (Nat.le_refl k) (show k < 2 ^ 31 by omega)), Option.bind_some, Option.isSome_some, Option.toList, List.cons_append, List.nil_append, zclr_i, zclr_r, zclr_n, zfit_i, zfit_l, and_self, if_true, if_false]
    rfl
  | succ f ih =>
    intro k s x hk
    obtain ⟨s', x', e1⟩ := ih (k + 1) (s ||| 1 <<< ((J (8 + t) k).toInt32 &&& 31)) (some (J (8 + t) k)) (by omega)
    refine ⟨s', x', ?_⟩
    have hn : zcall d 249 [.ref 143, .int (nI t), .int (nI k)] (mk n m g I J) = some (some (.long (J (8 + t) k)), mk n m g I J) := by
      rw [m_X12_numberOf]
      simp only [e_X12_numberOf_0, e_X12_numberOf_1, e_X12_numberOf_4, e_X12_numberOf_6, e_X12_numberOf_7, e_X12_numberOf_8, e_X12_numberOf_9, e_X12_numberOf_10, e_X12_numberOf_11, g_143_6, nI_60, nI_neg (show 60 * t + k < 2 ^ 31 by omega), nI_clamp (show 60 * t + k < 2 ^ 31 by omega), k_146 (show 60 * t + k < 240 by omega), ← he k (by omega), Option.bind_some, Option.isSome_some, Option.toList, List.cons_append, List.nil_append, zclr_i, zclr_r, zclr_n, zfit_i, zfit_l, and_self, if_true, if_false]
    have hin : (¬ J (8 + t) k < 0 ∧ ¬ (nI S - 1).toInt64 < J (8 + t) k) ↔ (¬ J (8 + t) k < 0 ∧ J (8 + t) k < (nI S).toInt64) := by
      rw [Int64.lt_iff_toInt_lt (x := (nI S - 1).toInt64), Int64.lt_iff_toInt_lt (y := (nI S).toInt64), Int32.toInt_toInt64, Int32.toInt_toInt64, nI_predI (by omega), nI_toInt (by omega)]
      constructor <;> rintro ⟨a, b⟩ <;> exact ⟨a, by omega⟩
    rw [tellS, e_X12_wish_93]
    simp only [e_X12_wish_95, e_X12_wish_96, e_X12_wish_99, e_X12_wish_100, e_X12_wish_101, e_X12_wish_103, e_X12_wish_106, e_X12_wish_108, e_X12_wish_110, e_X12_wish_111, e_X12_wish_112, e_X12_wish_115, e_X12_wish_116, e_X12_wish_117, e_X12_wish_118, e_X12_wish_119, e_X12_wish_120, e_X12_wish_123, e_X12_wish_126, e_X12_wish_128, e_X12_wish_130, e_X12_wish_131, e_X12_wish_134, e_X12_wish_137, e_X12_wish_138, e_X12_wish_139, e_X12_wish_142, e_X12_wish_143, e_X12_wish_145, e_X12_wish_146, e_X12_wish_148, e_X12_wish_149, e_X12_wish_150, e_X12_wish_151, e_X12_wish_153, e_X12_wish_156, cA_6, cA_12, cA_18, cA_30, cA_42, cA_54, cA_66, cA_78, cA_90, cA_102, cA_114, cA_126, cA_138, cA_210, cA_222, lc_0, lc_1, lc_2, lc_3, lc_4, lc_5, g_143_20, q_148, c_143, hc, hn, if_neg (nI_ge (show k < K by omega) (show K < 2 ^ 31 by omega)), v_isInL, hin, v_has, v_no, nI_1, zfit_b0, Option.bind_some, Option.isSome_some, Option.toList, List.cons_append, List.nil_append, zclr_i, zclr_r, zclr_n, zfit_i, zfit_l, and_self, if_true, if_false]
    by_cases h1 : J (8 + t) k < 0
    · simp [h1, bI]
    · by_cases h2 : J (8 + t) k < (nI S).toInt64
      · rcases and1_case (s >>> ((J (8 + t) k).toInt32 &&& 31)) with h3 | h3
        · simp only [h1, h2, h3, not_true, not_false_eq_true, and_self, decide_true, decide_false, bI, if_false, if_true, or_self, Bool.false_eq_true, show ((0 : Int32) = 1) = False by decide, show ((1 : Int32) = 0) = False by decide]
          exact e1
        · simp [h1, h2, h3, bI]
      · simp [h1, h2, bI]
end RA
