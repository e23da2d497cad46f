/-! READING: the reference's next word -/
section RA
variable {n m : Nat} {g : Nat → zC} {I A X Y : Nat → Nat → Int32} {J JX JY : Nat → Nat → Int64} {L p q : Nat}
theorem l_asa (a b c : Int64) : a + b - c = a + (b - c) := by rw [Int64.sub_eq_add_neg, Int64.sub_eq_add_neg, Int64.add_assoc]
theorem i_asa (a b c : Int32) : a + b - c = a + (b - c) := by rw [Int32.sub_eq_add_neg, Int32.sub_eq_add_neg, Int32.add_assoc]
theorem isB_ex {v : Int32} (h : isB v) : ∃ k, k < 256 ∧ v = (Int8.ofNat k).toInt32 := by
  unfold isB at h
  refine ⟨v.toInt8.toBitVec.toNat, v.toInt8.toBitVec.isLt, ?_⟩
  have : Int8.ofNat v.toInt8.toBitVec.toNat = v.toInt8 := by
    apply Int8.toBitVec_inj.mp
    simp
  rw [this, h]
theorem byte_all : ∀ k, k < 256 → (((Int8.ofNat k).toInt32 &&& 255 = 10) = ((Int8.ofNat k).toInt32 = 10)) ∧ (((Int8.ofNat k).toInt32 &&& 255 = 32) = ((Int8.ofNat k).toInt32 = 32)) ∧ ((97 ≤ (Int8.ofNat k).toInt32 ∧ (Int8.ofNat k).toInt32 ≤ 122) = (97 ≤ (Int8.ofNat k).toInt32 &&& 255 ∧ (Int8.ofNat k).toInt32 &&& 255 ≤ 122)) ∧ ((48 ≤ (Int8.ofNat k).toInt32 ∧ (Int8.ofNat k).toInt32 ≤ 57) = (48 ≤ (Int8.ofNat k).toInt32 &&& 255 ∧ (Int8.ofNat k).toInt32 &&& 255 ≤ 57)) ∧ (97 ≤ (Int8.ofNat k).toInt32 ∧ (Int8.ofNat k).toInt32 ≤ 122 → (Int8.ofNat k).toInt32 &&& 255 = (Int8.ofNat k).toInt32 ∧ ((Int8.ofNat k).toInt32 - 97 + 1).toInt64 = (Int8.ofNat k).toInt32.toInt64 - 96 ∧ ((Int8.ofNat k).toInt32 - 97 + 1).toInt64 ≠ 0) ∧ (48 ≤ (Int8.ofNat k).toInt32 ∧ (Int8.ofNat k).toInt32 ≤ 57 → (Int8.ofNat k).toInt32 &&& 255 = (Int8.ofNat k).toInt32) ∧ toC ((Int8.ofNat k).toInt32 &&& 255) = (Int8.ofNat k).toInt32 &&& 255 := by decide +kernel
theorem dRun_in (lo hi : Int32) : ∀ f e k, e ≤ k → k < dRun I lo hi e f → lo ≤ I 12 k ∧ I 12 k ≤ hi
  | 0, e, k, h1, h2 => by
    rw [dRun] at h2
    omega
  | f + 1, e, k, h1, h2 => by
    rw [dRun] at h2
    split at h2
    · rename_i h
      by_cases c : k = e
      · rw [c]
        exact h
      · exact dRun_in lo hi f (e + 1) k (by omega) h2
    · omega
theorem dRun_out (lo hi : Int32) : ∀ f e, dRun I lo hi e f < e + f → ¬ (lo ≤ I 12 (dRun I lo hi e f) ∧ I 12 (dRun I lo hi e f) ≤ hi)
  | 0, e, h => by
    rw [dRun] at h
    omega
  | f + 1, e, h => by
    rw [dRun] at h ⊢
    by_cases c : lo ≤ I 12 e ∧ I 12 e ≤ hi
    · rw [if_pos c] at h ⊢
      exact dRun_out lo hi f (e + 1) (by omega)
    · rw [if_neg c]
      exact c
theorem dPack_succ : ∀ f k w, dPack I k (f + 1) w = if dPack I k f w = -1 then -1 else dPack I k f w * 32 + (I 12 (k + f) - 97 + 1).toInt64
  | 0, k, w => by
    rw [dPack, dPack, dPack]
    split
    · rename_i h
      rw [h]
    · rfl
  | f + 1, k, w => by
    rw [dPack]
    by_cases c : w = -1
    · rw [if_pos c, c, dPack_m1, if_pos rfl]
    · have h2 : dPack I k (f + 1) w = dPack I (k + 1) f (w * 32 + (I 12 k - 97 + 1).toInt64) := by rw [dPack, if_neg c]
      rw [if_neg c, dPack_succ f (k + 1), h2, show k + 1 + f = k + (f + 1) by omega]
theorem dNum_succ : ∀ f k x, dNum I k (f + 1) x = dNum I k f x * 10 + (I 12 (k + f) - 48)
  | 0, k, x => rfl
  | f + 1, k, x => by
    rw [dNum, dNum_succ f (k + 1), show k + 1 + f = k + (f + 1) by omega]
    rfl
theorem letter_lN {v : Int32} (hB : isB v) (h : 97 ≤ v ∧ v ≤ 122) : ∃ c, 1 ≤ c ∧ c ≤ 26 ∧ (v - 97 + 1).toInt64 = lL c ∧ v.toInt64 - 96 = lL c := by
  obtain ⟨k, hk, rfl⟩ := isB_ex hB
  have : ∀ k, k < 256 → 97 ≤ (Int8.ofNat k).toInt32 ∧ (Int8.ofNat k).toInt32 ≤ 122 → 97 ≤ k ∧ k ≤ 122 ∧ ((Int8.ofNat k).toInt32 - 97 + 1).toInt64 = lL (k - 96) ∧ (Int8.ofNat k).toInt32.toInt64 - 96 = lL (k - 96) := by decide +kernel
  obtain ⟨h1, h2, h3, h4⟩ := this k hk h
  exact ⟨k - 96, by omega, by omega, h3, h4⟩
theorem lL_m1 {z : Nat} (h : z < 2 ^ 63) : lL z ≠ -1 := fun e => by
  have := congrArg Int64.toInt e
  rw [lL_toInt h] at this
  have h2 : (-1 : Int64).toInt = -1 := rfl
  omega
theorem dPack_lN {q e : Nat} (hB : ∀ k, k < 900 → isB (I 12 k)) (he : e ≤ 900) (hl : ∀ k, q ≤ k → k < e → 97 ≤ I 12 k ∧ I 12 k ≤ 122) : ∀ j, q + j ≤ e → j ≤ 8 → ∃ z, z < 32 ^ j ∧ (0 < j → 0 < z) ∧ dPack I q j 0 = lL z
  | 0, _, _ => ⟨0, by decide, fun h => absurd h (by decide), rfl⟩
  | j + 1, h1, h2 => by
    obtain ⟨z, hz, _, ez⟩ := dPack_lN hB he hl j (by omega) (by omega)
    obtain ⟨c, c1, c2, c3, _⟩ := letter_lN (hB (q + j) (by omega)) (hl (q + j) (by omega) (by omega))
    have hp : 32 ^ j ≤ 32 ^ 8 := Nat.pow_le_pow_right (by decide) (by omega)
    have hp8 : 32 ^ 8 < 2 ^ 63 := by decide
    refine ⟨z * 32 + c, ?_, fun _ => by omega, ?_⟩
    · rw [Nat.pow_succ]
      omega
    · rw [dPack_succ, ez, if_neg (lL_m1 (by omega)), c3, show (32 : Int64) = lL 32 from rfl, lL_mul, lL_add]
theorem dSkip_in : ∀ f p k, p ≤ k → k < dSkip I p f → I 12 k = 32 ∨ I 12 k = 10
  | 0, p, k, h1, h2 => by
    rw [dSkip] at h2
    omega
  | f + 1, p, k, h1, h2 => by
    rw [dSkip] at h2
    split at h2
    · rename_i h
      by_cases c : k = p
      · rw [c]
        exact h
      · exact dSkip_in f (p + 1) k (by omega) h2
    · omega
theorem dSkip_out : ∀ f p, dSkip I p f < p + f → ¬ (I 12 (dSkip I p f) = 32 ∨ I 12 (dSkip I p f) = 10)
  | 0, p, h => by
    rw [dSkip] at h
    omega
  | f + 1, p, h => by
    rw [dSkip] at h ⊢
    by_cases c : I 12 p = 32 ∨ I 12 p = 10
    · rw [if_pos c] at h ⊢
      exact dSkip_out f (p + 1) (by omega)
    · rw [if_neg c]
      exact c
theorem dRun_row {lo hi : Int32} (h : A 12 = I 12) : ∀ f e, dRun A lo hi e f = dRun I lo hi e f
  | 0, _ => rfl
  | f + 1, e => by rw [dRun, dRun, h, dRun_row h f]
theorem dPack_row (h : A 12 = I 12) : ∀ f k w, dPack A k f w = dPack I k f w
  | 0, _, _ => rfl
  | f + 1, k, w => by rw [dPack, dPack, h, dPack_row h f]
theorem dNum_row (h : A 12 = I 12) : ∀ f k x, dNum A k f x = dNum I k f x
  | 0, _, _ => rfl
  | f + 1, k, x => by rw [dNum, dNum, h, dNum_row h f]
/-- the word that stands here, to both -/
def TK (X : Nat → Nat → Int32) (JX : Nat → Nat → Int64) (Y : Nat → Nat → Int32) (JY : Nat → Nat → Int64) : Prop := Y 143 9 = X 13 2 ∧ Y 143 15 = X 13 4 ∧ Y 143 16 = X 13 3 ∧ ((X 13 5 = 0 ∧ Y 143 14 = 0 ∧ X 13 9 = -1) ∨ (X 13 5 = 1 ∧ Y 143 14 = 4 ∧ X 13 9 = -1) ∨ (X 13 5 = 2 ∧ Y 143 14 = 1 ∧ JY 143 19 = JX 13 8 ∧ ((Y 143 18 ≤ 8) = (JX 13 8 ≠ -1)) ∧ X 13 9 = wPlace JX 14 27 (JX 13 8) ∧ (JX 13 8 ≠ -1 → 0 < JX 13 8)) ∨ (X 13 5 = 3 ∧ Y 143 14 = 2 ∧ Y 143 17 = X 13 6 ∧ X 13 9 = -1) ∨ (X 13 5 = 4 ∧ Y 143 14 = 3 ∧ (Y 143 17 = X 13 7 ∧ (X 13 7 = 59 ∨ X 13 7 = 60 ∨ X 13 7 = 62 ∨ X 13 7 = 61)) ∧ X 13 9 = -1))
theorem v_isLetter {x : Int32} (d : Nat) (h : zH) : zcall d 254 [.int x] h = some (some (.int (bI (decide (97 ≤ x ∧ x ≤ 122)))), h) := by
  rw [m_X12_isLetter]
  simp only [e_X12_isLetter_0, e_X12_isLetter_1, e_X12_isLetter_3, e_X12_isLetter_6, e_X12_isLetter_7, e_X12_isLetter_9, e_X12_isLetter_12, e_X12_isLetter_13, e_X12_isLetter_16, e_X12_isLetter_17, Option.bind_some, Option.isSome_some, Option.toList, List.cons_append, List.nil_append, zclr_i, zclr_r, zclr_n, zfit_i, zfit_l, and_self, if_true, if_false]
  by_cases h1 : x < 97
  · simp [h1, Int32.not_le.mpr h1, bI, zfit_b0]
  · by_cases h2 : 122 < x
    · simp [h1, h2, Int32.not_le.mpr h2, bI, zfit_b0]
    · simp [h1, h2, Int32.not_lt.mp h1, Int32.not_lt.mp h2, bI, zfit_b1]
theorem v_isDigit {x : Int32} (d : Nat) (h : zH) : zcall d 255 [.int x] h = some (some (.int (bI (decide (48 ≤ x ∧ x ≤ 57)))), h) := by
  rw [m_X12_isDigit]
  simp only [e_X12_isDigit_0, e_X12_isDigit_1, e_X12_isDigit_3, e_X12_isDigit_6, e_X12_isDigit_7, e_X12_isDigit_9, e_X12_isDigit_12, e_X12_isDigit_13, e_X12_isDigit_16, e_X12_isDigit_17, Option.bind_some, Option.isSome_some, Option.toList, List.cons_append, List.nil_append, zclr_i, zclr_r, zclr_n, zfit_i, zfit_l, and_self, if_true, if_false]
  by_cases h1 : x < 48
  · simp [h1, Int32.not_le.mpr h1, bI, zfit_b0]
  · by_cases h2 : 57 < x
    · simp [h1, h2, Int32.not_le.mpr h2, bI, zfit_b0]
    · simp [h1, h2, Int32.not_lt.mp h1, Int32.not_lt.mp h2, bI, zfit_b1]
theorem v_isSignByte {x : Int32} (d : Nat) (h : zH) : zcall d 256 [.ref 143, .int x] h = some (some (.int (bI (decide (x = 59 ∨ x = 60 ∨ x = 62 ∨ x = 61)))), h) := by
  rw [m_X12_isSignByte]
  simp only [e_X12_isSignByte_0, e_X12_isSignByte_1, e_X12_isSignByte_3, e_X12_isSignByte_6, e_X12_isSignByte_7, e_X12_isSignByte_9, e_X12_isSignByte_12, e_X12_isSignByte_13, e_X12_isSignByte_15, e_X12_isSignByte_18, e_X12_isSignByte_19, e_X12_isSignByte_21, e_X12_isSignByte_24, e_X12_isSignByte_25, e_X12_isSignByte_28, e_X12_isSignByte_29, Option.bind_some, Option.isSome_some, Option.toList, List.cons_append, List.nil_append, zclr_i, zclr_r, zclr_n, zfit_i, zfit_l, and_self, if_true, if_false]
  by_cases h1 : x = 59
  · simp [h1, bI, zfit_b1]
  · by_cases h2 : x = 60
    · simp [h2, bI, zfit_b1]
    · by_cases h3 : x = 62
      · simp [h3, bI, zfit_b1]
      · by_cases h4 : x = 61 <;> simp [h1, h2, h3, h4, bI, zfit_b0, zfit_b1]
theorem v_look2 {k : Nat} (h9 : Y 143 9 = nI L) (hL : L ≤ 900) (hk : k < 2 ^ 31) (d : Nat) : zcall d 253 [.ref 143, .int (nI k)] (mk n m g Y JY) = some (some (.int (if k < L then Y 147 k &&& 255 else 0)), mk n m g Y JY) := by
  rw [m_X12_look2]
  by_cases h : k < L
  · simp only [e_X12_look2_0, e_X12_look2_1, e_X12_look2_2, e_X12_look2_5, e_X12_look2_8, e_X12_look2_9, e_X12_look2_12, e_X12_look2_13, e_X12_look2_14, e_X12_look2_17, e_X12_look2_18, e_X12_look2_21, e_X12_look2_22, g_143_9, g_143_7, h9, if_neg (nI_ge h (show L < 2 ^ 31 by omega)), l_147 (show k < 900 by omega), h, Option.bind_some, Option.isSome_some, Option.toList, List.cons_append, List.nil_append, zclr_i, zclr_r, zclr_n, zfit_i, zfit_l, and_self, if_true, if_false]
  · simp only [e_X12_look2_0, e_X12_look2_1, e_X12_look2_2, e_X12_look2_5, e_X12_look2_8, e_X12_look2_9, e_X12_look2_12, e_X12_look2_13, e_X12_look2_14, e_X12_look2_17, e_X12_look2_18, e_X12_look2_21, e_X12_look2_22, g_143_9, h9, if_pos (nI_le (show L ≤ k by omega) hk), h, Option.bind_some, Option.isSome_some, Option.toList, List.cons_append, List.nil_append, zclr_i, zclr_r, zclr_n, zfit_i, zfit_l, and_self, if_true, if_false]
/-- bytes, as both see them -/
theorem byte_ws {v : Int32} (h : isB v) : ((v &&& 255 = 10) = (v = 10)) ∧ ((v &&& 255 = 32) = (v = 32)) := by
  obtain ⟨k, hk, rfl⟩ := isB_ex h
  exact ⟨(byte_all k hk).1, (byte_all k hk).2.1⟩
theorem byte_le {v : Int32} (h : isB v) : (97 ≤ v &&& 255 ∧ v &&& 255 ≤ 122) = (97 ≤ v ∧ v ≤ 122) := by
  obtain ⟨k, hk, rfl⟩ := isB_ex h
  exact (byte_all k hk).2.2.1.symm
theorem byte_di {v : Int32} (h : isB v) : (48 ≤ v &&& 255 ∧ v &&& 255 ≤ 57) = (48 ≤ v ∧ v ≤ 57) := by
  obtain ⟨k, hk, rfl⟩ := isB_ex h
  exact (byte_all k hk).2.2.2.1.symm
theorem byte_lv {v : Int32} (h : isB v) (hl : 97 ≤ v ∧ v ≤ 122) : v &&& 255 = v := by
  obtain ⟨k, hk, rfl⟩ := isB_ex h
  exact ((byte_all k hk).2.2.2.2.1 hl).1
theorem byte_dv {v : Int32} (h : isB v) (hl : 48 ≤ v ∧ v ≤ 57) : v &&& 255 = v := by
  obtain ⟨k, hk, rfl⟩ := isB_ex h
  exact (byte_all k hk).2.2.2.2.2.1 hl
theorem byte_c {v : Int32} (h : isB v) : toC (v &&& 255) = v &&& 255 := by
  obtain ⟨k, hk, rfl⟩ := isB_ex h
  exact (byte_all k hk).2.2.2.2.2.2
/-- the text, to both -/
def TX (X Y : Nat → Nat → Int32) (L : Nat) : Prop := (∀ k, k < 900 → X 12 k = Y 147 k ∧ isB (X 12 k)) ∧ Y 143 9 = nI L ∧ L ≤ 900
theorem va_skip (h : TX X Y L) (d : Nat) : ∀ f k, k + f = L → zexec (d + 1) 257 8 [some (.ref 143), none] [] (mk n m g (zu Y 143 15 (nI k)) JY) = zexec (d + 1) 257 58 [some (.ref 143), none] [] (mk n m g (zu Y 143 15 (nI (dSkip X k f))) JY) := by
  obtain ⟨h1, h2, h3⟩ := h
  intro f
  induction f with
  | zero =>
    intro k hk
    have e15 : zu Y 143 15 (nI k) 143 15 = nI k := by rw [zu_row, if_pos rfl]
    have e9 : zu Y 143 15 (nI k) 143 9 = nI L := by rw [zu_row, if_neg (by decide), h2]
    rw [e_X12_advance_8, dSkip]
    simp only [e_X12_advance_9, e_X12_advance_12, e_X12_advance_13, e_X12_advance_16, g_143_15, g_143_9, e15, e9, if_pos (nI_le (show L ≤ k by omega) (show k < 2 ^ 31 by omega)), Option.bind_some, Option.isSome_some, Option.toList, List.cons_append, List.nil_append, zclr_i, zclr_r, zclr_n, zfit_i, zfit_l, and_self, if_true, if_false]
  | succ f ih =>
    intro k hk
    have e15 : zu Y 143 15 (nI k) 143 15 = nI k := by rw [zu_row, if_pos rfl]
    have e9 : zu Y 143 15 (nI k) 143 9 = nI L := by rw [zu_row, if_neg (by decide), h2]
    have hlk := v_look2 (n := n) (m := m) (g := g) (JY := JY) e9 h3 (show k < 2 ^ 31 by omega) d
    rw [if_pos (show k < L by omega), zu_far _ _ _ (by decide), ← (h1 k (by omega)).1] at hlk
    obtain ⟨b1, b2⟩ := byte_ws (h1 k (by omega)).2
    have hi := ih (k + 1) (by omega)
    rw [e_X12_advance_8, dSkip]
    simp only [e_X12_advance_9, e_X12_advance_12, e_X12_advance_13, e_X12_advance_16, e_X12_advance_19, e_X12_advance_20, e_X12_advance_21, e_X12_advance_24, e_X12_advance_27, e_X12_advance_29, e_X12_advance_32, e_X12_advance_33, e_X12_advance_34, e_X12_advance_37, e_X12_advance_40, e_X12_advance_42, e_X12_advance_45, e_X12_advance_46, e_X12_advance_47, e_X12_advance_50, e_X12_advance_51, e_X12_advance_52, e_X12_advance_55, c_143, g_143_15, g_143_9, p_143_15, e15, e9, if_neg (nI_ge (show k < L by omega) (show L < 2 ^ 31 by omega)), hlk, zu_zu, nI_1, Option.bind_some, Option.isSome_some, Option.toList, List.cons_append, List.nil_append, zclr_i, zclr_r, zclr_n, zfit_i, zfit_l, and_self, if_true, if_false]
    by_cases c1 : X 12 k = 10
    · rw [if_pos (Or.inr c1)]
      simp only [show (X 12 k &&& 255 = 10) = True from b1.trans (eq_true c1), if_true]
      exact hi
    · by_cases c2 : X 12 k = 32
      · rw [if_pos (Or.inl c2)]
        simp only [show (X 12 k &&& 255 = 10) = False from b1.trans (eq_false c1), show (X 12 k &&& 255 = 32) = True from b2.trans (eq_true c2), if_true, if_false, ne_eq, not_true]
        exact hi
      · rw [if_neg (show ¬ (X 12 k = 32 ∨ X 12 k = 10) from fun h => h.elim c2 c1)]
        simp only [show (X 12 k &&& 255 = 10) = False from b1.trans (eq_false c1), show (X 12 k &&& 255 = 32) = False from b2.trans (eq_false c2), if_true, if_false, ne_eq, not_false_eq_true]
/-- the letters so far -/
def wSo (X : Nat → Nat → Int32) (q j : Nat) : Int64 := if j ≤ 8 then dPack X q j 0 else -1
theorem va_word {x1 : Int32} {e : Nat} (h : TX X Y L) (hq : q < L) (h15 : Y 143 15 = nI q) (he : e = dRun X 97 122 q (L - q)) (d : Nat) : ∀ f j, q + j + f = e → zexec (d + 1) 257 109 [some (.ref 143), some (.int x1)] [] (mk n m g (zu Y 143 16 (nI (q + j))) (zu JY 143 19 (wSo X q j))) = zexec (d + 1) 257 182 [some (.ref 143), some (.int x1)] [] (mk n m g (zu Y 143 16 (nI e)) (zu JY 143 19 (wSo X q (e - q)))) := by
  obtain ⟨h1, h2, h3⟩ := h
  have hle := dRun_le (I := X) 97 122 (L - q) q
  rw [← he] at hle
  intro f
  induction f with
  | zero =>
    intro j hj
    have e16 : zu Y 143 16 (nI (q + j)) 143 16 = nI (q + j) := by rw [zu_row, if_pos rfl]
    have e9 : zu Y 143 16 (nI (q + j)) 143 9 = nI L := by rw [zu_row, if_neg (by decide), h2]
    have hlk := v_look2 (n := n) (m := m) (g := g) (JY := zu JY 143 19 (wSo X q j)) e9 h3 (show q + j < 2 ^ 31 by omega) d
    have hno : ¬ (97 ≤ (if q + j < L then zu Y 143 16 (nI (q + j)) 147 (q + j) &&& 255 else 0) ∧ (if q + j < L then zu Y 143 16 (nI (q + j)) 147 (q + j) &&& 255 else 0) ≤ 122) := by
      by_cases c : q + j < L
      · rw [if_pos c, zu_far _ _ _ (by decide), ← (h1 _ (by omega)).1, byte_le (h1 _ (by omega)).2]
        have := dRun_out (I := X) 97 122 (L - q) q (by rw [← he]; omega)
        rw [← he] at this
        rw [show q + j = e by omega]
        exact this
      · rw [if_neg c]
        decide
    have ej : e - q = j := by omega
    rw [e_X12_advance_109, ej, show e = q + j by omega]
    simp only [e_X12_advance_110, e_X12_advance_111, e_X12_advance_114, e_X12_advance_117, e_X12_advance_120, c_143, g_143_16, e16, hlk, v_isLetter, hno, decide_false, bI, Bool.false_eq_true, Option.bind_some, Option.isSome_some, Option.toList, List.cons_append, List.nil_append, zclr_i, zclr_r, zclr_n, zfit_i, zfit_l, and_self, if_true, if_false]
  | succ f ih =>
    intro j hj
    have e16 : zu Y 143 16 (nI (q + j)) 143 16 = nI (q + j) := by rw [zu_row, if_pos rfl]
    have e15 : zu Y 143 16 (nI (q + j)) 143 15 = nI q := by rw [zu_row, if_neg (by decide), h15]
    have e9 : zu Y 143 16 (nI (q + j)) 143 9 = nI L := by rw [zu_row, if_neg (by decide), h2]
    have hlk := fun JY => v_look2 (n := n) (m := m) (g := g) (JY := JY) e9 h3 (show q + j < 2 ^ 31 by omega) d
    have hle2 := dRun_in (I := X) 97 122 (L - q) q (q + j) (by omega) (by rw [← he]; omega)
    have hb := (h1 (q + j) (by omega)).2
    rw [if_pos (show q + j < L by omega), zu_far _ _ _ (by decide), ← (h1 _ (by omega)).1, byte_lv hb hle2] at hlk
    have e19 : zu JY 143 19 (wSo X q j) 143 19 = wSo X q j := by rw [zu_row, if_pos rfl]
    have hi := ih (j + 1) (by omega)
    have esub : nI (q + j) - nI q = nI j := by rw [nI_subn (by omega), Nat.add_sub_cancel_left]
    rw [e_X12_advance_109, ← hi]
    by_cases c : j < 8
    · have hw : wSo X q j * 32 + (X 12 (q + j)).toInt64 - 96 = wSo X q (j + 1) := by
        obtain ⟨z, hz, _, ez⟩ := dPack_lN (I := X) (q := q) (e := e) (fun k hk => (h1 k hk).2) (by omega) (fun k k1 k2 => dRun_in 97 122 (L - q) q k k1 (by rw [← he]; exact k2)) j (by omega) (by omega)
        have hp : 32 ^ j ≤ 32 ^ 8 := Nat.pow_le_pow_right (by decide) (by omega)
        have hp8 : 32 ^ 8 < 2 ^ 63 := by decide
        obtain ⟨c', _, _, c3, c4⟩ := letter_lN hb hle2
        unfold wSo
        rw [if_pos (by omega), if_pos (by omega), dPack_succ, if_neg (by rw [ez]; exact lL_m1 (by omega)), l_asa, c3, c4]
      simp only [e_X12_advance_110, e_X12_advance_111, e_X12_advance_114, e_X12_advance_117, e_X12_advance_120, e_X12_advance_123, e_X12_advance_124, e_X12_advance_125, e_X12_advance_128, e_X12_advance_129, e_X12_advance_132, e_X12_advance_133, e_X12_advance_135, e_X12_advance_138, e_X12_advance_139, e_X12_advance_142, e_X12_advance_145, e_X12_advance_146, e_X12_advance_147, e_X12_advance_148, e_X12_advance_151, e_X12_advance_154, e_X12_advance_155, e_X12_advance_156, e_X12_advance_159, e_X12_advance_160, e_X12_advance_163, e_X12_advance_166, e_X12_advance_169, e_X12_advance_170, e_X12_advance_171, e_X12_advance_174, e_X12_advance_175, e_X12_advance_176, e_X12_advance_179, c_143, g_143_15, g_143_16, g_143_19, p_143_16, p_143_19, e16, e15, e19, hlk, v_isLetter, hle2, decide_true, bI, show ((1 : Int32) = 0) = False by decide, esub, if_neg (show ¬ (8 : Int32) ≤ nI j from nI_ge (b := 8) c (by decide)), hw, zu_zu, nI_1, Nat.add_assoc, Option.bind_some, Option.isSome_some, Option.toList, List.cons_append, List.nil_append, zclr_i, zclr_r, zclr_n, zfit_i, zfit_l, and_self, if_true, if_false]
    · have hw : (-1 : Int64) = wSo X q (j + 1) := by
        unfold wSo
        rw [if_neg (by omega)]
      simp only [e_X12_advance_110, e_X12_advance_111, e_X12_advance_114, e_X12_advance_117, e_X12_advance_120, e_X12_advance_123, e_X12_advance_124, e_X12_advance_125, e_X12_advance_128, e_X12_advance_129, e_X12_advance_132, e_X12_advance_133, e_X12_advance_135, e_X12_advance_138, e_X12_advance_139, e_X12_advance_142, e_X12_advance_145, e_X12_advance_146, e_X12_advance_147, e_X12_advance_148, e_X12_advance_151, e_X12_advance_154, e_X12_advance_155, e_X12_advance_156, e_X12_advance_159, e_X12_advance_160, e_X12_advance_163, e_X12_advance_166, e_X12_advance_169, e_X12_advance_170, e_X12_advance_171, e_X12_advance_174, e_X12_advance_175, e_X12_advance_176, e_X12_advance_179, c_143, g_143_15, g_143_16, g_143_19, p_143_16, p_143_19, e16, e15, hlk, v_isLetter, hle2, decide_true, bI, show ((1 : Int32) = 0) = False by decide, esub, if_pos (show (8 : Int32) ≤ nI j from nI_le (a := 8) (by omega) (by omega)), ← hw, zu_zu, nI_1, Nat.add_assoc, Option.bind_some, Option.isSome_some, Option.toList, List.cons_append, List.nil_append, zclr_i, zclr_r, zclr_n, zfit_i, zfit_l, and_self, if_true, if_false]
/-- the digits so far -/
def nSo (X : Nat → Nat → Int32) (q j : Nat) : Int32 := dNum X q (if j < 4 then j else 4) 0
theorem va_num {x1 : Int32} {e : Nat} (h : TX X Y L) (hq : q < L) (h15 : Y 143 15 = nI q) (he : e = dRun X 48 57 q (L - q)) (d : Nat) : ∀ f j, q + j + f = e → zexec (d + 1) 257 210 [some (.ref 143), some (.int x1)] [] (mk n m g (zu (zu Y 143 17 (nSo X q j)) 143 16 (nI (q + j))) JY) = zexec (d + 1) 257 273 [some (.ref 143), some (.int x1)] [] (mk n m g (zu (zu Y 143 17 (nSo X q (e - q))) 143 16 (nI e)) JY) := by
  obtain ⟨h1, h2, h3⟩ := h
  have hle := dRun_le (I := X) 48 57 (L - q) q
  rw [← he] at hle
  intro f
  induction f with
  | zero =>
    intro j hj
    have e16 : zu (zu Y 143 17 (nSo X q j)) 143 16 (nI (q + j)) 143 16 = nI (q + j) := by rw [zu_row, if_pos rfl]
    have e9 : zu (zu Y 143 17 (nSo X q j)) 143 16 (nI (q + j)) 143 9 = nI L := by rw [zu_row, if_neg (by decide), zu_row, if_neg (by decide), h2]
    have hlk := v_look2 (n := n) (m := m) (g := g) (JY := JY) e9 h3 (show q + j < 2 ^ 31 by omega) d
    have hno : ¬ (48 ≤ (if q + j < L then zu (zu Y 143 17 (nSo X q j)) 143 16 (nI (q + j)) 147 (q + j) &&& 255 else 0) ∧ (if q + j < L then zu (zu Y 143 17 (nSo X q j)) 143 16 (nI (q + j)) 147 (q + j) &&& 255 else 0) ≤ 57) := by
      by_cases c : q + j < L
      · rw [if_pos c, zu_far _ _ _ (by decide), zu_far _ _ _ (by decide), ← (h1 _ (by omega)).1, byte_di (h1 _ (by omega)).2]
        have := dRun_out (I := X) 48 57 (L - q) q (by rw [← he]; omega)
        rw [← he] at this
        rw [show q + j = e by omega]
        exact this
      · rw [if_neg c]
        decide
    have ej : e - q = j := by omega
    rw [e_X12_advance_210, ej, show e = q + j by omega]
    simp only [e_X12_advance_211, e_X12_advance_212, e_X12_advance_215, e_X12_advance_218, e_X12_advance_221, c_143, g_143_16, e16, hlk, v_isDigit, hno, decide_false, bI, Bool.false_eq_true, Option.bind_some, Option.isSome_some, Option.toList, List.cons_append, List.nil_append, zclr_i, zclr_r, zclr_n, zfit_i, zfit_l, and_self, if_true, if_false]
  | succ f ih =>
    intro j hj
    have e16 : zu (zu Y 143 17 (nSo X q j)) 143 16 (nI (q + j)) 143 16 = nI (q + j) := by rw [zu_row, if_pos rfl]
    have e15 : zu (zu Y 143 17 (nSo X q j)) 143 16 (nI (q + j)) 143 15 = nI q := by rw [zu_row, if_neg (by decide), zu_row, if_neg (by decide), h15]
    have e17 : zu (zu Y 143 17 (nSo X q j)) 143 16 (nI (q + j)) 143 17 = nSo X q j := by rw [zu_row, if_neg (by decide), zu_row, if_pos rfl]
    have e9 : zu (zu Y 143 17 (nSo X q j)) 143 16 (nI (q + j)) 143 9 = nI L := by rw [zu_row, if_neg (by decide), zu_row, if_neg (by decide), h2]
    have hlk := v_look2 (n := n) (m := m) (g := g) (JY := JY) e9 h3 (show q + j < 2 ^ 31 by omega) d
    have hle2 := dRun_in (I := X) 48 57 (L - q) q (q + j) (by omega) (by rw [← he]; omega)
    have hb := (h1 (q + j) (by omega)).2
    rw [if_pos (show q + j < L by omega), zu_far _ _ _ (by decide), zu_far _ _ _ (by decide), ← (h1 _ (by omega)).1, byte_dv hb hle2] at hlk
    have hi := ih (j + 1) (by omega)
    have esub : nI (q + j) - nI q = nI j := by rw [nI_subn (by omega), Nat.add_sub_cancel_left]
    have hsw : ∀ v w : Int32, zu (zu (zu Y 143 17 v) 143 16 w) 143 17 (nSo X q (j + 1)) = zu (zu Y 143 17 (nSo X q (j + 1))) 143 16 w := fun v w => by
      funext a k
      simp only [zu]
      by_cases c1 : a = 143 ∧ k = 17
      · simp [c1]
      · by_cases c2 : a = 143 ∧ k = 16
        · simp [c2]
        · simp [c1, c2]
    rw [e_X12_advance_210, ← hi]
    by_cases c : j < 4
    · have hw : 10 * nSo X q j + X 12 (q + j) - 48 = nSo X q (j + 1) := by
        unfold nSo
        rw [if_pos c, show (if j + 1 < 4 then j + 1 else 4) = j + 1 by split <;> omega, dNum_succ, Int32.mul_comm, i_asa]
      simp only [e_X12_advance_211, e_X12_advance_212, e_X12_advance_215, e_X12_advance_218, e_X12_advance_221, e_X12_advance_224, e_X12_advance_225, e_X12_advance_228, e_X12_advance_229, e_X12_advance_232, e_X12_advance_233, e_X12_advance_234, e_X12_advance_237, e_X12_advance_238, e_X12_advance_240, e_X12_advance_241, e_X12_advance_244, e_X12_advance_245, e_X12_advance_246, e_X12_advance_247, e_X12_advance_250, e_X12_advance_253, e_X12_advance_254, e_X12_advance_256, e_X12_advance_257, e_X12_advance_260, e_X12_advance_261, e_X12_advance_262, e_X12_advance_265, e_X12_advance_266, e_X12_advance_267, e_X12_advance_270, c_143, g_143_15, g_143_16, g_143_17, p_143_16, p_143_17, e16, e15, e17, hlk, v_isDigit, hle2, decide_true, bI, show ((1 : Int32) = 0) = False by decide, esub, if_neg (show ¬ (4 : Int32) ≤ nI j from nI_ge (b := 4) c (by decide)), hw, hsw, zu_row, zu_zu, nI_1, Nat.add_assoc, Option.bind_some, Option.isSome_some, Option.toList, List.cons_append, List.nil_append, zclr_i, zclr_r, zclr_n, zfit_i, zfit_l, and_self, if_true, if_false]
    · have hw : nSo X q (j + 1) = nSo X q j := by
        unfold nSo
        rw [if_neg c, if_neg (by omega)]
      rw [hw]
      simp only [e_X12_advance_211, e_X12_advance_212, e_X12_advance_215, e_X12_advance_218, e_X12_advance_221, e_X12_advance_224, e_X12_advance_225, e_X12_advance_228, e_X12_advance_229, e_X12_advance_232, e_X12_advance_233, e_X12_advance_234, e_X12_advance_237, e_X12_advance_238, e_X12_advance_240, e_X12_advance_241, e_X12_advance_244, e_X12_advance_245, e_X12_advance_246, e_X12_advance_247, e_X12_advance_250, e_X12_advance_253, e_X12_advance_254, e_X12_advance_256, e_X12_advance_257, e_X12_advance_260, e_X12_advance_261, e_X12_advance_262, e_X12_advance_265, e_X12_advance_266, e_X12_advance_267, e_X12_advance_270, c_143, g_143_15, g_143_16, g_143_17, p_143_16, p_143_17, e16, e15, e17, hlk, v_isDigit, hle2, decide_true, bI, show ((1 : Int32) = 0) = False by decide, esub, if_pos (show (4 : Int32) ≤ nI j from nI_le (a := 4) (by omega) (by omega)), zu_zu, nI_1, Nat.add_assoc, Option.bind_some, Option.isSome_some, Option.toList, List.cons_append, List.nil_append, zclr_i, zclr_r, zclr_n, zfit_i, zfit_l, and_self, if_true, if_false]
end RA
