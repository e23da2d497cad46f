/-! THE REFERENCE: questions -/
section RF
variable {n m : Nat} {g : Nat → zC} {I A : Nat → Nat → Int32} {J : Nat → Nat → Int64} {b N S U : Nat}
theorem v_refuse {w : Int32} (d : Nat) : zcall d 238 [.ref 143, .int w] (mk n m g I J) = some (some (.int (-1)), mk n m g (zu I 143 0 w) J) := by
  rw [m_X12_refuse]
  simp only [e_X12_refuse_0, e_X12_refuse_1, e_X12_refuse_2, e_X12_refuse_5, e_X12_refuse_6, g_143_0, p_143_0, Option.bind_some, Option.isSome_some, Option.toList, List.cons_append, List.nil_append, zclr_i, zclr_r, zclr_n, zfit_i, zfit_l, and_self, if_true, if_false]
theorem v_no {w : Int32} (d : Nat) : zcall d 239 [.ref 143, .int w] (mk n m g I J) = some (some (.int 0), mk n m g (zu I 143 0 w) J) := by
  rw [m_X12_no]
  simp only [e_X12_no_0, e_X12_no_1, e_X12_no_2, e_X12_no_5, e_X12_no_6, g_143_0, p_143_0, zfit_b0, Option.bind_some, Option.isSome_some, Option.toList, List.cons_append, List.nil_append, zclr_i, zclr_r, zclr_n, zfit_i, zfit_l, and_self, if_true, if_false]
theorem lg_lt0 (x y : Int64) : (lg_cmp x y < 0) = (x < y) := by
  unfold lg_cmp
  by_cases h1 : x > y
  · rw [if_pos h1]
    have : ¬ x < y := fun h => Int64.lt_asymm h h1
    simp [this]
  · rw [if_neg h1]
    by_cases h2 : x = y
    · subst h2
      have : ¬ x < x := Int64.lt_irrefl
      simp [this]
    · rw [if_neg h2]
      have : x < y := by
        rcases Int64.lt_or_lt_of_ne h2 with h | h
        · exact h
        · exact absurd h h1
      simp [this]
theorem lg_gt0 (x y : Int64) : (0 < lg_cmp x y) = (y < x) := by
  unfold lg_cmp
  by_cases h1 : x > y
  · rw [if_pos h1]
    have : y < x := h1
    simp [this]
  · rw [if_neg h1]
    have : ¬ y < x := h1
    by_cases h2 : x = y
    · rw [if_pos h2]
      simp [this]
    · rw [if_neg h2]
      simp [this]
theorem i64_lt (x y : Int32) : (x.toInt64 < y.toInt64) = (x < y) := by
  apply propext
  rw [Int64.lt_iff_toInt_lt, Int32.lt_iff_toInt_lt, Int32.toInt_toInt64, Int32.toInt_toInt64]
theorem v_isInL {x lo hi : Int64} (d : Nat) (h : zH) : zcall d 240 [.long x, .long lo, .long hi] h = some (some (.int (bI (decide (¬ x < lo ∧ ¬ hi < x)))), h) := by
  rw [m_X12_isIn]
  simp only [e_X12_isIn_0, e_X12_isIn_1, e_X12_isIn_2, e_X12_isIn_3, e_X12_isIn_6, e_X12_isIn_7, e_X12_isIn_9, e_X12_isIn_10, e_X12_isIn_13, e_X12_isIn_14, e_X12_isIn_17, e_X12_isIn_18, Option.bind_some, Option.isSome_some, Option.toList, List.cons_append, List.nil_append, zclr_i, zclr_r, zclr_n, zfit_i, zfit_l, and_self, if_true, if_false]
  have e1 : (0 ≤ lg_cmp x lo) = ¬ x < lo := by rw [← lg_lt0, Int32.not_lt]
  have e2 : (lg_cmp x hi ≤ 0) = ¬ hi < x := by rw [← lg_gt0, Int32.not_lt]
  by_cases h1 : x < lo <;> by_cases h2 : hi < x <;> simp [lg_lt0, lg_gt0, e1, e2, h1, h2, bI, zfit_b0, zfit_b1]
theorem v_isIn (x lo' hi' : Int32) (lo hi : Int64) (h1 : lo'.toInt64 = lo) (h2 : hi'.toInt64 = hi) (d : Nat) (h : zH) : zcall d 240 [.long x.toInt64, .long lo, .long hi] h = some (some (.int (bI (decide (lo' ≤ x ∧ x ≤ hi')))), h) := by
  rw [v_isInL, ← h1, ← h2]
  simp only [i64_lt, Int32.not_lt]
theorem v_has {x k : Int32} (d : Nat) (h : zH) : zcall d 251 [.int x, .int k] h = some (some (.int (bI (decide (x >>> (k &&& 31) &&& 1 = 1)))), h) := by
  rw [m_X12_has]
  simp only [e_X12_has_0, e_X12_has_1, e_X12_has_2, e_X12_has_3, e_X12_has_4, e_X12_has_5, e_X12_has_6, e_X12_has_9, e_X12_has_10, e_X12_has_13, e_X12_has_14, Option.bind_some, Option.isSome_some, Option.toList, List.cons_append, List.nil_append, zclr_i, zclr_r, zclr_n, zfit_i, zfit_l, and_self, if_true, if_false]
  by_cases h1 : x >>> (k &&& 31) &&& 1 = 1 <;> simp [h1, bI, zfit_b0, zfit_b1]
theorem v_hasS {x : Int32} {f : Nat → Bool} (hx : isS x f) {p : Nat} (hp : p < 12) (d : Nat) (h : zH) : zcall d 251 [.int x, .int (nI p)] h = some (some (.int (bI (f p))), h) := by
  rw [v_has, bit_isS hx hp]
  cases f p <;> rfl
theorem v_sizeOf {x : Int32} {f : Nat → Bool} (hx : isS x f) (d : Nat) (h : zH) : zcall (d + 1) 252 [.int x] h = some (some (.int (nI (cnt f 12))), h) := by
  rw [m_X12_sizeOf]
  simp only [e_X12_sizeOf_0, e_X12_sizeOf_1, e_X12_sizeOf_2, e_X12_sizeOf_3, e_X12_sizeOf_5, e_X12_sizeOf_7, e_X12_sizeOf_10, e_X12_sizeOf_11, e_X12_sizeOf_12, e_X12_sizeOf_13, e_X12_sizeOf_16, e_X12_sizeOf_19, e_X12_sizeOf_20, e_X12_sizeOf_23, e_X12_sizeOf_24, e_X12_sizeOf_25, e_X12_sizeOf_26, e_X12_sizeOf_29, e_X12_sizeOf_32, e_X12_sizeOf_33, Option.bind_some, Option.isSome_some, Option.toList, List.cons_append, List.nil_append, zclr_i, zclr_r, zclr_n, zfit_i, zfit_l, and_self, if_true, if_false]
  refine (zloop (fun k (a : Nat) => zexec (d + 1) 252 4 [some (.int x), some (.int (nI a)), some (.int (nI k))] [] h) (fun p a => if f p = true then a + 1 else a) 12 ?_ 12 0 0 (by omega)).trans ?_
  · intro k a hk
    rw [e_X12_sizeOf_4]
    simp only [e_X12_sizeOf_0, e_X12_sizeOf_1, e_X12_sizeOf_2, e_X12_sizeOf_3, e_X12_sizeOf_5, e_X12_sizeOf_7, e_X12_sizeOf_10, e_X12_sizeOf_11, e_X12_sizeOf_12, e_X12_sizeOf_13, e_X12_sizeOf_16, e_X12_sizeOf_19, e_X12_sizeOf_20, e_X12_sizeOf_23, e_X12_sizeOf_24, e_X12_sizeOf_25, e_X12_sizeOf_26, e_X12_sizeOf_29, e_X12_sizeOf_32, e_X12_sizeOf_33, if_neg (show ¬ (12 : Int32) ≤ nI k from nI_ge (b := 12) hk (by decide)), v_hasS hx hk, nI_1, Option.bind_some, Option.isSome_some, Option.toList, List.cons_append, List.nil_append, zclr_i, zclr_r, zclr_n, zfit_i, zfit_l, and_self, if_true, if_false]
    cases f k
    · simp [bI]
    · simp only [bI, if_true]
      simp [nI_1]
  · rw [e_X12_sizeOf_4]
    simp only [e_X12_sizeOf_0, e_X12_sizeOf_1, e_X12_sizeOf_2, e_X12_sizeOf_3, e_X12_sizeOf_5, e_X12_sizeOf_7, e_X12_sizeOf_10, e_X12_sizeOf_11, e_X12_sizeOf_12, e_X12_sizeOf_13, e_X12_sizeOf_16, e_X12_sizeOf_19, e_X12_sizeOf_20, e_X12_sizeOf_23, e_X12_sizeOf_24, e_X12_sizeOf_25, e_X12_sizeOf_26, e_X12_sizeOf_29, e_X12_sizeOf_32, e_X12_sizeOf_33, if_pos (show (12 : Int32) ≤ nI 12 by decide), Option.bind_some, Option.isSome_some, Option.toList, List.cons_append, List.nil_append, zclr_i, zclr_r, zclr_n, zfit_i, zfit_l, and_self, if_true, if_false]
    rfl
end RF
