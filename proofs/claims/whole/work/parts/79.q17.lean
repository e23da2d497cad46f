/-! CALLS: parents, buyers -/
section QQ
variable {n m : Nat} {g : Nat → zC} {I A : Nat → Nat → Int32} {J : Nat → Nat → Int64} {N S U b : Nat}
def pIn (A : Nat → Nat → Int32) (b r p N : Nat) (a : Nat) : Nat := zfor (fun q a => if kCould A b r p q = true then a + 1 else a) (p + 1) (N - (p + 1)) a
theorem q_parents {x : Int32} (h : Inv I J N S) (d : Nat) : Eqv (d + 30) 204 386 [.int x] n m g I J := by
  have hW := h.W
  have h12 := hW.h12
  rcases p_cases x N with ⟨r, hr, rfl⟩ | hx
  · have hR1 : RT I 16 ((zu (zu (zu I 3 0 0) 143 1 0) 143 0 0) 148) N S := h.R
    have hfst : ∀ (F : Nat → Nat → Nat) (s : Option Value) k p (a : Nat × Option Value), (zfor (fun p (a : Nat × Option Value) => (F p a.1, s)) p k a).1 = zfor F p k a.1 := by
      intro F s k
      induction k with
      | zero => intro p a; rfl
      | succ k ih => intro p a; rw [zfor, zfor, ih]
    refine ⟨.int (nI (zfor (fun p a => pIn I 16 r p N a) 0 N 0)), zu I 3 0 0, J, st 0 I, J, N, S, ?_, ?_, h.stI⟩
    · rw [m_X11_parents]
      simp only [e_X11_parents_0, e_X11_parents_1, e_X11_parents_4, e_X11_parents_5, e_X11_parents_8, e_X11_parents_11, e_X11_parents_12, e_X11_parents_13, e_X11_parents_16, e_X11_parents_17, e_X11_parents_18, e_X11_parents_19, e_X11_parents_20, c_3, c_T0 t16, g_3_7, t_hasP_yes t16 hW.hN h12 hr, Option.bind_some, Option.isSome_some, Option.toList, List.cons_append, List.nil_append, zclr_i, zclr_r, zclr_n, zfit_i, zfit_l, and_self, if_true, if_false]
      have hl := zloop (fun p (a : Nat × Option Value) => zexec (d + 30) 204 21 [some (.ref 3), some (.int (nI r)), some (.int (nI a.1)), some (.int (nI p)), a.2] [] (mk n m g I J)) (fun p a => (pIn I 16 r p N a.1, some (.int (nI N)))) N ?_ N 0 (0, none) (by omega)
      · refine (show _ from hl).trans ?_
        rw [e_X11_parents_21]
        simp only [e_X11_parents_22, e_X11_parents_23, e_X11_parents_26, e_X11_parents_29, e_X11_parents_32, e_X11_parents_33, e_X11_parents_34, e_X11_parents_35, e_X11_parents_37, e_X11_parents_39, e_X11_parents_40, e_X11_parents_43, e_X11_parents_46, e_X11_parents_49, e_X11_parents_50, e_X11_parents_53, e_X11_parents_54, e_X11_parents_55, e_X11_parents_57, e_X11_parents_60, e_X11_parents_63, e_X11_parents_66, e_X11_parents_69, e_X11_parents_72, e_X11_parents_75, e_X11_parents_78, e_X11_parents_79, e_X11_parents_80, e_X11_parents_83, c_3, g_3_7, g_T0_4 t16, hW.hN, if_pos (nI_le (Nat.le_refl N) (by omega : N < 2 ^ 31)), n_answer, hfst, Option.bind_some, Option.isSome_some, Option.toList, List.cons_append, List.nil_append, zclr_i, zclr_r, zclr_n, zfit_i, zfit_l, and_self, if_true, if_false]
      · intro p a hp
        rw [e_X11_parents_21]
        simp only [e_X11_parents_22, e_X11_parents_23, e_X11_parents_26, e_X11_parents_29, e_X11_parents_32, e_X11_parents_33, e_X11_parents_34, e_X11_parents_35, c_3, g_3_7, g_T0_4 t16, hW.hN, if_neg (nI_ge hp (by omega : N < 2 ^ 31)), nI_1, Option.bind_some, Option.isSome_some, Option.toList, List.cons_append, List.nil_append, zclr_i, zclr_r, zclr_n, zfit_i, zfit_l, and_self, if_true, if_false]
        refine (zloop (fun q (a : Nat) => zexec (d + 30) 204 37 [some (.ref 3), some (.int (nI r)), some (.int (nI a)), some (.int (nI p)), some (.int (nI q))] [] (mk n m g I J)) (fun q a => if kCould I 16 r p q = true then a + 1 else a) N ?_ (N - (p + 1)) (p + 1) a.1 (by omega)).trans ?_
        · intro q a hq
          rw [e_X11_parents_37]
          have hk : q < 12 := by omega
          simp only [e_X11_parents_39, e_X11_parents_40, e_X11_parents_43, e_X11_parents_46, e_X11_parents_49, e_X11_parents_50, e_X11_parents_53, e_X11_parents_54, e_X11_parents_55, e_X11_parents_57, e_X11_parents_60, e_X11_parents_63, e_X11_parents_66, e_X11_parents_69, c_3, g_3_7, g_T0_4 t16, hW.hN, if_neg (nI_ge hq (by omega : N < 2 ^ 31)), k_couldHave t16 (show r < 12 by omega) (show p < 12 by omega) hk, nI_1, Option.bind_some, Option.isSome_some, Option.toList, List.cons_append, List.nil_append, zclr_i, zclr_r, zclr_n, zfit_i, zfit_l, and_self, if_true, if_false]
          cases kCould I 16 r p q <;> simp [bI]
        · rw [e_X11_parents_37]
          simp only [e_X11_parents_39, e_X11_parents_40, e_X11_parents_43, e_X11_parents_46, e_X11_parents_49, e_X11_parents_50, e_X11_parents_53, e_X11_parents_54, e_X11_parents_55, e_X11_parents_57, e_X11_parents_60, e_X11_parents_63, e_X11_parents_66, e_X11_parents_69, e_X11_parents_72, e_X11_parents_75, c_3, g_3_7, g_T0_4 t16, hW.hN, if_pos (nI_le (Nat.le_refl N) (by omega : N < 2 ^ 31)), nI_1, Option.bind_some, Option.isSome_some, Option.toList, List.cons_append, List.nil_append, zclr_i, zclr_r, zclr_n, zfit_i, zfit_l, and_self, if_true, if_false]
          rfl
    · rw [m_X12_parents]
      simp only [e_X12_parents_0, e_X12_parents_1, e_X12_parents_2, e_X12_parents_5, e_X12_parents_6, e_X12_parents_7, e_X12_parents_10, e_X12_parents_11, e_X12_parents_12, e_X12_parents_15, e_X12_parents_18, e_X12_parents_19, e_X12_parents_20, e_X12_parents_23, e_X12_parents_24, e_X12_parents_25, e_X12_parents_26, e_X12_parents_27, c_143, g_143_0, g_143_1, p_143_0, p_143_1, v_isP_yes hW hR1 hr, Option.bind_some, Option.isSome_some, Option.toList, List.cons_append, List.nil_append, zclr_i, zclr_r, zclr_n, zfit_i, zfit_l, and_self, if_true, if_false]
      have hl := zloop (fun p (a : Nat × Option Value) => zexec (d + 30) 386 28 [some (.ref 143), some (.int (nI r)), some (.int (nI a.1)), some (.int (nI p)), a.2] [] (mk n m g (zu (zu (zu I 3 0 0) 143 1 0) 143 0 0) J)) (fun p a => (pIn I 16 r p N a.1, some (.int (nI N)))) N ?_ N 0 (0, none) (by omega)
      · refine (show _ from hl).trans ?_
        rw [e_X12_parents_28]
        simp only [e_X12_parents_29, e_X12_parents_30, e_X12_parents_33, e_X12_parents_34, e_X12_parents_35, e_X12_parents_38, e_X12_parents_39, e_X12_parents_40, e_X12_parents_41, e_X12_parents_43, e_X12_parents_45, e_X12_parents_46, e_X12_parents_49, e_X12_parents_50, e_X12_parents_51, e_X12_parents_54, e_X12_parents_55, e_X12_parents_56, e_X12_parents_57, e_X12_parents_58, e_X12_parents_60, e_X12_parents_63, e_X12_parents_66, e_X12_parents_67, e_X12_parents_70, e_X12_parents_71, e_X12_parents_72, e_X12_parents_73, e_X12_parents_76, e_X12_parents_79, e_X12_parents_82, e_X12_parents_85, e_X12_parents_86, cA_6, cA_12, cA_18, cA_30, cA_42, cA_54, cA_66, cA_78, cA_90, cA_102, cA_114, cA_126, cA_138, cA_210, cA_222, lc_0, lc_1, lc_2, lc_3, lc_4, lc_5, g_143_20, q_148, hW.c1 hR1, if_pos (nI_le (Nat.le_refl N) (by omega : N < 2 ^ 31)), hfst, Option.bind_some, Option.isSome_some, Option.toList, List.cons_append, List.nil_append, zclr_i, zclr_r, zclr_n, zfit_i, zfit_l, and_self, if_true, if_false]
        rfl
      · intro p a hp
        rw [e_X12_parents_28]
        simp only [e_X12_parents_29, e_X12_parents_30, e_X12_parents_33, e_X12_parents_34, e_X12_parents_35, e_X12_parents_38, e_X12_parents_39, e_X12_parents_40, e_X12_parents_41, cA_6, cA_12, cA_18, cA_30, cA_42, cA_54, cA_66, cA_78, cA_90, cA_102, cA_114, cA_126, cA_138, cA_210, cA_222, lc_0, lc_1, lc_2, lc_3, lc_4, lc_5, g_143_20, q_148, hW.c1 hR1, if_neg (nI_ge hp (by omega : N < 2 ^ 31)), nI_1, Option.bind_some, Option.isSome_some, Option.toList, List.cons_append, List.nil_append, zclr_i, zclr_r, zclr_n, zfit_i, zfit_l, and_self, if_true, if_false]
        refine (zloop (fun q (a : Nat) => zexec (d + 30) 386 43 [some (.ref 143), some (.int (nI r)), some (.int (nI a)), some (.int (nI p)), some (.int (nI q))] [] (mk n m g (zu (zu (zu I 3 0 0) 143 1 0) 143 0 0) J)) (fun q a => if kCould I 16 r p q = true then a + 1 else a) N ?_ (N - (p + 1)) (p + 1) a.1 (by omega)).trans ?_
        · intro q a hq
          rw [e_X12_parents_43]
          simp only [e_X12_parents_45, e_X12_parents_46, e_X12_parents_49, e_X12_parents_50, e_X12_parents_51, e_X12_parents_54, e_X12_parents_55, e_X12_parents_56, e_X12_parents_57, e_X12_parents_58, e_X12_parents_60, e_X12_parents_63, e_X12_parents_66, e_X12_parents_67, e_X12_parents_70, e_X12_parents_71, e_X12_parents_72, e_X12_parents_73, e_X12_parents_76, cA_6, cA_12, cA_18, cA_30, cA_42, cA_54, cA_66, cA_78, cA_90, cA_102, cA_114, cA_126, cA_138, cA_210, cA_222, lc_0, lc_1, lc_2, lc_3, lc_4, lc_5, g_143_20, q_148, c_143, hW.c1 hR1, if_neg (nI_ge hq (by omega : N < 2 ^ 31)), v_couldBeBy hW hR1 hr hp hq, nI_1, Option.bind_some, Option.isSome_some, Option.toList, List.cons_append, List.nil_append, zclr_i, zclr_r, zclr_n, zfit_i, zfit_l, and_self, if_true, if_false]
          cases kCould I 16 r p q <;> simp [bI, nI_1]
        · rw [e_X12_parents_43]
          simp only [e_X12_parents_45, e_X12_parents_46, e_X12_parents_49, e_X12_parents_50, e_X12_parents_51, e_X12_parents_54, e_X12_parents_55, e_X12_parents_56, e_X12_parents_57, e_X12_parents_58, e_X12_parents_60, e_X12_parents_63, e_X12_parents_66, e_X12_parents_67, e_X12_parents_70, e_X12_parents_71, e_X12_parents_72, e_X12_parents_73, e_X12_parents_76, e_X12_parents_79, e_X12_parents_82, cA_6, cA_12, cA_18, cA_30, cA_42, cA_54, cA_66, cA_78, cA_90, cA_102, cA_114, cA_126, cA_138, cA_210, cA_222, lc_0, lc_1, lc_2, lc_3, lc_4, lc_5, g_143_20, q_148, hW.c1 hR1, if_pos (nI_le (Nat.le_refl N) (by omega : N < 2 ^ 31)), nI_1, Option.bind_some, Option.isSome_some, Option.toList, List.cons_append, List.nil_append, zclr_i, zclr_r, zclr_n, zfit_i, zfit_l, and_self, if_true, if_false]
          rfl
  · refine ⟨.int (-1), zu I 3 0 2, J, st 2 I, J, N, S, ?_, ?_, h.stI⟩
    · rw [m_X11_parents]
      simp only [e_X11_parents_0, e_X11_parents_1, e_X11_parents_4, e_X11_parents_5, e_X11_parents_8, e_X11_parents_11, e_X11_parents_12, e_X11_parents_13, e_X11_parents_16, e_X11_parents_17, e_X11_parents_18, e_X11_parents_19, e_X11_parents_20, e_X11_parents_21, e_X11_parents_22, e_X11_parents_23, e_X11_parents_26, e_X11_parents_29, e_X11_parents_32, e_X11_parents_33, e_X11_parents_34, e_X11_parents_35, e_X11_parents_37, e_X11_parents_39, e_X11_parents_40, e_X11_parents_43, e_X11_parents_46, e_X11_parents_49, e_X11_parents_50, e_X11_parents_53, e_X11_parents_54, e_X11_parents_55, e_X11_parents_57, e_X11_parents_60, e_X11_parents_63, e_X11_parents_66, e_X11_parents_69, e_X11_parents_72, e_X11_parents_75, e_X11_parents_78, e_X11_parents_79, e_X11_parents_80, e_X11_parents_83, c_3, c_T0 t16, g_3_7, t_hasP_no t16 hW.hN h12 hx, n_refuse, Option.bind_some, Option.isSome_some, Option.toList, List.cons_append, List.nil_append, zclr_i, zclr_r, zclr_n, zfit_i, zfit_l, and_self, if_true, if_false]
    · have hR1 : RT I 16 ((zu (zu (zu I 3 0 2) 143 1 0) 143 0 0) 148) N S := h.R
      rw [m_X12_parents]
      simp only [e_X12_parents_0, e_X12_parents_1, e_X12_parents_2, e_X12_parents_5, e_X12_parents_6, e_X12_parents_7, e_X12_parents_10, e_X12_parents_11, e_X12_parents_12, e_X12_parents_15, e_X12_parents_18, e_X12_parents_19, e_X12_parents_20, e_X12_parents_23, e_X12_parents_24, e_X12_parents_25, e_X12_parents_26, e_X12_parents_27, e_X12_parents_28, e_X12_parents_29, e_X12_parents_30, e_X12_parents_33, e_X12_parents_34, e_X12_parents_35, e_X12_parents_38, e_X12_parents_39, e_X12_parents_40, e_X12_parents_41, e_X12_parents_43, e_X12_parents_45, e_X12_parents_46, e_X12_parents_49, e_X12_parents_50, e_X12_parents_51, e_X12_parents_54, e_X12_parents_55, e_X12_parents_56, e_X12_parents_57, e_X12_parents_58, e_X12_parents_60, e_X12_parents_63, e_X12_parents_66, e_X12_parents_67, e_X12_parents_70, e_X12_parents_71, e_X12_parents_72, e_X12_parents_73, e_X12_parents_76, e_X12_parents_79, e_X12_parents_82, e_X12_parents_85, e_X12_parents_86, c_143, g_143_0, g_143_1, p_143_0, p_143_1, v_isP_no hW hR1 hx, v_refuse, st_eq, Option.bind_some, Option.isSome_some, Option.toList, List.cons_append, List.nil_append, zclr_i, zclr_r, zclr_n, zfit_i, zfit_l, and_self, if_true, if_false]
theorem isS_congr {x : Int32} {f f' : Nat → Bool} (h : isS x f) (e : ∀ p, p < 12 → f p = f' p) (e2 : ∀ p, 12 ≤ p → f' p = false) : isS x f' := by
  obtain ⟨r, hr, ex, hf⟩ := h
  refine ⟨r, hr, ex, fun p => ?_⟩
  by_cases hp : p < 12
  · rw [hf, e p hp]
  · rw [e2 p (by omega)]
    exact Nat.testBit_lt_two_pow (Nat.lt_of_lt_of_le (show r < 2 ^ 12 by omega) (Nat.pow_le_pow_right (show 0 < 2 by decide) (by omega)))
/-- who could buy of one who bears t -/
def bCond (A : Nat → Nat → Int32) (b : Nat) (t : Int32) (q r : Nat) : Bool := decide (A (b + 7) q = t) && tSell A b q r
theorem q_buyers {x : Int32} (h : Inv I J N S) (d : Nat) : Eqv (d + 30) 208 391 [.int x] n m g I J := by
  have hW := h.W
  have h12 := hW.h12
  have h6 := hW.h6
  rcases p_cases x S with ⟨t, ht, rfl⟩ | hx
  · have hR1 : RT I 16 ((zu (zu (zu I 3 0 0) 143 1 0) 143 0 0) 148) N S := h.R
    have hS := isS_bear (A := I) (b := 16) (s := nI t) h12
    have hcond : ∀ q p, q < N → (sBear I 16 (nI t) N >>> (nI q &&& 31) &&& 1 = 0 ∨ tSell I 16 q p = false) = (bCond I 16 (nI t) q p = false) := by
      intro q p hq
      rw [bit_isS hS (by omega)]
      unfold bCond
      by_cases h1 : I (16 + 7) q = nI t
      · by_cases h2 : I (16 + 6) q = -1
        · simp [h1, h2, hq]
        · have h3 : tSell I 16 q p = false := by
            unfold tSell
            exact decide_eq_false (fun e => h2 e.1)
          simp [h3]
      · simp [h1, hq]
    -- the class: buyers first
    obtain ⟨sc, hc1, hc2⟩ : ∃ sc, zcall (d + 30) 208 [.ref 3, .int (nI t)] (mk n m g I J) = some (some (.int sc), mk n m g (zu I 3 0 0) J) ∧ isS sc (fun r => decide (r < N) && (List.range N).any (fun q => bCond I 16 (nI t) q r)) := by
      have tb : sSet (fun p => decide (I (16 + 7) p = nI t ∧ I (16 + 6) p = -1)) N = sBear I 16 (nI t) N := rfl
      have hst : zcall (d + 30) 208 [.ref 3, .int (nI t)] (mk n m g I J) = zexec (d + 30) 208 31 [some (.ref 3), some (.int (nI t)), some (.int (sBear I 16 (nI t) N)), some (.int 0), some (.int (nI 0)), none] [] (mk n m g I J) := by
        rw [m_X11_buyers]
        simp only [e_X11_buyers_0, e_X11_buyers_1, e_X11_buyers_4, e_X11_buyers_5, e_X11_buyers_8, e_X11_buyers_11, e_X11_buyers_12, e_X11_buyers_13, e_X11_buyers_16, e_X11_buyers_17, e_X11_buyers_18, e_X11_buyers_21, e_X11_buyers_22, e_X11_buyers_25, e_X11_buyers_26, e_X11_buyers_27, e_X11_buyers_28, e_X11_buyers_29, c_3, c_T0 t16, g_3_7, t_hasS_yes t16 hW.hS h6 ht, t_bearers t16 hW.hN h12, tb, Option.bind_some, Option.isSome_some, Option.toList, List.cons_append, List.nil_append, zclr_i, zclr_r, zclr_n, zfit_i, zfit_l, and_self, if_true, if_false]
        rfl
      have hl := zloopR (fun p (a : Int32 × Option Value) => zexec (d + 30) 208 31 [some (.ref 3), some (.int (nI t)), some (.int (sBear I 16 (nI t) N)), some (.int a.1), some (.int (nI p)), a.2] [] (mk n m g I J)) (fun p (_ : Unit) a => isS a.1 (fun r => decide (r < p) && (List.range N).any (fun q => bCond I 16 (nI t) q r))) (fun _ u => u) N ?_ N 0 () (0, none) (by omega) (isS_congr isS_0 (fun p _ => by simp) (fun p _ => by simp))
      · obtain ⟨a', e1, e2⟩ := hl
        refine ⟨a'.1, hst.trans (e1.trans ?_), e2⟩
        rw [e_X11_buyers_31]
        simp only [e_X11_buyers_33, e_X11_buyers_34, e_X11_buyers_37, e_X11_buyers_40, e_X11_buyers_43, e_X11_buyers_44, e_X11_buyers_100, e_X11_buyers_101, e_X11_buyers_102, e_X11_buyers_105, c_3, g_3_7, g_T0_4 t16, hW.hN, if_pos (nI_le (Nat.le_refl N) (by omega : N < 2 ^ 31)), n_answer, Option.bind_some, Option.isSome_some, Option.toList, List.cons_append, List.nil_append, zclr_i, zclr_r, zclr_n, zfit_i, zfit_l, and_self, if_true, if_false]
      · rintro p _ ⟨a, sl⟩ hp ha
        dsimp only at ha ⊢
        have hi := zloopR (fun q (a : Int32) => zexec (d + 30) 208 46 [some (.ref 3), some (.int (nI t)), some (.int (sBear I 16 (nI t) N)), some (.int a), some (.int (nI p)), some (.int (nI q))] [] (mk n m g I J)) (fun k (_ : Unit) a => isS a (fun r => (decide (r < p) && (List.range N).any (fun q => bCond I 16 (nI t) q r)) || (decide (r = p) && (List.range k).any (fun q => bCond I 16 (nI t) q r)))) (fun _ u => u) N ?_ N 0 () a (by omega) (isS_congr ha (fun r _ => by simp) (fun r hr => by simp [show ¬ r < p from by omega]))
        · obtain ⟨a', e1, e2⟩ := hi
          refine ⟨(a', some (.int (nI N))), ?_, isS_congr e2 (fun r _ => ?_) (fun r hr => ?_)⟩
          · rw [e_X11_buyers_31]
            simp only [e_X11_buyers_33, e_X11_buyers_34, e_X11_buyers_37, e_X11_buyers_40, e_X11_buyers_43, e_X11_buyers_44, c_3, g_3_7, g_T0_4 t16, hW.hN, if_neg (nI_ge hp (by omega : N < 2 ^ 31)), Option.bind_some, Option.isSome_some, Option.toList, List.cons_append, List.nil_append, zclr_i, zclr_r, zclr_n, zfit_i, zfit_l, and_self, if_true, if_false]
            refine e1.trans ?_
            rw [e_X11_buyers_46]
            simp only [e_X11_buyers_48, e_X11_buyers_49, e_X11_buyers_52, e_X11_buyers_55, e_X11_buyers_58, e_X11_buyers_59, e_X11_buyers_61, e_X11_buyers_62, e_X11_buyers_63, e_X11_buyers_64, e_X11_buyers_67, e_X11_buyers_68, e_X11_buyers_71, e_X11_buyers_73, e_X11_buyers_75, e_X11_buyers_78, e_X11_buyers_81, e_X11_buyers_82, e_X11_buyers_83, e_X11_buyers_85, e_X11_buyers_86, e_X11_buyers_87, e_X11_buyers_88, e_X11_buyers_91, e_X11_buyers_94, e_X11_buyers_97, c_3, g_3_7, g_T0_4 t16, hW.hN, if_pos (nI_le (Nat.le_refl N) (by omega : N < 2 ^ 31)), nI_1, Option.bind_some, Option.isSome_some, Option.toList, List.cons_append, List.nil_append, zclr_i, zclr_r, zclr_n, zfit_i, zfit_l, and_self, if_true, if_false]
          · by_cases h1 : r = p
            · subst h1
              simp
            · have h2 : decide (r < p + 1) = decide (r < p) := by
                congr 1
                apply propext
                omega
              simp [h1, h2]
          · have h1 : ¬ r < p + 1 := by omega
            simp [h1]
        · rintro q _ a hq ha
          have hq12 : q < 12 := by omega
          have hp12 : p < 12 := by omega
          have hb := hW.bear6 q hq
          refine ⟨if bCond I 16 (nI t) q p = true then a ||| bt p else a, ?_, ?_⟩
          · rw [e_X11_buyers_46]
            simp only [e_X11_buyers_48, e_X11_buyers_49, e_X11_buyers_52, e_X11_buyers_55, e_X11_buyers_58, e_X11_buyers_59, e_X11_buyers_61, e_X11_buyers_62, e_X11_buyers_63, e_X11_buyers_64, e_X11_buyers_67, e_X11_buyers_68, e_X11_buyers_71, e_X11_buyers_73, e_X11_buyers_75, e_X11_buyers_78, e_X11_buyers_81, e_X11_buyers_82, e_X11_buyers_83, e_X11_buyers_85, e_X11_buyers_86, e_X11_buyers_87, e_X11_buyers_88, e_X11_buyers_91, c_3, c_T0 t16, g_3_7, g_T0_4 t16, hW.hN, if_neg (nI_ge hq (by omega : N < 2 ^ 31)), t_canHandOver t16 hq12 hp12 hb, nI_1, Option.bind_some, Option.isSome_some, Option.toList, List.cons_append, List.nil_append, zclr_i, zclr_r, zclr_n, zfit_i, zfit_l, and_self, if_true, if_false]
            have hc := hcond q p hq
            by_cases h1 : sBear I 16 (nI t) N >>> (nI q &&& 31) &&& 1 = 0
            · have h2 : bCond I 16 (nI t) q p = false := by rw [← hc]; exact Or.inl h1
              simp [h1, h2]
            · cases h3 : tSell I 16 q p
              · have h2 : bCond I 16 (nI t) q p = false := by rw [← hc]; exact Or.inr h3
                simp [h1, h2, bI]
              · have h2 : bCond I 16 (nI t) q p = true := by
                  cases h4 : bCond I 16 (nI t) q p
                  · rw [← hc] at h4
                    rcases h4 with h4 | h4
                    · exact absurd h4 h1
                    · rw [h3] at h4
                      exact absurd h4 (by decide)
                  · rfl
                simp [h1, h2, bI, bt]
          · cases h2 : bCond I 16 (nI t) q p
            · simp only [Bool.false_eq_true, if_false]
              refine isS_congr ha (fun r _ => ?_) (fun r hr => ?_)
              · rw [List.range_succ, List.any_append]
                by_cases h1 : r = p
                · subst h1
                  simp [h2]
                · simp [h1]
              · have h1 : ¬ r < p := by omega
                have h3 : ¬ r = p := by omega
                simp [h1, h3]
            · simp only [if_true]
              refine isS_congr (isS_or ha (isS_bt hp12)) (fun r _ => ?_) (fun r hr => ?_)
              · rw [List.range_succ, List.any_append]
                by_cases h1 : r = p
                · subst h1
                  simp [h2]
                · have h3 : ¬ p = r := fun e => h1 e.symm
                  simp [h1, h3]
              · have h1 : ¬ r < p := by omega
                have h3 : ¬ r = p := by omega
                simp [h1, h3]
    obtain ⟨sr, hr1, hr2⟩ : ∃ sr, zcall (d + 30) 391 [.ref 143, .int (nI t)] (mk n m g (zu I 3 0 0) J) = some (some (.int sr), mk n m g (st 0 I) J) ∧ isS sr (fun r => decide (r < N) && (List.range N).any (fun q => bCond I 16 (nI t) q r)) := by
      have hst : zcall (d + 30) 391 [.ref 143, .int (nI t)] (mk n m g (zu I 3 0 0) J) = zexec (d + 30) 391 28 [some (.ref 143), some (.int (nI t)), some (.int 0), some (.int (nI 0)), none] [] (mk n m g (zu (zu (zu I 3 0 0) 143 1 0) 143 0 0) J) := by
        rw [m_X12_buyers]
        simp only [e_X12_buyers_0, e_X12_buyers_1, e_X12_buyers_2, e_X12_buyers_5, e_X12_buyers_6, e_X12_buyers_7, e_X12_buyers_10, e_X12_buyers_11, e_X12_buyers_12, e_X12_buyers_15, e_X12_buyers_18, e_X12_buyers_19, e_X12_buyers_20, e_X12_buyers_23, e_X12_buyers_24, e_X12_buyers_25, e_X12_buyers_26, e_X12_buyers_27, c_143, g_143_0, g_143_1, p_143_0, p_143_1, v_isS_yes hW hR1 ht, Option.bind_some, Option.isSome_some, Option.toList, List.cons_append, List.nil_append, zclr_i, zclr_r, zclr_n, zfit_i, zfit_l, and_self, if_true, if_false]
        rfl
      have hl := zloopR (fun q (a : Int32 × Option Value) => zexec (d + 30) 391 28 [some (.ref 143), some (.int (nI t)), some (.int a.1), some (.int (nI q)), a.2] [] (mk n m g (zu (zu (zu I 3 0 0) 143 1 0) 143 0 0) J)) (fun k (_ : Unit) a => isS a.1 (fun r => decide (r < N) && (List.range k).any (fun q => bCond I 16 (nI t) q r))) (fun _ u => u) N ?_ N 0 () (0, none) (by omega) (isS_congr isS_0 (fun p _ => by simp) (fun p _ => by simp))
      · obtain ⟨a', e1, e2⟩ := hl
        refine ⟨a'.1, hst.trans (e1.trans ?_), e2⟩
        rw [e_X12_buyers_28]
        simp only [e_X12_buyers_29, e_X12_buyers_30, e_X12_buyers_33, e_X12_buyers_34, e_X12_buyers_35, e_X12_buyers_38, e_X12_buyers_39, e_X12_buyers_94, e_X12_buyers_95, cA_6, cA_12, cA_18, cA_30, cA_42, cA_54, cA_66, cA_78, cA_90, cA_102, cA_114, cA_126, cA_138, cA_210, cA_222, lc_0, lc_1, lc_2, lc_3, lc_4, lc_5, g_143_20, q_148, hW.c1 hR1, if_pos (nI_le (Nat.le_refl N) (by omega : N < 2 ^ 31)), Option.bind_some, Option.isSome_some, Option.toList, List.cons_append, List.nil_append, zclr_i, zclr_r, zclr_n, zfit_i, zfit_l, and_self, if_true, if_false]
        rfl
      · rintro q _ ⟨a, sl⟩ hq ha
        dsimp only at ha ⊢
        have hi := zloopR (fun p (a : Int32) => zexec (d + 30) 391 41 [some (.ref 143), some (.int (nI t)), some (.int a), some (.int (nI q)), some (.int (nI p))] [] (mk n m g (zu (zu (zu I 3 0 0) 143 1 0) 143 0 0) J)) (fun k (_ : Unit) a => isS a (fun r => (decide (r < N) && (List.range q).any (fun q => bCond I 16 (nI t) q r)) || (decide (r < k) && bCond I 16 (nI t) q r))) (fun _ u => u) N ?_ N 0 () a (by omega) (isS_congr ha (fun r _ => by simp) (fun r hr => by simp [show ¬ r < N from by omega]))
        · obtain ⟨a', e1, e2⟩ := hi
          refine ⟨(a', some (.int (nI N))), ?_, isS_congr e2 (fun r _ => ?_) (fun r hr => ?_)⟩
          · rw [e_X12_buyers_28]
            simp only [e_X12_buyers_29, e_X12_buyers_30, e_X12_buyers_33, e_X12_buyers_34, e_X12_buyers_35, e_X12_buyers_38, e_X12_buyers_39, cA_6, cA_12, cA_18, cA_30, cA_42, cA_54, cA_66, cA_78, cA_90, cA_102, cA_114, cA_126, cA_138, cA_210, cA_222, lc_0, lc_1, lc_2, lc_3, lc_4, lc_5, g_143_20, q_148, hW.c1 hR1, if_neg (nI_ge hq (by omega : N < 2 ^ 31)), Option.bind_some, Option.isSome_some, Option.toList, List.cons_append, List.nil_append, zclr_i, zclr_r, zclr_n, zfit_i, zfit_l, and_self, if_true, if_false]
            refine e1.trans ?_
            rw [e_X12_buyers_41]
            simp only [e_X12_buyers_43, e_X12_buyers_44, e_X12_buyers_47, e_X12_buyers_48, e_X12_buyers_49, e_X12_buyers_52, e_X12_buyers_53, e_X12_buyers_56, e_X12_buyers_58, e_X12_buyers_59, e_X12_buyers_60, e_X12_buyers_61, e_X12_buyers_62, e_X12_buyers_65, e_X12_buyers_66, e_X12_buyers_67, e_X12_buyers_69, e_X12_buyers_72, e_X12_buyers_75, e_X12_buyers_76, e_X12_buyers_77, e_X12_buyers_79, e_X12_buyers_80, e_X12_buyers_81, e_X12_buyers_82, e_X12_buyers_85, e_X12_buyers_88, e_X12_buyers_91, cA_6, cA_12, cA_18, cA_30, cA_42, cA_54, cA_66, cA_78, cA_90, cA_102, cA_114, cA_126, cA_138, cA_210, cA_222, lc_0, lc_1, lc_2, lc_3, lc_4, lc_5, g_143_20, q_148, hW.c1 hR1, if_pos (nI_le (Nat.le_refl N) (by omega : N < 2 ^ 31)), nI_1, Option.bind_some, Option.isSome_some, Option.toList, List.cons_append, List.nil_append, zclr_i, zclr_r, zclr_n, zfit_i, zfit_l, and_self, if_true, if_false]
          · rw [List.range_succ, List.any_append]
            by_cases h1 : r < N <;> simp [h1]
          · have h1 : ¬ r < N := by omega
            simp [h1]
        · rintro p _ a hp ha
          have hp12 : p < 12 := by omega
          refine ⟨if bCond I 16 (nI t) q p = true then a ||| bt p else a, ?_, ?_⟩
          · rw [e_X12_buyers_41]
            simp only [e_X12_buyers_43, e_X12_buyers_44, e_X12_buyers_47, e_X12_buyers_48, e_X12_buyers_49, e_X12_buyers_52, e_X12_buyers_53, e_X12_buyers_56, e_X12_buyers_58, e_X12_buyers_59, e_X12_buyers_60, e_X12_buyers_61, e_X12_buyers_62, e_X12_buyers_65, e_X12_buyers_66, e_X12_buyers_67, e_X12_buyers_69, e_X12_buyers_72, e_X12_buyers_75, e_X12_buyers_76, e_X12_buyers_77, e_X12_buyers_79, e_X12_buyers_80, e_X12_buyers_81, e_X12_buyers_82, e_X12_buyers_85, cA_6, cA_12, cA_18, cA_30, cA_42, cA_54, cA_66, cA_78, cA_90, cA_102, cA_114, cA_126, cA_138, cA_210, cA_222, lc_0, lc_1, lc_2, lc_3, lc_4, lc_5, g_143_20, q_148, nI_neg (show 30 + q < 2 ^ 31 by omega), nI_clamp (show 30 + q < 2 ^ 31 by omega), k_148 (show 30 + q < 2530 by omega), l_148 (show 30 + q < 2530 by omega), c_143, hW.c1 hR1, if_neg (nI_ge hp (by omega : N < 2 ^ 31)), hR1.bears q hq, v_canSell hW hR1 hq hp, nI_1, Option.bind_some, Option.isSome_some, Option.toList, List.cons_append, List.nil_append, zclr_i, zclr_r, zclr_n, zfit_i, zfit_l, and_self, if_true, if_false]
            unfold bCond
            by_cases h1 : I (16 + 7) q = nI t
            · cases tSell I 16 q p <;> simp [h1, bI, bt]
            · simp [h1]
          · cases h2 : bCond I 16 (nI t) q p
            · simp only [Bool.false_eq_true, if_false]
              refine isS_congr ha (fun r _ => ?_) (fun r hr => ?_)
              · by_cases h1 : r = p
                · subst h1
                  simp [h2]
                · have h3 : decide (r < p + 1) = decide (r < p) := by
                    congr 1
                    apply propext
                    omega
                  simp [h3]
              · have h1 : ¬ r < N := by omega
                have h3 : ¬ r < p + 1 := by omega
                simp [h1, h3]
            · simp only [if_true]
              refine isS_congr (isS_or ha (isS_bt hp12)) (fun r _ => ?_) (fun r hr => ?_)
              · by_cases h1 : r = p
                · subst h1
                  simp [h2]
                · have h3 : decide (r < p + 1) = decide (r < p) := by
                    congr 1
                    apply propext
                    omega
                  have h4 : ¬ p = r := fun e => h1 e.symm
                  simp [h3, h4]
              · have h1 : ¬ r < N := by omega
                have h3 : ¬ r < p + 1 := by omega
                simp [h1, h3]
    have he : sr = sc := isS_eq hr2 hc2 (fun _ _ => rfl)
    rw [he] at hr1
    exact ⟨.int sc, zu I 3 0 0, J, st 0 I, J, N, S, hc1, hr1, h.stI⟩
  · refine ⟨.int (-1), zu I 3 0 2, J, st 2 I, J, N, S, ?_, ?_, h.stI⟩
    · rw [m_X11_buyers]
      simp only [e_X11_buyers_0, e_X11_buyers_1, e_X11_buyers_4, e_X11_buyers_5, e_X11_buyers_8, e_X11_buyers_11, e_X11_buyers_12, e_X11_buyers_13, e_X11_buyers_16, e_X11_buyers_17, e_X11_buyers_18, e_X11_buyers_21, e_X11_buyers_22, e_X11_buyers_25, e_X11_buyers_26, e_X11_buyers_27, e_X11_buyers_28, e_X11_buyers_29, e_X11_buyers_31, e_X11_buyers_33, e_X11_buyers_34, e_X11_buyers_37, e_X11_buyers_40, e_X11_buyers_43, e_X11_buyers_44, e_X11_buyers_46, e_X11_buyers_48, e_X11_buyers_49, e_X11_buyers_52, e_X11_buyers_55, e_X11_buyers_58, e_X11_buyers_59, e_X11_buyers_61, e_X11_buyers_62, e_X11_buyers_63, e_X11_buyers_64, e_X11_buyers_67, e_X11_buyers_68, e_X11_buyers_71, e_X11_buyers_73, e_X11_buyers_75, e_X11_buyers_78, e_X11_buyers_81, e_X11_buyers_82, e_X11_buyers_83, e_X11_buyers_85, e_X11_buyers_86, e_X11_buyers_87, e_X11_buyers_88, e_X11_buyers_91, e_X11_buyers_94, e_X11_buyers_97, e_X11_buyers_100, e_X11_buyers_101, e_X11_buyers_102, e_X11_buyers_105, c_3, c_T0 t16, g_3_7, t_hasS_no t16 hW.hS h6 hx, n_refuse, Option.bind_some, Option.isSome_some, Option.toList, List.cons_append, List.nil_append, zclr_i, zclr_r, zclr_n, zfit_i, zfit_l, and_self, if_true, if_false]
    · have hR1 : RT I 16 ((zu (zu (zu I 3 0 2) 143 1 0) 143 0 0) 148) N S := h.R
      rw [m_X12_buyers]
      simp only [e_X12_buyers_0, e_X12_buyers_1, e_X12_buyers_2, e_X12_buyers_5, e_X12_buyers_6, e_X12_buyers_7, e_X12_buyers_10, e_X12_buyers_11, e_X12_buyers_12, e_X12_buyers_15, e_X12_buyers_18, e_X12_buyers_19, e_X12_buyers_20, e_X12_buyers_23, e_X12_buyers_24, e_X12_buyers_25, e_X12_buyers_26, e_X12_buyers_27, e_X12_buyers_28, e_X12_buyers_29, e_X12_buyers_30, e_X12_buyers_33, e_X12_buyers_34, e_X12_buyers_35, e_X12_buyers_38, e_X12_buyers_39, e_X12_buyers_41, e_X12_buyers_43, e_X12_buyers_44, e_X12_buyers_47, e_X12_buyers_48, e_X12_buyers_49, e_X12_buyers_52, e_X12_buyers_53, e_X12_buyers_56, e_X12_buyers_58, e_X12_buyers_59, e_X12_buyers_60, e_X12_buyers_61, e_X12_buyers_62, e_X12_buyers_65, e_X12_buyers_66, e_X12_buyers_67, e_X12_buyers_69, e_X12_buyers_72, e_X12_buyers_75, e_X12_buyers_76, e_X12_buyers_77, e_X12_buyers_79, e_X12_buyers_80, e_X12_buyers_81, e_X12_buyers_82, e_X12_buyers_85, e_X12_buyers_88, e_X12_buyers_91, e_X12_buyers_94, e_X12_buyers_95, c_143, g_143_0, g_143_1, p_143_0, p_143_1, v_isS_no hW hR1 hx, v_refuse, st_eq, Option.bind_some, Option.isSome_some, Option.toList, List.cons_append, List.nil_append, zclr_i, zclr_r, zclr_n, zfit_i, zfit_l, and_self, if_true, if_false]
end QQ
