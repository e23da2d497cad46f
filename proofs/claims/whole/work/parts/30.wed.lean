/-! WEDDINGS -/
section WE
variable {n m : Nat} {g : Nat → zC} {I : Nat → Nat → Int32} {J : Nat → Nat → Int64}
def bearOk (I : Nat → Nat → Int32) (b N : Nat) : Prop := ∀ p, p < N → I (b + 7) p = -1 ∨ ∃ s, s < 6 ∧ I (b + 7) p = nI s
def wBest (I : Nat → Nat → Int32) (b p N q : Nat) (a : Int32 × Int32) : Int32 × Int32 := if tMarry I b p q 1 N = true ∧ a.2 < I (b + 2) (I (b + 7) q).toNatClampNeg then (nI q, I (b + 2) (I (b + 7) q).toNatClampNeg) else a
theorem tMarry_1 {b p q N : Nat} (h : tMarry I b p q 1 N = true) : I (b + 7) q ≠ -1 := by
  unfold tMarry tTake at h
  simp at h
  exact h.2.1
theorem w_bestFor {b p N : Nat} (hb : isTown b) (hN : I b 4 = nI N) (h12 : N ≤ 12) (hp : p < 12) (hs : bearOk I b N) (d : Nat) : zcall (d + 4) 150 [.ref b, .int (nI p)] (mk n m g I J) = some (some (.int (zfor (wBest I b p N) 0 N (-1, -1)).1), mk n m g I J) := by
  rw [m_X10_bestFor]
  simp only [e_X10_bestFor_0, e_X10_bestFor_1, e_X10_bestFor_2, e_X10_bestFor_3, e_X10_bestFor_4, e_X10_bestFor_5, e_X10_bestFor_9, e_X10_bestFor_10, e_X10_bestFor_13, e_X10_bestFor_16, e_X10_bestFor_17, e_X10_bestFor_18, e_X10_bestFor_20, e_X10_bestFor_21, e_X10_bestFor_24, e_X10_bestFor_27, e_X10_bestFor_28, e_X10_bestFor_31, e_X10_bestFor_32, e_X10_bestFor_35, e_X10_bestFor_37, e_X10_bestFor_38, e_X10_bestFor_39, e_X10_bestFor_40, e_X10_bestFor_43, e_X10_bestFor_45, e_X10_bestFor_46, e_X10_bestFor_47, e_X10_bestFor_50, e_X10_bestFor_51, e_X10_bestFor_54, e_X10_bestFor_56, e_X10_bestFor_57, e_X10_bestFor_58, e_X10_bestFor_59, e_X10_bestFor_62, e_X10_bestFor_65, e_X10_bestFor_66, Option.bind_some, Option.isSome_some, Option.toList, List.cons_append, List.nil_append, zclr_i, zclr_r, zclr_n, zfit_i, zfit_l, and_self, if_true, if_false]
  refine (zloop (fun q (a : Int32 × Int32) => zexec (d + 4) 150 7 [some (.ref b), some (.int (nI p)), some (.int a.1), some (.int a.2), some (.int (nI q))] [] (mk n m g I J)) (wBest I b p N) N ?_ N 0 (-1, -1) (by omega)).trans ?_
  · intro q a hq
    rw [e_X10_bestFor_7]
    simp only [e_X10_bestFor_0, e_X10_bestFor_1, e_X10_bestFor_2, e_X10_bestFor_3, e_X10_bestFor_4, e_X10_bestFor_5, e_X10_bestFor_9, e_X10_bestFor_10, e_X10_bestFor_13, e_X10_bestFor_16, e_X10_bestFor_17, e_X10_bestFor_18, e_X10_bestFor_20, e_X10_bestFor_21, e_X10_bestFor_24, e_X10_bestFor_27, e_X10_bestFor_28, e_X10_bestFor_31, e_X10_bestFor_32, e_X10_bestFor_35, e_X10_bestFor_37, e_X10_bestFor_38, e_X10_bestFor_39, e_X10_bestFor_40, e_X10_bestFor_43, e_X10_bestFor_45, e_X10_bestFor_46, e_X10_bestFor_47, e_X10_bestFor_50, e_X10_bestFor_51, e_X10_bestFor_54, e_X10_bestFor_56, e_X10_bestFor_57, e_X10_bestFor_58, e_X10_bestFor_59, e_X10_bestFor_62, e_X10_bestFor_65, e_X10_bestFor_66, c_T0 hb, g_T0_4 hb, g_T0_7 hb, g_T0_12 hb, hN, if_neg (nI_ge hq (by omega : N < 2 ^ 31)), t_canMarry hb hN h12 hp (show q < 12 by omega), l_T7 hb (show q < 12 by omega), nI_1, Option.bind_some, Option.isSome_some, Option.toList, List.cons_append, List.nil_append, zclr_i, zclr_r, zclr_n, zfit_i, zfit_l, and_self, if_true, if_false]
    unfold wBest
    by_cases h1 : tMarry I b p q 1 N = true
    · rcases hs q hq with h | ⟨s, h6, h⟩
      · exact absurd h (tMarry_1 h1)
      · simp only [h, l_T2 hb h6, nI_clamp (show s < 2 ^ 31 by omega), h1, bI, Option.bind_some, true_and, if_true]
        by_cases h2 : a.2 < I (b + 2) s
        · simp [h2, Int32.not_le.mpr h2]
        · simp [h2, Int32.not_lt.mp h2]
    · simp [h1, bI]
  · rw [e_X10_bestFor_7]
    simp only [e_X10_bestFor_0, e_X10_bestFor_1, e_X10_bestFor_2, e_X10_bestFor_3, e_X10_bestFor_4, e_X10_bestFor_5, e_X10_bestFor_9, e_X10_bestFor_10, e_X10_bestFor_13, e_X10_bestFor_16, e_X10_bestFor_17, e_X10_bestFor_18, e_X10_bestFor_20, e_X10_bestFor_21, e_X10_bestFor_24, e_X10_bestFor_27, e_X10_bestFor_28, e_X10_bestFor_31, e_X10_bestFor_32, e_X10_bestFor_35, e_X10_bestFor_37, e_X10_bestFor_38, e_X10_bestFor_39, e_X10_bestFor_40, e_X10_bestFor_43, e_X10_bestFor_45, e_X10_bestFor_46, e_X10_bestFor_47, e_X10_bestFor_50, e_X10_bestFor_51, e_X10_bestFor_54, e_X10_bestFor_56, e_X10_bestFor_57, e_X10_bestFor_58, e_X10_bestFor_59, e_X10_bestFor_62, e_X10_bestFor_65, e_X10_bestFor_66, g_T0_4 hb, hN, if_pos (nI_le (Nat.le_refl N) (by omega : N < 2 ^ 31)), Option.bind_some, Option.isSome_some, Option.toList, List.cons_append, List.nil_append, zclr_i, zclr_r, zclr_n, zfit_i, zfit_l, and_self, if_true, if_false]
theorem nI_and {s : Nat} (x : Int32) : ∃ r, r ≤ s ∧ nI s &&& x = nI r := by
  refine ⟨(nI s &&& x).toBitVec.toNat, ?_, ?_⟩
  · rw [Int32.toBitVec_and, BitVec.toNat_and]
    refine Nat.le_trans Nat.and_le_left ?_
    show (BitVec.ofNat 32 s).toNat ≤ s
    rw [BitVec.toNat_ofNat]
    exact Nat.mod_le _ _
  · apply Int32.toBitVec_inj.mp
    show _ = BitVec.ofNat 32 _
    simp
/-- the most couples within a set, by the sets below it -/
def wRest (s : Int32) (p : Nat) : Int32 := s &&& (bt p ^^^ -1)
def wMost (I : Nat → Nat → Int32) (s : Int32) (p : Nat) : Int32 := (zfor (fun q (a : Int32) => if wRest s p &&& I 67 p &&& bt q = 0 then a else if a < I 68 (wRest (wRest s p) q).toNatClampNeg + 1 then I 68 (wRest (wRest s p) q).toNatClampNeg + 1 else a) (p + 1) (11 - p) (I 68 (wRest s p).toNatClampNeg)).toInt8.toInt32
theorem w_mostWithin {s p : Nat} (hs : s < 4096) (hp : p < 12) (hl : tLeast (nI s) = nI p) (d : Nat) : zcall (d + 1) 152 [.ref 66, .int (nI s)] (mk n m g I J) = some (some (.int (wMost I (nI s) p)), mk n m g I J) := by
  rw [m_X10_mostWithin]
  have h1 : ∀ s, zcall d 98 [.int s] (mk n m g I J) = some (some (.int (tLeast s)), mk n m g I J) := fun s => t_least d
  obtain ⟨r, hr, hr2⟩ := nI_and (s := s) (bt p ^^^ -1)
  have hr3 : nI s &&& (1 <<< (nI p &&& 31) ^^^ -1) = nI r := hr2
  have hr4 : wRest (nI s) p = nI r := hr2
  simp only [e_X10_mostWithin_0, e_X10_mostWithin_1, e_X10_mostWithin_4, e_X10_mostWithin_5, e_X10_mostWithin_6, e_X10_mostWithin_7, e_X10_mostWithin_8, e_X10_mostWithin_9, e_X10_mostWithin_10, e_X10_mostWithin_11, e_X10_mostWithin_12, e_X10_mostWithin_13, e_X10_mostWithin_14, e_X10_mostWithin_17, e_X10_mostWithin_18, e_X10_mostWithin_19, e_X10_mostWithin_21, e_X10_mostWithin_22, e_X10_mostWithin_23, e_X10_mostWithin_24, e_X10_mostWithin_28, e_X10_mostWithin_30, e_X10_mostWithin_33, e_X10_mostWithin_34, e_X10_mostWithin_35, e_X10_mostWithin_38, e_X10_mostWithin_39, e_X10_mostWithin_40, e_X10_mostWithin_41, e_X10_mostWithin_42, e_X10_mostWithin_44, e_X10_mostWithin_45, e_X10_mostWithin_46, e_X10_mostWithin_49, e_X10_mostWithin_51, e_X10_mostWithin_52, e_X10_mostWithin_55, e_X10_mostWithin_56, e_X10_mostWithin_57, e_X10_mostWithin_59, e_X10_mostWithin_60, e_X10_mostWithin_61, e_X10_mostWithin_62, e_X10_mostWithin_63, e_X10_mostWithin_64, e_X10_mostWithin_65, e_X10_mostWithin_66, e_X10_mostWithin_69, e_X10_mostWithin_71, e_X10_mostWithin_74, e_X10_mostWithin_77, e_X10_mostWithin_79, e_X10_mostWithin_80, h1, hl, hr3, g_66_1, l_68 (show r < 4096 by omega), nI_1, Option.bind_some, Option.isSome_some, Option.toList, List.cons_append, List.nil_append, zclr_i, zclr_r, zclr_n, zfit_i, zfit_l, and_self, if_true, if_false]
  refine (zloop (fun q (a : Int32) => zexec (d + 1) 152 26 [some (.ref 66), some (.int (nI s)), some (.int (nI p)), some (.int (nI r)), some (.int a), some (.int (nI q))] [] (mk n m g I J)) (fun q a => if nI r &&& I 67 p &&& bt q = 0 then a else if a < I 68 (wRest (nI r) q).toNatClampNeg + 1 then I 68 (wRest (nI r) q).toNatClampNeg + 1 else a) 12 ?_ (11 - p) (p + 1) (I 68 r) (by omega)).trans ?_
  · intro q a hq
    obtain ⟨u, hu, hu2⟩ := nI_and (s := r) (bt q ^^^ -1)
    have hu3 : nI r &&& (1 <<< (nI q &&& 31) ^^^ -1) = nI u := hu2
    have hu4 : wRest (nI r) q = nI u := hu2
    rw [e_X10_mostWithin_26]
    simp only [e_X10_mostWithin_0, e_X10_mostWithin_1, e_X10_mostWithin_4, e_X10_mostWithin_5, e_X10_mostWithin_6, e_X10_mostWithin_7, e_X10_mostWithin_8, e_X10_mostWithin_9, e_X10_mostWithin_10, e_X10_mostWithin_11, e_X10_mostWithin_12, e_X10_mostWithin_13, e_X10_mostWithin_14, e_X10_mostWithin_17, e_X10_mostWithin_18, e_X10_mostWithin_19, e_X10_mostWithin_21, e_X10_mostWithin_22, e_X10_mostWithin_23, e_X10_mostWithin_24, e_X10_mostWithin_28, e_X10_mostWithin_30, e_X10_mostWithin_33, e_X10_mostWithin_34, e_X10_mostWithin_35, e_X10_mostWithin_38, e_X10_mostWithin_39, e_X10_mostWithin_40, e_X10_mostWithin_41, e_X10_mostWithin_42, e_X10_mostWithin_44, e_X10_mostWithin_45, e_X10_mostWithin_46, e_X10_mostWithin_49, e_X10_mostWithin_51, e_X10_mostWithin_52, e_X10_mostWithin_55, e_X10_mostWithin_56, e_X10_mostWithin_57, e_X10_mostWithin_59, e_X10_mostWithin_60, e_X10_mostWithin_61, e_X10_mostWithin_62, e_X10_mostWithin_63, e_X10_mostWithin_64, e_X10_mostWithin_65, e_X10_mostWithin_66, e_X10_mostWithin_69, e_X10_mostWithin_71, e_X10_mostWithin_74, e_X10_mostWithin_77, e_X10_mostWithin_79, e_X10_mostWithin_80, if_neg (show ¬ (12 : Int32) ≤ nI q from nI_ge (b := 12) hq (by decide)), g_66_0, g_66_1, l_67 hp, hu3, hu4, l_68 (show u < 4096 by omega), nI_clamp (show u < 2 ^ 31 by omega), j_max, nI_1, Option.bind_some, Option.isSome_some, Option.toList, List.cons_append, List.nil_append, zclr_i, zclr_r, zclr_n, zfit_i, zfit_l, and_self, if_true, if_false]
    by_cases h2 : nI r &&& I 67 p &&& bt q = 0
    · have h3 : nI r &&& I 67 p &&& 1 <<< (nI q &&& 31) = 0 := h2
      simp [h2, h3]
    · have h3 : ¬ nI r &&& I 67 p &&& 1 <<< (nI q &&& 31) = 0 := h2
      simp [h2, h3]
  · rw [e_X10_mostWithin_26]
    simp only [e_X10_mostWithin_0, e_X10_mostWithin_1, e_X10_mostWithin_4, e_X10_mostWithin_5, e_X10_mostWithin_6, e_X10_mostWithin_7, e_X10_mostWithin_8, e_X10_mostWithin_9, e_X10_mostWithin_10, e_X10_mostWithin_11, e_X10_mostWithin_12, e_X10_mostWithin_13, e_X10_mostWithin_14, e_X10_mostWithin_17, e_X10_mostWithin_18, e_X10_mostWithin_19, e_X10_mostWithin_21, e_X10_mostWithin_22, e_X10_mostWithin_23, e_X10_mostWithin_24, e_X10_mostWithin_28, e_X10_mostWithin_30, e_X10_mostWithin_33, e_X10_mostWithin_34, e_X10_mostWithin_35, e_X10_mostWithin_38, e_X10_mostWithin_39, e_X10_mostWithin_40, e_X10_mostWithin_41, e_X10_mostWithin_42, e_X10_mostWithin_44, e_X10_mostWithin_45, e_X10_mostWithin_46, e_X10_mostWithin_49, e_X10_mostWithin_51, e_X10_mostWithin_52, e_X10_mostWithin_55, e_X10_mostWithin_56, e_X10_mostWithin_57, e_X10_mostWithin_59, e_X10_mostWithin_60, e_X10_mostWithin_61, e_X10_mostWithin_62, e_X10_mostWithin_63, e_X10_mostWithin_64, e_X10_mostWithin_65, e_X10_mostWithin_66, e_X10_mostWithin_69, e_X10_mostWithin_71, e_X10_mostWithin_74, e_X10_mostWithin_77, e_X10_mostWithin_79, e_X10_mostWithin_80, if_pos (show (12 : Int32) ≤ nI 12 by decide), Option.bind_some, Option.isSome_some, Option.toList, List.cons_append, List.nil_append, zclr_i, zclr_r, zclr_n, zfit_i, zfit_l, and_self, if_true, if_false]
    unfold wMost
    rw [hr4, nI_clamp (show r < 2 ^ 31 by omega)]
    simp [zfit]
end WE
