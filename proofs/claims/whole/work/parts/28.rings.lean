/-! THE RINGS -/
section RI
variable {n m : Nat} {g : Nat → zC} {I : Nat → Nat → Int32} {J : Nat → Nat → Int64}
theorem ring_town {t i : Nat} (ht : isTown t) (hi : i < 17) : t + i ≠ 69 ∧ t + i ≠ 70 ∧ t + i ≠ 71 := by
  rcases ht with rfl | rfl | rfl | rfl | rfl <;> omega
def sBear (I : Nat → Nat → Int32) (b : Nat) (s : Int32) (N : Nat) : Int32 := sSet (fun p => decide (I (b + 7) p = s ∧ I (b + 6) p = -1)) N
def tLeast (s : Int32) : Int32 := zfind (fun p => decide (¬ s >>> (nI p &&& 31) &&& 1 = 0)) nI 0 0 12
def rDear (I : Nat → Nat → Int32) (b p N : Nat) : Nat → Nat → Int32
  | _, 0 => nI p
  | k, f + 1 => if I (b + 13) (p * 6 + k) = I (b + 7) p then nI p else if sBear I b (I (b + 13) (p * 6 + k)) N &&& I 69 3 = 0 then rDear I b p N (k + 1) f else tLeast (sBear I b (I (b + 13) (p * 6 + k)) N &&& I 69 3)
theorem r_dearestOf {b p N K : Nat} (hb : isTown b) (hN : I b 4 = nI N) (h12 : N ≤ 12) (hp : p < 12) (hK : I (b + 12) p = nI K) (h6 : K ≤ 6) (d : Nat) : zcall (d + 1) 66 [.ref 69, .ref b, .int (nI p)] (mk n m g I J) = some (some (.int (rDear I b p N 0 K)), mk n m g I J) := by
  rw [m_X5_dearestOf]
  simp only [e_X5_dearestOf_0, e_X5_dearestOf_1, e_X5_dearestOf_3, e_X5_dearestOf_4, e_X5_dearestOf_7, e_X5_dearestOf_8, e_X5_dearestOf_9, e_X5_dearestOf_12, e_X5_dearestOf_13, e_X5_dearestOf_14, e_X5_dearestOf_15, e_X5_dearestOf_18, e_X5_dearestOf_20, e_X5_dearestOf_22, e_X5_dearestOf_23, e_X5_dearestOf_26, e_X5_dearestOf_27, e_X5_dearestOf_28, e_X5_dearestOf_31, e_X5_dearestOf_32, e_X5_dearestOf_33, e_X5_dearestOf_34, e_X5_dearestOf_36, e_X5_dearestOf_39, e_X5_dearestOf_40, e_X5_dearestOf_43, e_X5_dearestOf_44, e_X5_dearestOf_46, e_X5_dearestOf_48, e_X5_dearestOf_51, e_X5_dearestOf_53, e_X5_dearestOf_56, e_X5_dearestOf_57, e_X5_dearestOf_60, e_X5_dearestOf_63, e_X5_dearestOf_64, Option.bind_some, Option.isSome_some, Option.toList, List.cons_append, List.nil_append, zclr_i, zclr_r, zclr_n, zfit_i, zfit_l, and_self, if_true, if_false]
  have h0 : ∀ s, zcall d 91 [.ref b, .int s] (mk n m g I J) = some (some (.int (sBear I b s N)), mk n m g I J) := fun s => t_bearers hb hN h12 d
  have h1 : ∀ s, zcall d 98 [.int s] (mk n m g I J) = some (some (.int (tLeast s)), mk n m g I J) := fun s => t_least d
  have h : ∀ f k (y z : Option Value), k + f = K → zexec (d + 1) 66 2 [some (.ref 69), some (.ref b), some (.int (nI p)), some (.int (nI k)), y, z] [] (mk n m g I J) = some (some (.int (rDear I b p N k f)), mk n m g I J) := by
    intro f
    induction f with
    | zero =>
      intro k y z hk
      rw [e_X5_dearestOf_2]
      simp only [e_X5_dearestOf_0, e_X5_dearestOf_1, e_X5_dearestOf_3, e_X5_dearestOf_4, e_X5_dearestOf_7, e_X5_dearestOf_8, e_X5_dearestOf_9, e_X5_dearestOf_12, e_X5_dearestOf_13, e_X5_dearestOf_14, e_X5_dearestOf_15, e_X5_dearestOf_18, e_X5_dearestOf_20, e_X5_dearestOf_22, e_X5_dearestOf_23, e_X5_dearestOf_26, e_X5_dearestOf_27, e_X5_dearestOf_28, e_X5_dearestOf_31, e_X5_dearestOf_32, e_X5_dearestOf_33, e_X5_dearestOf_34, e_X5_dearestOf_36, e_X5_dearestOf_39, e_X5_dearestOf_40, e_X5_dearestOf_43, e_X5_dearestOf_44, e_X5_dearestOf_46, e_X5_dearestOf_48, e_X5_dearestOf_51, e_X5_dearestOf_53, e_X5_dearestOf_56, e_X5_dearestOf_57, e_X5_dearestOf_60, e_X5_dearestOf_63, e_X5_dearestOf_64, g_T0_17 hb, l_T12 hb hp, hK, if_pos (nI_le (show K ≤ k by omega) (by omega : k < 2 ^ 31)), Option.bind_some, Option.isSome_some, Option.toList, List.cons_append, List.nil_append, zclr_i, zclr_r, zclr_n, zfit_i, zfit_l, and_self, if_true, if_false]
      rfl
    | succ f ih =>
      intro k y z hk
      rw [e_X5_dearestOf_2, rDear]
      simp only [e_X5_dearestOf_0, e_X5_dearestOf_1, e_X5_dearestOf_3, e_X5_dearestOf_4, e_X5_dearestOf_7, e_X5_dearestOf_8, e_X5_dearestOf_9, e_X5_dearestOf_12, e_X5_dearestOf_13, e_X5_dearestOf_14, e_X5_dearestOf_15, e_X5_dearestOf_18, e_X5_dearestOf_20, e_X5_dearestOf_22, e_X5_dearestOf_23, e_X5_dearestOf_26, e_X5_dearestOf_27, e_X5_dearestOf_28, e_X5_dearestOf_31, e_X5_dearestOf_32, e_X5_dearestOf_33, e_X5_dearestOf_34, e_X5_dearestOf_36, e_X5_dearestOf_39, e_X5_dearestOf_40, e_X5_dearestOf_43, e_X5_dearestOf_44, e_X5_dearestOf_46, e_X5_dearestOf_48, e_X5_dearestOf_51, e_X5_dearestOf_53, e_X5_dearestOf_56, e_X5_dearestOf_57, e_X5_dearestOf_60, e_X5_dearestOf_63, e_X5_dearestOf_64, c_T0 hb, g_T0_12 hb, g_T0_17 hb, g_69_3, l_T7 hb hp, l_T12 hb hp, hK, t_likedAt hb (show p * 6 + k < 72 by omega), h0, h1, if_neg (nI_ge (show k < K by omega) (by omega : K < 2 ^ 31)), nI_1, ih (k + 1) _ _ (by omega), Option.bind_some, Option.isSome_some, Option.toList, List.cons_append, List.nil_append, zclr_i, zclr_r, zclr_n, zfit_i, zfit_l, and_self, if_true, if_false]
      by_cases h2 : I (b + 13) (p * 6 + k) = I (b + 7) p
      · simp [h2]
      · by_cases h3 : sBear I b (I (b + 13) (p * 6 + k)) N &&& I 69 3 = 0 <;> simp [h2, h3]
  exact h K 0 none none (by omega)
def rPoint (b N p : Nat) (I : Nat → Nat → Int32) : Nat → Nat → Int32 := if I 69 3 >>> (nI p &&& 31) &&& 1 = 0 then I else zu I 71 p (rDear I b p N 0 (I (b + 12) p).toNatClampNeg)
def likeOk (I : Nat → Nat → Int32) (b N : Nat) : Prop := ∀ p, p < N → ∃ K, K ≤ 6 ∧ I (b + 12) p = nI K
theorem r_pointAll {b N : Nat} (hb : isTown b) (hN : I b 4 = nI N) (h12 : N ≤ 12) (hk : likeOk I b N) (d : Nat) : zcall (d + 2) 65 [.ref 69, .ref b] (mk n m g I J) = some (none, mk n m g (zfor (rPoint b N) 0 N I) J) := by
  rw [m_X5_pointAll]
  simp only [e_X5_pointAll_0, e_X5_pointAll_1, e_X5_pointAll_3, e_X5_pointAll_4, e_X5_pointAll_7, e_X5_pointAll_10, e_X5_pointAll_11, e_X5_pointAll_14, e_X5_pointAll_15, e_X5_pointAll_16, e_X5_pointAll_17, e_X5_pointAll_18, e_X5_pointAll_21, e_X5_pointAll_22, e_X5_pointAll_25, e_X5_pointAll_26, e_X5_pointAll_27, e_X5_pointAll_28, e_X5_pointAll_29, e_X5_pointAll_32, e_X5_pointAll_33, e_X5_pointAll_36, e_X5_pointAll_39, Option.bind_some, Option.isSome_some, Option.toList, List.cons_append, List.nil_append, zclr_i, zclr_r, zclr_n, zfit_i, zfit_l, and_self, if_true, if_false]
  have h := zloopI (fun p (a : Nat → Nat → Int32) => zexec (d + 2) 65 2 [some (.ref 69), some (.ref b), some (.int (nI p))] [] (mk n m g a J)) (rPoint b N) (fun _ a => a b 4 = nI N ∧ likeOk a b N) N ?_ N 0 I (by omega) ⟨hN, hk⟩
  · refine h.1.trans ?_
    rw [e_X5_pointAll_2]
    simp only [e_X5_pointAll_0, e_X5_pointAll_1, e_X5_pointAll_3, e_X5_pointAll_4, e_X5_pointAll_7, e_X5_pointAll_10, e_X5_pointAll_11, e_X5_pointAll_14, e_X5_pointAll_15, e_X5_pointAll_16, e_X5_pointAll_17, e_X5_pointAll_18, e_X5_pointAll_21, e_X5_pointAll_22, e_X5_pointAll_25, e_X5_pointAll_26, e_X5_pointAll_27, e_X5_pointAll_28, e_X5_pointAll_29, e_X5_pointAll_32, e_X5_pointAll_33, e_X5_pointAll_36, e_X5_pointAll_39, g_T0_4 hb, h.2.1, if_pos (nI_le (Nat.le_refl N) (by omega : N < 2 ^ 31)), Option.bind_some, Option.isSome_some, Option.toList, List.cons_append, List.nil_append, zclr_i, zclr_r, zclr_n, zfit_i, zfit_l, and_self, if_true, if_false]
  · intro p a hp ha
    obtain ⟨K, h6, hK⟩ := ha.2 p hp
    refine ⟨?_, ?_⟩
    · rw [e_X5_pointAll_2]
      simp only [e_X5_pointAll_0, e_X5_pointAll_1, e_X5_pointAll_3, e_X5_pointAll_4, e_X5_pointAll_7, e_X5_pointAll_10, e_X5_pointAll_11, e_X5_pointAll_14, e_X5_pointAll_15, e_X5_pointAll_16, e_X5_pointAll_17, e_X5_pointAll_18, e_X5_pointAll_21, e_X5_pointAll_22, e_X5_pointAll_25, e_X5_pointAll_26, e_X5_pointAll_27, e_X5_pointAll_28, e_X5_pointAll_29, e_X5_pointAll_32, e_X5_pointAll_33, e_X5_pointAll_36, e_X5_pointAll_39, c_69, g_69_2, g_69_3, g_T0_4 hb, ha.1, if_neg (nI_ge hp (by omega : N < 2 ^ 31)), r_dearestOf hb ha.1 h12 (show p < 12 by omega) hK h6, nI_neg (show p < 2 ^ 31 by omega), nI_clamp (show p < 2 ^ 31 by omega), k_71 (show p < 12 by omega), q_71, nI_1, Option.bind_some, Option.isSome_some, Option.toList, List.cons_append, List.nil_append, zclr_i, zclr_r, zclr_n, zfit_i, zfit_l, and_self, if_true, if_false]
      unfold rPoint
      rw [hK, nI_clamp (show K < 2 ^ 31 by omega)]
      by_cases h2 : a 69 3 >>> (nI p &&& 31) &&& 1 = 0 <;> simp [h2]
    · unfold rPoint
      split
      · exact ha
      · refine ⟨by rw [zu_far _ _ _ (show b ≠ 71 from (ring_town (i := 0) hb (by decide)).2.2)]; exact ha.1, ?_⟩
        intro q hq
        rw [zu_far _ _ _ (ring_town hb (by decide)).2.2]
        exact ha.2 q hq
def pointOk (I : Nat → Nat → Int32) : Prop := ∀ q, q < 12 → ∃ r, r < 12 ∧ I 71 q = nI r
def rLen (I : Nat → Nat → Int32) (p : Nat) : Nat → Nat → Nat → Int32
  | _, _, 0 => 0
  | q, k, f + 1 => if I 71 q = nI p then nI k else rLen I p (I 71 q).toNatClampNeg (k + 1) f
theorem r_lengthFrom {p : Nat} (hp : p < 12) (hk : pointOk I) (d : Nat) : zcall d 68 [.ref 69, .int (nI p)] (mk n m g I J) = some (some (.int (rLen I p p 1 12)), mk n m g I J) := by
  rw [m_X5_lengthFrom]
  simp only [e_X5_lengthFrom_0, e_X5_lengthFrom_1, e_X5_lengthFrom_2, e_X5_lengthFrom_3, e_X5_lengthFrom_5, e_X5_lengthFrom_7, e_X5_lengthFrom_10, e_X5_lengthFrom_11, e_X5_lengthFrom_14, e_X5_lengthFrom_15, e_X5_lengthFrom_16, e_X5_lengthFrom_17, e_X5_lengthFrom_18, e_X5_lengthFrom_19, e_X5_lengthFrom_22, e_X5_lengthFrom_23, e_X5_lengthFrom_24, e_X5_lengthFrom_27, e_X5_lengthFrom_30, e_X5_lengthFrom_31, Option.bind_some, Option.isSome_some, Option.toList, List.cons_append, List.nil_append, zclr_i, zclr_r, zclr_n, zfit_i, zfit_l, and_self, if_true, if_false]
  have h : ∀ f k q, q < 12 → k + f = 13 → zexec d 68 4 [some (.ref 69), some (.int (nI p)), some (.int (nI q)), some (.int (nI k))] [] (mk n m g I J) = some (some (.int (rLen I p q k f)), mk n m g I J) := by
    intro f
    induction f with
    | zero =>
      intro k q hq hk
      have : k = 13 := by omega
      subst this
      rw [e_X5_lengthFrom_4]
      simp only [e_X5_lengthFrom_0, e_X5_lengthFrom_1, e_X5_lengthFrom_2, e_X5_lengthFrom_3, e_X5_lengthFrom_5, e_X5_lengthFrom_7, e_X5_lengthFrom_10, e_X5_lengthFrom_11, e_X5_lengthFrom_14, e_X5_lengthFrom_15, e_X5_lengthFrom_16, e_X5_lengthFrom_17, e_X5_lengthFrom_18, e_X5_lengthFrom_19, e_X5_lengthFrom_22, e_X5_lengthFrom_23, e_X5_lengthFrom_24, e_X5_lengthFrom_27, e_X5_lengthFrom_30, e_X5_lengthFrom_31, if_pos (show (12 : Int32) < nI 13 by decide), Option.bind_some, Option.isSome_some, Option.toList, List.cons_append, List.nil_append, zclr_i, zclr_r, zclr_n, zfit_i, zfit_l, and_self, if_true, if_false]
      rfl
    | succ f ih =>
      intro k q hq hk'
      obtain ⟨r, hr, hqr⟩ := hk q hq
      have h4 : ¬ (12 : Int32) < nI k := Int32.not_lt.mpr (nI_le (b := 12) (by omega) (by decide))
      rw [e_X5_lengthFrom_4, rLen]
      simp only [e_X5_lengthFrom_0, e_X5_lengthFrom_1, e_X5_lengthFrom_2, e_X5_lengthFrom_3, e_X5_lengthFrom_5, e_X5_lengthFrom_7, e_X5_lengthFrom_10, e_X5_lengthFrom_11, e_X5_lengthFrom_14, e_X5_lengthFrom_15, e_X5_lengthFrom_16, e_X5_lengthFrom_17, e_X5_lengthFrom_18, e_X5_lengthFrom_19, e_X5_lengthFrom_22, e_X5_lengthFrom_23, e_X5_lengthFrom_24, e_X5_lengthFrom_27, e_X5_lengthFrom_30, e_X5_lengthFrom_31, g_69_2, if_neg h4, l_71 hq, hqr, nI_clamp (show r < 2 ^ 31 by omega), nI_1, ih (k + 1) r hr (by omega), Option.bind_some, Option.isSome_some, Option.toList, List.cons_append, List.nil_append, zclr_i, zclr_r, zclr_n, zfit_i, zfit_l, and_self, if_true, if_false]
      by_cases h5 : nI r = nI p <;> simp [h5]
  exact h 12 1 p hp (by omega)
def rTake1 (b : Nat) (x : Nat × (Nat → Nat → Int32)) : Nat × (Nat → Nat → Int32) := ((x.2 71 x.1).toNatClampNeg, zu (zu x.2 70 x.1 (x.2 (b + 7) (x.2 71 x.1).toNatClampNeg)) 69 3 (x.2 69 3 &&& (bt x.1 ^^^ -1)))
def rTake (b p L : Nat) (I : Nat → Nat → Int32) : Nat → Nat → Int32 := if 1 < L then zu (zfor (fun _ => rTake1 b) 0 L (p, I)).2 69 1 ((zfor (fun _ => rTake1 b) 0 L (p, I)).2 69 1 + 1) else (zfor (fun _ => rTake1 b) 0 L (p, I)).2
theorem r_take {b p L : Nat} (hb : isTown b) (hp : p < 12) (hk : pointOk I) (hL : L ≤ 12) (d : Nat) : zcall d 69 [.ref 69, .ref b, .int (nI p), .int (nI L)] (mk n m g I J) = some (none, mk n m g (rTake b p L I) J) := by
  rw [m_X5_take]
  simp only [e_X5_take_0, e_X5_take_1, e_X5_take_3, e_X5_take_4, e_X5_take_8, e_X5_take_9, e_X5_take_12, e_X5_take_13, e_X5_take_16, e_X5_take_18, e_X5_take_19, e_X5_take_22, e_X5_take_23, e_X5_take_26, e_X5_take_28, e_X5_take_29, e_X5_take_30, e_X5_take_31, e_X5_take_32, e_X5_take_33, e_X5_take_36, e_X5_take_37, e_X5_take_39, e_X5_take_40, e_X5_take_41, e_X5_take_42, e_X5_take_43, e_X5_take_46, e_X5_take_47, e_X5_take_50, e_X5_take_52, e_X5_take_53, e_X5_take_55, e_X5_take_58, e_X5_take_61, e_X5_take_62, e_X5_take_63, e_X5_take_66, e_X5_take_67, e_X5_take_68, e_X5_take_71, e_X5_take_72, e_X5_take_73, e_X5_take_76, Option.bind_some, Option.isSome_some, Option.toList, List.cons_append, List.nil_append, zclr_i, zclr_r, zclr_n, zfit_i, zfit_l, and_self, if_true, if_false]
  have h := zloopI (fun k (x : Nat × (Nat → Nat → Int32)) => zexec d 69 6 [some (.ref 69), some (.ref b), some (.int (nI p)), some (.int (nI L)), some (.int (nI x.1)), some (.int (nI k))] [] (mk n m g x.2 J)) (fun _ => rTake1 b) (fun _ x => x.1 < 12 ∧ x.2 71 = I 71) L ?_ L 0 (p, I) (by omega) ⟨hp, rfl⟩
  · refine h.1.trans ?_
    rw [e_X5_take_6]
    simp only [e_X5_take_0, e_X5_take_1, e_X5_take_3, e_X5_take_4, e_X5_take_8, e_X5_take_9, e_X5_take_12, e_X5_take_13, e_X5_take_16, e_X5_take_18, e_X5_take_19, e_X5_take_22, e_X5_take_23, e_X5_take_26, e_X5_take_28, e_X5_take_29, e_X5_take_30, e_X5_take_31, e_X5_take_32, e_X5_take_33, e_X5_take_36, e_X5_take_37, e_X5_take_39, e_X5_take_40, e_X5_take_41, e_X5_take_42, e_X5_take_43, e_X5_take_46, e_X5_take_47, e_X5_take_50, e_X5_take_52, e_X5_take_53, e_X5_take_55, e_X5_take_58, e_X5_take_61, e_X5_take_62, e_X5_take_63, e_X5_take_66, e_X5_take_67, e_X5_take_68, e_X5_take_71, e_X5_take_72, e_X5_take_73, e_X5_take_76, g_69_1, p_69_1, if_pos (nI_le (Nat.le_refl L) (by omega : L < 2 ^ 31)), Option.bind_some, Option.isSome_some, Option.toList, List.cons_append, List.nil_append, zclr_i, zclr_r, zclr_n, zfit_i, zfit_l, and_self, if_true, if_false]
    unfold rTake
    by_cases h1 : 1 < L
    · simp [h1, Int32.not_le.mpr (Int32.not_le.mp (nI_ge h1 (by omega : L < 2 ^ 31)) : (1 : Int32) < nI L)]
    · have h2 : nI L ≤ (1 : Int32) := nI_le (b := 1) (by omega) (by decide)
      simp only [h1, h2, if_true, if_false]
  · intro k x hk' hx
    obtain ⟨r, hr, hqr⟩ := hk x.1 hx.1
    rw [← hx.2] at hqr
    refine ⟨?_, ?_⟩
    · rw [e_X5_take_6]
      simp only [e_X5_take_0, e_X5_take_1, e_X5_take_3, e_X5_take_4, e_X5_take_8, e_X5_take_9, e_X5_take_12, e_X5_take_13, e_X5_take_16, e_X5_take_18, e_X5_take_19, e_X5_take_22, e_X5_take_23, e_X5_take_26, e_X5_take_28, e_X5_take_29, e_X5_take_30, e_X5_take_31, e_X5_take_32, e_X5_take_33, e_X5_take_36, e_X5_take_37, e_X5_take_39, e_X5_take_40, e_X5_take_41, e_X5_take_42, e_X5_take_43, e_X5_take_46, e_X5_take_47, e_X5_take_50, e_X5_take_52, e_X5_take_53, e_X5_take_55, e_X5_take_58, e_X5_take_61, e_X5_take_62, e_X5_take_63, e_X5_take_66, e_X5_take_67, e_X5_take_68, e_X5_take_71, e_X5_take_72, e_X5_take_73, e_X5_take_76, g_69_0, g_69_2, g_69_3, g_T0_12 hb, if_neg (nI_ge hk' (by omega : L < 2 ^ 31)), l_71 hx.1, hqr, l_T7 hb hr, nI_neg (show x.1 < 2 ^ 31 by omega), nI_clamp (show x.1 < 2 ^ 31 by omega), k_70 hx.1, q_70, p_69_3, zu_far _ _ _ (show (69 : Nat) ≠ 70 by decide), zu_far _ _ _ (show (71 : Nat) ≠ 70 by decide), zu_far _ _ _ (show (71 : Nat) ≠ 69 by decide), nI_1, Option.bind_some, Option.isSome_some, Option.toList, List.cons_append, List.nil_append, zclr_i, zclr_r, zclr_n, zfit_i, zfit_l, and_self, if_true, if_false]
      unfold rTake1
      rw [hqr, nI_clamp (show r < 2 ^ 31 by omega)]
      rfl
    · unfold rTake1
      rw [hqr, nI_clamp (show r < 2 ^ 31 by omega)]
      refine ⟨hr, ?_⟩
      dsimp only
      rw [zu_far _ _ _ (show (71 : Nat) ≠ 69 by decide), zu_far _ _ _ (show (71 : Nat) ≠ 70 by decide)]
      exact hx.2
end RI
