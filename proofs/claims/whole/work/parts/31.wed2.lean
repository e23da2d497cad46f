/-! THE MOST COUPLES -/
section W2
variable {n m : Nat} {g : Nat → zC} {I : Nat → Nat → Int32} {J : Nat → Nat → Int64}
theorem bt_nI {q : Nat} (h : q < 12) : bt q = nI (2 ^ q) := by
  have : q = 0 ∨ q = 1 ∨ q = 2 ∨ q = 3 ∨ q = 4 ∨ q = 5 ∨ q = 6 ∨ q = 7 ∨ q = 8 ∨ q = 9 ∨ q = 10 ∨ q = 11 := by omega
  rcases this with rfl | rfl | rfl | rfl | rfl | rfl | rfl | rfl | rfl | rfl | rfl | rfl <;> rfl
theorem nI_or (a b : Nat) : nI a ||| nI b = nI (a ||| b) := by
  apply Int32.toBitVec_inj.mp
  show BitVec.ofNat 32 a ||| BitVec.ofNat 32 b = BitVec.ofNat 32 (a ||| b)
  apply BitVec.eq_of_toNat_eq
  simp [BitVec.toNat_or, Nat.or_mod_two_pow]
/-- a set of the twelve -/
def isSet (x : Int32) : Prop := ∃ r, r < 4096 ∧ x = nI r
theorem isSet_or {x y : Int32} (hx : isSet x) (hy : isSet y) : isSet (x ||| y) := by
  obtain ⟨a, ha, rfl⟩ := hx
  obtain ⟨b, hb, rfl⟩ := hy
  exact ⟨a ||| b, Nat.or_lt_two_pow (n := 12) ha hb, nI_or a b⟩
theorem isSet_and {x : Int32} (hx : isSet x) (y : Int32) : isSet (x &&& y) := by
  obtain ⟨a, ha, rfl⟩ := hx
  obtain ⟨r, hr, h⟩ := nI_and (s := a) y
  exact ⟨r, by omega, h⟩
theorem isSet_bt {q : Nat} (h : q < 12) : isSet (bt q) := ⟨2 ^ q, Nat.pow_lt_pow_right (by decide) h, bt_nI h⟩
theorem isSet_sSet (c : Nat → Bool) {N : Nat} (h : N ≤ 12) : isSet (sSet c N) := by
  have : ∀ k p (a : Int32), p + k ≤ 12 → isSet a → isSet (zfor (fun p (a : Int32) => if c p = true then a ||| bt p else a) p k a) := by
    intro k
    induction k with
    | zero => intro p a _ ha; exact ha
    | succ k ih =>
      intro p a hp ha
      rw [zfor]
      refine ih (p + 1) _ (by omega) ?_
      split
      · exact isSet_or ha (isSet_bt (by omega))
      · exact ha
  exact this N 0 0 (by omega) ⟨0, by decide, rfl⟩
theorem wed_town {t i : Nat} (ht : isTown t) (hi : i < 17) : t + i ≠ 67 ∧ t + i ≠ 68 := by
  rcases ht with rfl | rfl | rfl | rfl | rfl <;> omega
def wOthers (I : Nat → Nat → Int32) (b N : Nat) (s : Int32) (p : Nat) : Int32 := if s >>> (nI p &&& 31) &&& 1 = 0 then s else tLiv I b N
def wMates (I : Nat → Nat → Int32) (b N : Nat) (s : Int32) (p : Nat) : Int32 := sSet (fun q => tMarry I b p q 0 N) N &&& wOthers I b N s p
def wAll1 (b N : Nat) (s : Int32) (p : Nat) (x : Int32 × (Nat → Nat → Int32) × Option Value) : Int32 × (Nat → Nat → Int32) × Option Value := (x.1 ||| wMates x.2.1 b N s p, zu x.2.1 67 p (wMates x.2.1 b N s p), some (.int (wOthers x.2.1 b N s p)))
def wFill (a : Int32) (s : Nat) (I : Nat → Nat → Int32) : Nat → Nat → Int32 := if nI s &&& (a ^^^ -1) = 0 then zu I 68 s (wMost I (nI s) (tLeast (nI s)).toNatClampNeg) else I
def wSet (I : Nat → Nat → Int32) (b N : Nat) (s : Int32) : Int32 := if s = -1 then tLiv I b N else sBear I b s N
def wAll (I : Nat → Nat → Int32) (b N : Nat) (s : Int32) : Int32 × (Nat → Nat → Int32) × Option Value := zfor (wAll1 b N (wSet I b N s)) 0 N (0, I, none)
def wTable (I : Nat → Nat → Int32) (b N : Nat) (s : Int32) : Nat → Nat → Int32 := zfor (wFill (wAll I b N s).1) 1 (wAll I b N s).1.toNatClampNeg (zu (wAll I b N s).2.1 68 0 0)
theorem w_mostCouples {b N : Nat} {s : Int32} (hb : isTown b) (hN : I b 4 = nI N) (h12 : N ≤ 12) (d : Nat) : zcall (d + 5) 151 [.ref 66, .ref b, .int s] (mk n m g I J) = some (some (.int (wTable I b N s 68 (wAll I b N s).1.toNatClampNeg)), mk n m g (wTable I b N s) J) := by
  rw [m_X10_mostCouples]
  have hliv : ∀ (I : Nat → Nat → Int32), I b 4 = nI N → zcall (d + 4) 90 [.ref b] (mk n m g I J) = some (some (.int (tLiv I b N)), mk n m g I J) := fun I hI => t_living hb hI h12 (d + 3)
  have hbea : ∀ s, zcall (d + 4) 91 [.ref b, .int s] (mk n m g I J) = some (some (.int (sBear I b s N)), mk n m g I J) := fun s => t_bearers hb hN h12 (d + 4)
  have hstart : zexec (d + 5) 151 0 [some (.ref 66), some (.ref b), some (.int s), none, none, none, none] [] (mk n m g I J) = zexec (d + 5) 151 24 [some (.ref 66), some (.ref b), some (.int s), some (.int (wSet I b N s)), some (.int 0), some (.int (nI 0)), none] [] (mk n m g I J) := by
    simp only [e_X10_mostCouples_0, e_X10_mostCouples_1, e_X10_mostCouples_2, e_X10_mostCouples_5, e_X10_mostCouples_6, e_X10_mostCouples_9, e_X10_mostCouples_12, e_X10_mostCouples_13, e_X10_mostCouples_14, e_X10_mostCouples_17, e_X10_mostCouples_18, e_X10_mostCouples_19, e_X10_mostCouples_21, e_X10_mostCouples_22, e_X10_mostCouples_26, e_X10_mostCouples_27, e_X10_mostCouples_30, e_X10_mostCouples_33, e_X10_mostCouples_34, e_X10_mostCouples_36, e_X10_mostCouples_37, e_X10_mostCouples_38, e_X10_mostCouples_39, e_X10_mostCouples_42, e_X10_mostCouples_43, e_X10_mostCouples_46, e_X10_mostCouples_49, e_X10_mostCouples_50, e_X10_mostCouples_52, e_X10_mostCouples_53, e_X10_mostCouples_56, e_X10_mostCouples_58, e_X10_mostCouples_59, e_X10_mostCouples_61, e_X10_mostCouples_64, e_X10_mostCouples_66, e_X10_mostCouples_67, e_X10_mostCouples_68, e_X10_mostCouples_70, e_X10_mostCouples_71, e_X10_mostCouples_74, e_X10_mostCouples_76, e_X10_mostCouples_77, e_X10_mostCouples_78, e_X10_mostCouples_80, e_X10_mostCouples_83, e_X10_mostCouples_86, e_X10_mostCouples_87, e_X10_mostCouples_90, e_X10_mostCouples_91, e_X10_mostCouples_92, e_X10_mostCouples_93, e_X10_mostCouples_94, e_X10_mostCouples_98, e_X10_mostCouples_100, e_X10_mostCouples_103, e_X10_mostCouples_105, e_X10_mostCouples_107, e_X10_mostCouples_108, e_X10_mostCouples_109, e_X10_mostCouples_110, e_X10_mostCouples_113, e_X10_mostCouples_114, e_X10_mostCouples_117, e_X10_mostCouples_119, e_X10_mostCouples_120, e_X10_mostCouples_122, e_X10_mostCouples_125, e_X10_mostCouples_126, e_X10_mostCouples_129, e_X10_mostCouples_132, e_X10_mostCouples_133, e_X10_mostCouples_136, e_X10_mostCouples_138, e_X10_mostCouples_139, c_T0 hb, hliv I hN, hbea, Option.bind_some, Option.isSome_some, Option.toList, List.cons_append, List.nil_append, zclr_i, zclr_r, zclr_n, zfit_i, zfit_l, and_self, if_true, if_false]
    unfold wSet
    by_cases h1 : s = -1
    · simp only [h1, if_true, ne_eq, not_true, if_false]
      rfl
    · simp only [h1, if_true, ne_eq, not_false_eq_true, if_false]
      rfl
  refine hstart.trans ?_
  have h := zloopI (fun p (x : Int32 × (Nat → Nat → Int32) × Option Value) => zexec (d + 5) 151 24 [some (.ref 66), some (.ref b), some (.int s), some (.int (wSet I b N s)), some (.int x.1), some (.int (nI p)), x.2.2] [] (mk n m g x.2.1 J)) (wAll1 b N (wSet I b N s)) (fun _ x => isSet x.1 ∧ x.2.1 b 4 = nI N) N ?_ N 0 (0, I, none) (by omega) ⟨⟨0, by decide, rfl⟩, hN⟩
  · refine h.1.trans ?_
    have h2 : isSet (wAll I b N s).1 ∧ (wAll I b N s).2.1 b 4 = nI N := h.2
    show zexec (d + 5) 151 24 [some (.ref 66), some (.ref b), some (.int s), some (.int (wSet I b N s)), some (.int (wAll I b N s).1), some (.int (nI N)), (wAll I b N s).2.2] [] (mk n m g (wAll I b N s).2.1 J) = _
    unfold wTable
    generalize wAll I b N s = z at h2 ⊢
    obtain ⟨⟨A, hA, hz⟩, h3⟩ := h2
    rw [e_X10_mostCouples_24]
    simp only [e_X10_mostCouples_0, e_X10_mostCouples_1, e_X10_mostCouples_2, e_X10_mostCouples_5, e_X10_mostCouples_6, e_X10_mostCouples_9, e_X10_mostCouples_12, e_X10_mostCouples_13, e_X10_mostCouples_14, e_X10_mostCouples_17, e_X10_mostCouples_18, e_X10_mostCouples_19, e_X10_mostCouples_21, e_X10_mostCouples_22, e_X10_mostCouples_26, e_X10_mostCouples_27, e_X10_mostCouples_30, e_X10_mostCouples_33, e_X10_mostCouples_34, e_X10_mostCouples_36, e_X10_mostCouples_37, e_X10_mostCouples_38, e_X10_mostCouples_39, e_X10_mostCouples_42, e_X10_mostCouples_43, e_X10_mostCouples_46, e_X10_mostCouples_49, e_X10_mostCouples_50, e_X10_mostCouples_52, e_X10_mostCouples_53, e_X10_mostCouples_56, e_X10_mostCouples_58, e_X10_mostCouples_59, e_X10_mostCouples_61, e_X10_mostCouples_64, e_X10_mostCouples_66, e_X10_mostCouples_67, e_X10_mostCouples_68, e_X10_mostCouples_70, e_X10_mostCouples_71, e_X10_mostCouples_74, e_X10_mostCouples_76, e_X10_mostCouples_77, e_X10_mostCouples_78, e_X10_mostCouples_80, e_X10_mostCouples_83, e_X10_mostCouples_86, e_X10_mostCouples_87, e_X10_mostCouples_90, e_X10_mostCouples_91, e_X10_mostCouples_92, e_X10_mostCouples_93, e_X10_mostCouples_94, e_X10_mostCouples_98, e_X10_mostCouples_100, e_X10_mostCouples_103, e_X10_mostCouples_105, e_X10_mostCouples_107, e_X10_mostCouples_108, e_X10_mostCouples_109, e_X10_mostCouples_110, e_X10_mostCouples_113, e_X10_mostCouples_114, e_X10_mostCouples_117, e_X10_mostCouples_119, e_X10_mostCouples_120, e_X10_mostCouples_122, e_X10_mostCouples_125, e_X10_mostCouples_126, e_X10_mostCouples_129, e_X10_mostCouples_132, e_X10_mostCouples_133, e_X10_mostCouples_136, e_X10_mostCouples_138, e_X10_mostCouples_139, g_66_1, g_T0_4 hb, h3, if_pos (nI_le (Nat.le_refl N) (by omega : N < 2 ^ 31)), k_68 (show 0 < 4096 by decide), q_68, if_neg (show ¬ (0 : Int32) < 0 by decide), show (0 : Int32).toNatClampNeg = 0 from rfl, show (0 : Int32).toInt8.toInt32 = 0 from rfl, Option.bind_some, Option.isSome_some, Option.toList, List.cons_append, List.nil_append, zclr_i, zclr_r, zclr_n, zfit_i, zfit_l, and_self, if_true, if_false]
    rw [hz, nI_clamp (show A < 2 ^ 31 by omega)]
    refine (zloop (fun k (a : Nat → Nat → Int32) => zexec (d + 5) 151 96 [some (.ref 66), some (.ref b), some (.int s), some (.int (wSet I b N s)), some (.int (nI A)), some (.int (nI k)), z.2.2] [] (mk n m g a J)) (wFill (nI A)) (A + 1) ?_ A 1 (zu z.2.1 68 0 0) (by omega)).trans ?_
    · intro k a hk
      obtain ⟨p, hp, hl⟩ := tLeast_case (nI k)
      have h6 : ¬ nI A < nI k := Int32.not_lt.mpr (nI_le (show k ≤ A by omega) (by omega))
      rw [e_X10_mostCouples_96]
      simp only [e_X10_mostCouples_0, e_X10_mostCouples_1, e_X10_mostCouples_2, e_X10_mostCouples_5, e_X10_mostCouples_6, e_X10_mostCouples_9, e_X10_mostCouples_12, e_X10_mostCouples_13, e_X10_mostCouples_14, e_X10_mostCouples_17, e_X10_mostCouples_18, e_X10_mostCouples_19, e_X10_mostCouples_21, e_X10_mostCouples_22, e_X10_mostCouples_26, e_X10_mostCouples_27, e_X10_mostCouples_30, e_X10_mostCouples_33, e_X10_mostCouples_34, e_X10_mostCouples_36, e_X10_mostCouples_37, e_X10_mostCouples_38, e_X10_mostCouples_39, e_X10_mostCouples_42, e_X10_mostCouples_43, e_X10_mostCouples_46, e_X10_mostCouples_49, e_X10_mostCouples_50, e_X10_mostCouples_52, e_X10_mostCouples_53, e_X10_mostCouples_56, e_X10_mostCouples_58, e_X10_mostCouples_59, e_X10_mostCouples_61, e_X10_mostCouples_64, e_X10_mostCouples_66, e_X10_mostCouples_67, e_X10_mostCouples_68, e_X10_mostCouples_70, e_X10_mostCouples_71, e_X10_mostCouples_74, e_X10_mostCouples_76, e_X10_mostCouples_77, e_X10_mostCouples_78, e_X10_mostCouples_80, e_X10_mostCouples_83, e_X10_mostCouples_86, e_X10_mostCouples_87, e_X10_mostCouples_90, e_X10_mostCouples_91, e_X10_mostCouples_92, e_X10_mostCouples_93, e_X10_mostCouples_94, e_X10_mostCouples_98, e_X10_mostCouples_100, e_X10_mostCouples_103, e_X10_mostCouples_105, e_X10_mostCouples_107, e_X10_mostCouples_108, e_X10_mostCouples_109, e_X10_mostCouples_110, e_X10_mostCouples_113, e_X10_mostCouples_114, e_X10_mostCouples_117, e_X10_mostCouples_119, e_X10_mostCouples_120, e_X10_mostCouples_122, e_X10_mostCouples_125, e_X10_mostCouples_126, e_X10_mostCouples_129, e_X10_mostCouples_132, e_X10_mostCouples_133, e_X10_mostCouples_136, e_X10_mostCouples_138, e_X10_mostCouples_139, c_66, g_66_1, if_neg h6, w_mostWithin (show k < 4096 by omega) hp hl, nI_neg (show k < 2 ^ 31 by omega), nI_clamp (show k < 2 ^ 31 by omega), k_68 (show k < 4096 by omega), q_68, nI_1, Option.bind_some, Option.isSome_some, Option.toList, List.cons_append, List.nil_append, zclr_i, zclr_r, zclr_n, zfit_i, zfit_l, and_self, if_true, if_false]
      unfold wFill
      rw [hl, nI_clamp (show p < 2 ^ 31 by omega)]
      by_cases h7 : nI k &&& (nI A ^^^ -1) = 0
      · have h8 : (wMost a (nI k) p).toInt8.toInt32 = wMost a (nI k) p := by simp [wMost]
        simp only [h7, h8, ne_eq, not_true, if_true, if_false]
      · simp only [h7, ne_eq, not_false_eq_true, if_true, if_false]
    · have h6 : nI A < nI (A + 1) := Int32.not_le.mp (nI_ge (show A < A + 1 by omega) (by omega))
      rw [e_X10_mostCouples_96]
      simp only [e_X10_mostCouples_0, e_X10_mostCouples_1, e_X10_mostCouples_2, e_X10_mostCouples_5, e_X10_mostCouples_6, e_X10_mostCouples_9, e_X10_mostCouples_12, e_X10_mostCouples_13, e_X10_mostCouples_14, e_X10_mostCouples_17, e_X10_mostCouples_18, e_X10_mostCouples_19, e_X10_mostCouples_21, e_X10_mostCouples_22, e_X10_mostCouples_26, e_X10_mostCouples_27, e_X10_mostCouples_30, e_X10_mostCouples_33, e_X10_mostCouples_34, e_X10_mostCouples_36, e_X10_mostCouples_37, e_X10_mostCouples_38, e_X10_mostCouples_39, e_X10_mostCouples_42, e_X10_mostCouples_43, e_X10_mostCouples_46, e_X10_mostCouples_49, e_X10_mostCouples_50, e_X10_mostCouples_52, e_X10_mostCouples_53, e_X10_mostCouples_56, e_X10_mostCouples_58, e_X10_mostCouples_59, e_X10_mostCouples_61, e_X10_mostCouples_64, e_X10_mostCouples_66, e_X10_mostCouples_67, e_X10_mostCouples_68, e_X10_mostCouples_70, e_X10_mostCouples_71, e_X10_mostCouples_74, e_X10_mostCouples_76, e_X10_mostCouples_77, e_X10_mostCouples_78, e_X10_mostCouples_80, e_X10_mostCouples_83, e_X10_mostCouples_86, e_X10_mostCouples_87, e_X10_mostCouples_90, e_X10_mostCouples_91, e_X10_mostCouples_92, e_X10_mostCouples_93, e_X10_mostCouples_94, e_X10_mostCouples_98, e_X10_mostCouples_100, e_X10_mostCouples_103, e_X10_mostCouples_105, e_X10_mostCouples_107, e_X10_mostCouples_108, e_X10_mostCouples_109, e_X10_mostCouples_110, e_X10_mostCouples_113, e_X10_mostCouples_114, e_X10_mostCouples_117, e_X10_mostCouples_119, e_X10_mostCouples_120, e_X10_mostCouples_122, e_X10_mostCouples_125, e_X10_mostCouples_126, e_X10_mostCouples_129, e_X10_mostCouples_132, e_X10_mostCouples_133, e_X10_mostCouples_136, e_X10_mostCouples_138, e_X10_mostCouples_139, g_66_1, if_pos h6, l_68 (show A < 4096 by omega), Option.bind_some, Option.isSome_some, Option.toList, List.cons_append, List.nil_append, zclr_i, zclr_r, zclr_n, zfit_i, zfit_l, and_self, if_true, if_false]
  · intro p x hp hx
    refine ⟨?_, isSet_or hx.1 (isSet_and (isSet_sSet _ h12) _), ?_⟩
    · rw [e_X10_mostCouples_24]
      simp only [e_X10_mostCouples_0, e_X10_mostCouples_1, e_X10_mostCouples_2, e_X10_mostCouples_5, e_X10_mostCouples_6, e_X10_mostCouples_9, e_X10_mostCouples_12, e_X10_mostCouples_13, e_X10_mostCouples_14, e_X10_mostCouples_17, e_X10_mostCouples_18, e_X10_mostCouples_19, e_X10_mostCouples_21, e_X10_mostCouples_22, e_X10_mostCouples_26, e_X10_mostCouples_27, e_X10_mostCouples_30, e_X10_mostCouples_33, e_X10_mostCouples_34, e_X10_mostCouples_36, e_X10_mostCouples_37, e_X10_mostCouples_38, e_X10_mostCouples_39, e_X10_mostCouples_42, e_X10_mostCouples_43, e_X10_mostCouples_46, e_X10_mostCouples_49, e_X10_mostCouples_50, e_X10_mostCouples_52, e_X10_mostCouples_53, e_X10_mostCouples_56, e_X10_mostCouples_58, e_X10_mostCouples_59, e_X10_mostCouples_61, e_X10_mostCouples_64, e_X10_mostCouples_66, e_X10_mostCouples_67, e_X10_mostCouples_68, e_X10_mostCouples_70, e_X10_mostCouples_71, e_X10_mostCouples_74, e_X10_mostCouples_76, e_X10_mostCouples_77, e_X10_mostCouples_78, e_X10_mostCouples_80, e_X10_mostCouples_83, e_X10_mostCouples_86, e_X10_mostCouples_87, e_X10_mostCouples_90, e_X10_mostCouples_91, e_X10_mostCouples_92, e_X10_mostCouples_93, e_X10_mostCouples_94, e_X10_mostCouples_98, e_X10_mostCouples_100, e_X10_mostCouples_103, e_X10_mostCouples_105, e_X10_mostCouples_107, e_X10_mostCouples_108, e_X10_mostCouples_109, e_X10_mostCouples_110, e_X10_mostCouples_113, e_X10_mostCouples_114, e_X10_mostCouples_117, e_X10_mostCouples_119, e_X10_mostCouples_120, e_X10_mostCouples_122, e_X10_mostCouples_125, e_X10_mostCouples_126, e_X10_mostCouples_129, e_X10_mostCouples_132, e_X10_mostCouples_133, e_X10_mostCouples_136, e_X10_mostCouples_138, e_X10_mostCouples_139, c_T0 hb, g_66_0, g_T0_4 hb, hx.2, if_neg (nI_ge hp (by omega : N < 2 ^ 31)), hliv x.2.1 hx.2, w_suitableFor hb hx.2 h12 (show p < 12 by omega), nI_neg (show p < 2 ^ 31 by omega), nI_clamp (show p < 2 ^ 31 by omega), k_67 (show p < 12 by omega), l_67 (show p < 12 by omega), q_67, zu_row, nI_1, Option.bind_some, Option.isSome_some, Option.toList, List.cons_append, List.nil_append, zclr_i, zclr_r, zclr_n, zfit_i, zfit_l, and_self, if_true, if_false]
      unfold wAll1 wMates wOthers
      by_cases h7 : wSet I b N s >>> (nI p &&& 31) &&& 1 = 0 <;> simp [h7]
    · show zu x.2.1 67 p _ b 4 = nI N
      rw [zu_far _ _ _ (show b ≠ 67 from (wed_town (i := 0) hb (by decide)).1)]
      exact hx.2
end W2
