/-! CALLS: kin, elders -/
section QS
variable {n m : Nat} {g : Nat → zC} {I A : Nat → Nat → Int32} {J : Nat → Nat → Int64} {N S U b : Nat}
theorem zclr_map (x : Option Int32) : zclr (x.map Value.int) = x.map Value.int := by cases x <;> rfl
theorem lk_inner {p q i k : Nat} {f F : Nat → Bool} {s mo : Int32} (hW : WT A b N S U) (hR : RT A b (I 148) N S) (hs : isS s f) (hi : i < N) (hm : isS mo F) (hF : ∀ r, 12 ≤ r → F r = false) (d : Nat) : ∃ mo', isS mo' (fun r => F r || (decide (r < N) && (f i && adj A b i r))) ∧ zexec (d + 1) 381 77 [some (.ref 143), some (.int (nI p)), some (.int (nI q)), some (.int s), some (.int (nI k)), some (.int mo), some (.int (nI i)), some (.int (nI 0))] [] (mk n m g I J) = zexec (d + 1) 381 77 [some (.ref 143), some (.int (nI p)), some (.int (nI q)), some (.int s), some (.int (nI k)), some (.int mo'), some (.int (nI i)), some (.int (nI N))] [] (mk n m g I J) := by
  have h12 := hW.h12
  have hl := zloopR (fun j (mo : Int32) => zexec (d + 1) 381 77 [some (.ref 143), some (.int (nI p)), some (.int (nI q)), some (.int s), some (.int (nI k)), some (.int mo), some (.int (nI i)), some (.int (nI j))] [] (mk n m g I J)) (fun j (_ : Unit) mo => isS mo (fun r => F r || (decide (r < j) && (f i && adj A b i r)))) (fun _ u => u) N ?_ N 0 () mo (by omega) (isS_congr hm (fun r _ => by simp) (fun r hr => by simp [hF r hr]))
  · obtain ⟨mo', e1, e2⟩ := hl
    exact ⟨mo', e2, e1⟩
  · rintro j _ mo hj hmo
    refine ⟨if (f i && adj A b i j) = true then mo ||| bt j else mo, ?_, ?_⟩
    · rw [e_X12_kin_77]
      simp only [e_X12_kin_79, e_X12_kin_80, e_X12_kin_83, e_X12_kin_84, e_X12_kin_85, e_X12_kin_88, e_X12_kin_89, e_X12_kin_91, e_X12_kin_94, e_X12_kin_97, e_X12_kin_98, e_X12_kin_100, e_X12_kin_102, e_X12_kin_105, e_X12_kin_108, e_X12_kin_109, e_X12_kin_111, e_X12_kin_113, e_X12_kin_116, e_X12_kin_119, e_X12_kin_121, e_X12_kin_122, e_X12_kin_124, e_X12_kin_125, e_X12_kin_126, e_X12_kin_128, e_X12_kin_131, cA_6, cA_12, cA_18, cA_30, cA_42, cA_54, cA_66, cA_78, cA_90, cA_102, cA_114, cA_126, cA_138, cA_210, cA_222, lc_0, lc_1, lc_2, lc_3, lc_4, lc_5, g_143_20, q_148, c_143, hW.c1 hR, if_neg (nI_ge hj (by omega : N < 2 ^ 31)), v_hasS hs (show i < 12 by omega), v_isChildOf hW hR hi, v_isChildOf hW hR hj, nI_1, Option.bind_some, Option.isSome_some, Option.toList, List.cons_append, List.nil_append, zclr_i, zclr_r, zclr_n, zfit_i, zfit_l, and_self, if_true, if_false]
      unfold adj
      cases f i <;> cases kChild A b (nI j) i <;> cases kChild A b (nI i) j <;> simp [bI, bt]
    · cases hc : (f i && adj A b i j)
      · simp only [Bool.false_eq_true, if_false]
        refine isS_congr hmo (fun r _ => ?_) (fun r hr => ?_)
        · by_cases h1 : r = j
          · subst h1
            simp [hc]
          · have h2 : decide (r < j + 1) = decide (r < j) := by
              congr 1
              apply propext
              omega
            rw [h2]
        · have h1 : ¬ r < j + 1 := by omega
          simp [hF r hr, h1]
      · simp only [if_true]
        refine isS_congr (isS_or hmo (isS_bt (show j < 12 by omega))) (fun r _ => ?_) (fun r hr => ?_)
        · by_cases h1 : r = j
          · subst h1
            rw [hc]
            simp
          · have h2 : decide (r < j + 1) = decide (r < j) := by
              congr 1
              apply propext
              omega
            have h3 : ¬ j = r := fun e => h1 e.symm
            simp [h2, h3]
        · have h1 : ¬ r < j + 1 := by omega
          simp [hF r hr, h1]
theorem lk_round {p q k : Nat} {f : Nat → Bool} {s : Int32} {y z : Option Int32} (hW : WT A b N S U) (hR : RT A b (I 148) N S) (hs : isS s f) (d : Nat) : ∃ s', isS s' (kG A b N f) ∧ ∃ y' z' : Option Int32, zexec (d + 1) 381 57 [some (.ref 143), some (.int (nI p)), some (.int (nI q)), some (.int s), some (.int (nI k)), none, y.map Value.int, z.map Value.int] [] (mk n m g I J) = zexec (d + 1) 381 39 [some (.ref 143), some (.int (nI p)), some (.int (nI q)), some (.int s'), some (.int (nI (k + 1))), some (.int s'), y'.map Value.int, z'.map Value.int] [] (mk n m g I J) ∧ ∀ x : Int32, zexec (d + 1) 381 57 [some (.ref 143), some (.int (nI p)), some (.int (nI q)), some (.int s), some (.int (nI k)), some (.int x), y.map Value.int, z.map Value.int] [] (mk n m g I J) = zexec (d + 1) 381 39 [some (.ref 143), some (.int (nI p)), some (.int (nI q)), some (.int s'), some (.int (nI (k + 1))), some (.int s'), y'.map Value.int, z'.map Value.int] [] (mk n m g I J) := by
  have h12 := hW.h12
  have hl := zloopR (fun i (a : Int32 × Option Int32) => zexec (d + 1) 381 63 [some (.ref 143), some (.int (nI p)), some (.int (nI q)), some (.int s), some (.int (nI k)), some (.int a.1), some (.int (nI i)), a.2.map Value.int] [] (mk n m g I J)) (fun i (_ : Unit) a => isS a.1 (fun r => f r || (decide (r < N) && (List.range i).any (fun p => f p && adj A b p r)))) (fun _ u => u) N ?_ N 0 () (s, z) (by omega) (isS_congr hs (fun r _ => by simp) (fun r hr => by simp [isS_12 hs hr]))
  · obtain ⟨⟨s', z'⟩, e1, e2⟩ := hl
    dsimp only at e1 e2
    have hend : zexec (d + 1) 381 63 [some (.ref 143), some (.int (nI p)), some (.int (nI q)), some (.int s), some (.int (nI k)), some (.int s'), some (.int (nI N)), z'.map Value.int] [] (mk n m g I J) = zexec (d + 1) 381 39 [some (.ref 143), some (.int (nI p)), some (.int (nI q)), some (.int s'), some (.int (nI (k + 1))), some (.int s'), some (.int (nI N)), z'.map Value.int] [] (mk n m g I J) := by
      rw [e_X12_kin_63]
      simp only [e_X12_kin_65, e_X12_kin_66, e_X12_kin_69, e_X12_kin_70, e_X12_kin_71, e_X12_kin_74, e_X12_kin_75, e_X12_kin_140, e_X12_kin_142, e_X12_kin_143, e_X12_kin_146, cA_6, cA_12, cA_18, cA_30, cA_42, cA_54, cA_66, cA_78, cA_90, cA_102, cA_114, cA_126, cA_138, cA_210, cA_222, lc_0, lc_1, lc_2, lc_3, lc_4, lc_5, g_143_20, q_148, hW.c1 hR, if_pos (nI_le (Nat.le_refl N) (by omega : N < 2 ^ 31)), nI_1, zclr_map, Option.bind_some, Option.isSome_some, Option.toList, List.cons_append, List.nil_append, zclr_i, zclr_r, zclr_n, zfit_i, zfit_l, and_self, if_true, if_false]
    refine ⟨s', e2, some (nI N), z', ?_, fun x => ?_⟩
    · refine Eq.trans ?_ (e1.trans hend)
      simp only [e_X12_kin_57, e_X12_kin_58, e_X12_kin_60, e_X12_kin_61, zclr_map, Option.bind_some, Option.isSome_some, Option.toList, List.cons_append, List.nil_append, zclr_i, zclr_r, zclr_n, zfit_i, zfit_l, and_self, if_true, if_false]
      rfl
    · refine Eq.trans ?_ (e1.trans hend)
      simp only [e_X12_kin_57, e_X12_kin_58, e_X12_kin_60, e_X12_kin_61, zclr_map, Option.bind_some, Option.isSome_some, Option.toList, List.cons_append, List.nil_append, zclr_i, zclr_r, zclr_n, zfit_i, zfit_l, and_self, if_true, if_false]
      rfl
  · rintro i _ ⟨mo, z⟩ hi hmo
    dsimp only at hmo ⊢
    obtain ⟨mo', e2, e1⟩ := lk_inner (n := n) (m := m) (g := g) (J := J) (p := p) (q := q) (k := k) hW hR hs hi hmo (fun r hr => by
      have h1 : ¬ r < N := by omega
      simp [isS_12 hs hr, h1]) d
    refine ⟨(mo', some (nI N)), ?_, isS_congr e2 (fun r _ => ?_) (fun r hr => ?_)⟩
    · rw [e_X12_kin_63]
      simp only [e_X12_kin_65, e_X12_kin_66, e_X12_kin_69, e_X12_kin_70, e_X12_kin_71, e_X12_kin_74, e_X12_kin_75, cA_6, cA_12, cA_18, cA_30, cA_42, cA_54, cA_66, cA_78, cA_90, cA_102, cA_114, cA_126, cA_138, cA_210, cA_222, lc_0, lc_1, lc_2, lc_3, lc_4, lc_5, g_143_20, q_148, hW.c1 hR, if_neg (nI_ge hi (by omega : N < 2 ^ 31)), zclr_map, Option.bind_some, Option.isSome_some, Option.toList, List.cons_append, List.nil_append, zclr_i, zclr_r, zclr_n, zfit_i, zfit_l, and_self, if_true, if_false]
      refine e1.trans ?_
      rw [e_X12_kin_77]
      simp only [e_X12_kin_79, e_X12_kin_80, e_X12_kin_83, e_X12_kin_84, e_X12_kin_85, e_X12_kin_134, e_X12_kin_137, cA_6, cA_12, cA_18, cA_30, cA_42, cA_54, cA_66, cA_78, cA_90, cA_102, cA_114, cA_126, cA_138, cA_210, cA_222, lc_0, lc_1, lc_2, lc_3, lc_4, lc_5, g_143_20, q_148, hW.c1 hR, if_pos (nI_le (Nat.le_refl N) (by omega : N < 2 ^ 31)), nI_1, Option.bind_some, Option.isSome_some, Option.toList, List.cons_append, List.nil_append, zclr_i, zclr_r, zclr_n, zfit_i, zfit_l, and_self, if_true, if_false]
      rfl
    · rw [List.range_succ, List.any_append]
      by_cases h1 : r < N
      · cases f r <;> simp [h1]
      · simp [h1]
    · have h1 : ¬ r < N := by omega
      simp [isS_12 hs hr, h1]
theorem lk_run {p q : Nat} (hW : WT A b N S U) (hR : RT A b (I 148) N S) (hp : p < N) (hq : q < N) (d : Nat) : ∀ f k (s : Int32) (x y z : Option Int32), k + f = 12 → isS s (iter (kG A b N) (fun r => decide (p = r)) k) → zexec (d + 1) 381 39 [some (.ref 143), some (.int (nI p)), some (.int (nI q)), some (.int s), some (.int (nI k)), x.map Value.int, y.map Value.int, z.map Value.int] [] (mk n m g I J) = match zfind (fun k => iter (kG A b N) (fun r => decide (p = r)) k q) some none k f with | some j => some (some (.int (nI j)), mk n m g I J) | none => some (some (.int (-1)), mk n m g (zu I 143 0 8) J) := by
  have h12 := hW.h12
  intro f
  induction f with
  | zero =>
    intro k s x y z hk hs
    have : k = 12 := by omega
    subst this
    rw [e_X12_kin_39]
    simp only [e_X12_kin_41, e_X12_kin_43, e_X12_kin_149, e_X12_kin_150, e_X12_kin_152, e_X12_kin_155, c_143, if_pos (show (12 : Int32) ≤ nI 12 by decide), v_refuse, Option.bind_some, Option.isSome_some, Option.toList, List.cons_append, List.nil_append, zclr_i, zclr_r, zclr_n, zfit_i, zfit_l, and_self, if_true, if_false]
    rfl
  | succ f ih =>
    intro k s x y z hk hs
    obtain ⟨s', hs', y', z', e1, e2⟩ := lk_round (n := n) (m := m) (g := g) (J := J) (p := p) (q := q) (k := k) (y := y) (z := z) hW hR hs d
    rw [zfind, e_X12_kin_39]
    simp only [e_X12_kin_41, e_X12_kin_43, e_X12_kin_46, e_X12_kin_47, e_X12_kin_48, e_X12_kin_51, e_X12_kin_54, e_X12_kin_56, if_neg (show ¬ (12 : Int32) ≤ nI k from nI_ge (b := 12) (by omega) (by decide)), v_hasS hs (show q < 12 by omega), Option.bind_some, Option.isSome_some, Option.toList, List.cons_append, List.nil_append, zclr_i, zclr_r, zclr_n, zfit_i, zfit_l, and_self, if_true, if_false]
    cases hf : iter (kG A b N) (fun r => decide (p = r)) k q
    · simp only [bI, Bool.false_eq_true, if_false, if_true]
      refine Eq.trans ?_ (ih (k + 1) s' (some s') y' z' (by omega) hs')
      cases x with
      | none => exact e1
      | some x => exact e2 x
    · simp [bI]
end QS
