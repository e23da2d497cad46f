/-! THE REFERENCE: its queue is gone through -/
section DR
variable {n m : Nat} {g : Nat → zC} {I A : Nat → Nat → Int32} {J : Nat → Nat → Int64} {b N S U : Nat}
theorem nI_sub1 {k : Nat} (h : 1 ≤ k) : nI k - 1 = nI (k - 1) := by
  obtain ⟨j, rfl⟩ : ∃ j, k = j + 1 := ⟨k - 1, by omega⟩
  rw [← nI_1]
  simp
theorem nI_subm {k : Nat} (h : 1 ≤ k) : nI k + -1 = nI (k - 1) := by
  rw [← nI_sub1 h, Int32.sub_eq_add_neg]
theorem zu_zr {α : Type} (I : Nat → Nat → α) (a k : Nat) (c : Nat → α) (x : α) : zu (zr I a c) a k x = zr I a (fu c k x) := by
  rw [zu_fu, zr_same, zr_zr]
theorem zu_148 (I : Nat → Nat → Int32) (k : Nat) (x : Int32) : zu I 148 k x = zr I 148 (fu (I 148) k x) := zu_fu _ _ _ _
theorem v_drops {k Q : Nat} (hQ : I 148 5 = nI Q) (h12 : Q ≤ 12) (hk : k < Q) (d : Nat) : zcall d 328 [.ref 143, .int (nI k)] (mk n m g I J) = some (none, mk n m g (zr I 148 (cDrop (I 148) k Q)) J) := by
  rw [m_X12_drops]
  have h0 : zu I 148 5 (nI (Q - 1)) = zr I 148 (fu (I 148) 5 (nI (Q - 1))) := zu_fu _ _ _ _
  simp only [e_X12_drops_0, e_X12_drops_1, e_X12_drops_4, e_X12_drops_5, e_X12_drops_6, e_X12_drops_7, e_X12_drops_8, e_X12_drops_9, e_X12_drops_10, e_X12_drops_11, e_X12_drops_13, e_X12_drops_14, e_X12_drops_17, e_X12_drops_18, e_X12_drops_19, e_X12_drops_22, e_X12_drops_23, e_X12_drops_26, e_X12_drops_29, e_X12_drops_30, e_X12_drops_31, e_X12_drops_32, e_X12_drops_35, e_X12_drops_38, e_X12_drops_39, e_X12_drops_40, e_X12_drops_41, e_X12_drops_42, e_X12_drops_43, e_X12_drops_44, e_X12_drops_45, e_X12_drops_48, e_X12_drops_51, e_X12_drops_52, e_X12_drops_53, e_X12_drops_54, e_X12_drops_57, e_X12_drops_60, e_X12_drops_61, e_X12_drops_62, e_X12_drops_63, e_X12_drops_64, e_X12_drops_65, e_X12_drops_66, e_X12_drops_69, e_X12_drops_72, cA_6, cA_12, cA_18, cA_30, cA_42, cA_54, cA_66, cA_78, cA_90, cA_102, cA_114, cA_126, cA_138, cA_210, cA_222, lc_0, lc_1, lc_2, lc_3, lc_4, lc_5, g_143_20, q_148, hQ, nI_sub1 (show 1 ≤ Q by omega), ltc_5, clc_5, k_148 (show 5 < 2530 by decide), h0, Option.bind_some, Option.isSome_some, Option.toList, List.cons_append, List.nil_append, zclr_i, zclr_r, zclr_n, zfit_i, zfit_l, and_self, if_true, if_false]
  have h := zloopI (fun i (c : Nat → Int32) => zexec d 328 12 [some (.ref 143), some (.int (nI k)), some (.int (nI i))] [] (mk n m g (zr I 148 c) J)) (fun i c => fu (fu c (210 + i) (c (210 + i + 1))) (222 + i) (fu c (210 + i) (c (210 + i + 1)) (222 + i + 1))) (fun _ c => c 5 = nI (Q - 1)) (Q - 1) ?_ (Q - 1 - k) k (fu (I 148) 5 (nI (Q - 1))) (by omega) (fu_eq _ _ _)
  · refine h.1.trans ?_
    rw [e_X12_drops_12]
    simp only [e_X12_drops_0, e_X12_drops_1, e_X12_drops_4, e_X12_drops_5, e_X12_drops_6, e_X12_drops_7, e_X12_drops_8, e_X12_drops_9, e_X12_drops_10, e_X12_drops_11, e_X12_drops_13, e_X12_drops_14, e_X12_drops_17, e_X12_drops_18, e_X12_drops_19, e_X12_drops_22, e_X12_drops_23, e_X12_drops_26, e_X12_drops_29, e_X12_drops_30, e_X12_drops_31, e_X12_drops_32, e_X12_drops_35, e_X12_drops_38, e_X12_drops_39, e_X12_drops_40, e_X12_drops_41, e_X12_drops_42, e_X12_drops_43, e_X12_drops_44, e_X12_drops_45, e_X12_drops_48, e_X12_drops_51, e_X12_drops_52, e_X12_drops_53, e_X12_drops_54, e_X12_drops_57, e_X12_drops_60, e_X12_drops_61, e_X12_drops_62, e_X12_drops_63, e_X12_drops_64, e_X12_drops_65, e_X12_drops_66, e_X12_drops_69, e_X12_drops_72, cA_6, cA_12, cA_18, cA_30, cA_42, cA_54, cA_66, cA_78, cA_90, cA_102, cA_114, cA_126, cA_138, cA_210, cA_222, lc_0, lc_1, lc_2, lc_3, lc_4, lc_5, g_143_20, q_148, zr_same, h.2, if_pos (nI_le (Nat.le_refl (Q - 1)) (by omega : Q - 1 < 2 ^ 31)), Option.bind_some, Option.isSome_some, Option.toList, List.cons_append, List.nil_append, zclr_i, zclr_r, zclr_n, zfit_i, zfit_l, and_self, if_true, if_false]
    rfl
  · intro i c hi hc
    refine ⟨?_, ?_⟩
    · rw [e_X12_drops_12]
      simp only [e_X12_drops_0, e_X12_drops_1, e_X12_drops_4, e_X12_drops_5, e_X12_drops_6, e_X12_drops_7, e_X12_drops_8, e_X12_drops_9, e_X12_drops_10, e_X12_drops_11, e_X12_drops_13, e_X12_drops_14, e_X12_drops_17, e_X12_drops_18, e_X12_drops_19, e_X12_drops_22, e_X12_drops_23, e_X12_drops_26, e_X12_drops_29, e_X12_drops_30, e_X12_drops_31, e_X12_drops_32, e_X12_drops_35, e_X12_drops_38, e_X12_drops_39, e_X12_drops_40, e_X12_drops_41, e_X12_drops_42, e_X12_drops_43, e_X12_drops_44, e_X12_drops_45, e_X12_drops_48, e_X12_drops_51, e_X12_drops_52, e_X12_drops_53, e_X12_drops_54, e_X12_drops_57, e_X12_drops_60, e_X12_drops_61, e_X12_drops_62, e_X12_drops_63, e_X12_drops_64, e_X12_drops_65, e_X12_drops_66, e_X12_drops_69, e_X12_drops_72, cA_6, cA_12, cA_18, cA_30, cA_42, cA_54, cA_66, cA_78, cA_90, cA_102, cA_114, cA_126, cA_138, cA_210, cA_222, lc_0, lc_1, lc_2, lc_3, lc_4, lc_5, g_143_20, q_148, nI_neg (show 210 + i < 2 ^ 31 by omega), nI_clamp (show 210 + i < 2 ^ 31 by omega), k_148 (show 210 + i < 2530 by omega), l_148 (show 210 + i < 2530 by omega), nI_neg (show 210 + i + 1 < 2 ^ 31 by omega), nI_clamp (show 210 + i + 1 < 2 ^ 31 by omega), k_148 (show 210 + i + 1 < 2530 by omega), l_148 (show 210 + i + 1 < 2530 by omega), nI_neg (show 222 + i < 2 ^ 31 by omega), nI_clamp (show 222 + i < 2 ^ 31 by omega), k_148 (show 222 + i < 2530 by omega), l_148 (show 222 + i < 2530 by omega), nI_neg (show 222 + i + 1 < 2 ^ 31 by omega), nI_clamp (show 222 + i + 1 < 2 ^ 31 by omega), k_148 (show 222 + i + 1 < 2530 by omega), l_148 (show 222 + i + 1 < 2530 by omega), zr_same, hc, if_neg (nI_ge hi (by omega : Q - 1 < 2 ^ 31)), zu_zr, nI_1, Option.bind_some, Option.isSome_some, Option.toList, List.cons_append, List.nil_append, zclr_i, zclr_r, zclr_n, zfit_i, zfit_l, and_self, if_true, if_false]
    · rw [fu_ne _ _ (by omega), fu_ne _ _ (by omega)]
      exact hc
/-- is the one at place k done with, or served? -/
def sAct (A : Nat → Nat → Int32) (b N k : Nat) : Bool := decide (A (b + 7) (A (b + 15) k).toNatClampNeg = A (b + 16) k) || sMay A b N k
def bRunA (b N : Nat) : Nat → (Nat → Nat → Int32) → Nat → Nat → Int32
  | 0, A => A
  | r + 1, A => match zfind (sAct A b N) some none 0 (qN A b) with | none => A | some k => bRunA b N r (sServe A b k)
theorem WT.bear {p : Nat} {x : Int32} (hW : WT A b N S U) (hx : x = -1 ∨ ∃ s, s < S ∧ x = nI s) : WT (zu A (b + 7) p x) b N S U := by
  refine hW.row7 (fun j _ h => zu_far _ _ _ (by omega)) ?_
  intro q hq
  rw [zu_row]
  by_cases e : q = p
  · rw [if_pos e]
    exact hx
  · rw [if_neg e]
    exact hW.bears q hq
theorem serve_eq {k p s : Nat} (hp : A (b + 15) k = nI p) (hs : A (b + 16) k = nI s) (h : p < 12) : sServe A b k = qPress (fun I j => decide (I (b + 15) j ≠ nI p)) b (qN (zu A (b + 7) p (nI s)) b) (zu A (b + 7) p (nI s)) := by
  unfold sServe
  rw [hp, hs, nI_clamp (by omega), qN_zu (by omega)]
theorem WT.serve {k : Nat} (hW : WT A b N S U) (hk : k < qN A b) : WT (sServe A b k) b N S U := by
  obtain ⟨p, hp, ep⟩ := hW.who k hk
  obtain ⟨s, hs, es⟩ := hW.want k hk
  have := hW.h12
  rw [serve_eq ep es (by omega)]
  exact (hW.bear (Or.inr ⟨s, hs, rfl⟩)).press (c' := fun e => decide (e.1 ≠ nI p)) (fun _ _ _ => rfl)
theorem RT.serve {k p s : Nat} {c : Nat → Int32} (h : RT A b c N S) (hW : WT A b N S U) (hk : k < qN A b) (hp : p < N) (hs : s < S) (ep : A (b + 15) k = nI p) (es : A (b + 16) k = nI s) : RT (sServe A b k) b (cDrop (fu c (30 + p) (nI s)) k (qN A b)) N S := by
  have := hW.h12
  rw [serve_eq ep es (by omega)]
  have hq : qN (zu A (b + 7) p (nI s)) b = qN A b := qN_zu (by omega)
  have h1 := RT.drop (k := k) (p := p) (h.set7 (p := p) (x := nI s) hW.h12 hW.h6 (by omega)) (hW.bear (p := p) (x := nI s) (Or.inr ⟨s, hs, rfl⟩)) (by rw [hq]; exact hk) (by rw [zu_oo (i := 7) (j := 15) (by decide)]; exact ep)
  rw [hq] at h1 ⊢
  exact h1
theorem v_scan (hW : WT A b N S U) (hR : RT A b (I 148) N S) (d : Nat) : ∀ f k (x y : Option Value), k + f = qN A b → ∃ x' y', zexec (d + 3) 329 2 [some (.ref 143), some (.int (nI k)), x, y] [] (mk n m g I J) = match zfind (sAct A b N) some none k f with | none => some (none, mk n m g I J) | some j => zexec (d + 3) 329 2 [some (.ref 143), some (.int (nI 0)), x', y'] [] (mk n m g (zr I 148 (cDrop (fu (I 148) (30 + (A (b + 15) j).toNatClampNeg) (A (b + 16) j)) j (qN A b))) J) := by
  have hN := hW.h12
  have hQ := hW.hQ.2
  have c5 : I 148 5 = nI (qN A b) := by rw [hR.n5]; exact hW.hQ.1
  intro f
  induction f with
  | zero =>
    intro k x y hk
    refine ⟨x, y, ?_⟩
    rw [e_X12_settles_2]
    simp only [e_X12_settles_0, e_X12_settles_1, e_X12_settles_3, e_X12_settles_4, e_X12_settles_7, e_X12_settles_8, e_X12_settles_9, e_X12_settles_12, e_X12_settles_13, e_X12_settles_16, e_X12_settles_19, e_X12_settles_20, e_X12_settles_21, e_X12_settles_22, e_X12_settles_23, e_X12_settles_24, e_X12_settles_27, e_X12_settles_30, e_X12_settles_31, e_X12_settles_32, e_X12_settles_33, e_X12_settles_34, e_X12_settles_35, e_X12_settles_38, e_X12_settles_40, e_X12_settles_41, e_X12_settles_42, e_X12_settles_43, e_X12_settles_44, e_X12_settles_47, e_X12_settles_48, e_X12_settles_51, e_X12_settles_53, e_X12_settles_54, e_X12_settles_55, e_X12_settles_56, e_X12_settles_59, e_X12_settles_60, e_X12_settles_61, e_X12_settles_64, e_X12_settles_67, e_X12_settles_70, e_X12_settles_73, e_X12_settles_74, e_X12_settles_77, e_X12_settles_79, e_X12_settles_80, e_X12_settles_81, e_X12_settles_82, e_X12_settles_83, e_X12_settles_84, e_X12_settles_85, e_X12_settles_88, e_X12_settles_89, e_X12_settles_90, e_X12_settles_93, cA_6, cA_12, cA_18, cA_30, cA_42, cA_54, cA_66, cA_78, cA_90, cA_102, cA_114, cA_126, cA_138, cA_210, cA_222, lc_0, lc_1, lc_2, lc_3, lc_4, lc_5, g_143_20, q_148, c5, if_pos (nI_le (show qN A b ≤ k by omega) (by omega : k < 2 ^ 31)), Option.bind_some, Option.isSome_some, Option.toList, List.cons_append, List.nil_append, zclr_i, zclr_r, zclr_n, zfit_i, zfit_l, and_self, if_true, if_false]
    rfl
  | succ f ih =>
    intro k x y hk
    obtain ⟨p, hp, ep⟩ := hW.who k (by omega)
    obtain ⟨s, hs, es⟩ := hW.want k (by omega)
    have e1 := hR.who k (by omega)
    have e2 := hR.want k (by omega)
    rw [ep] at e1
    rw [es] at e2
    rw [e_X12_settles_2]
    simp only [e_X12_settles_0, e_X12_settles_1, e_X12_settles_3, e_X12_settles_4, e_X12_settles_7, e_X12_settles_8, e_X12_settles_9, e_X12_settles_12, e_X12_settles_13, e_X12_settles_16, e_X12_settles_19, e_X12_settles_20, e_X12_settles_21, e_X12_settles_22, e_X12_settles_23, e_X12_settles_24, e_X12_settles_27, e_X12_settles_30, e_X12_settles_31, e_X12_settles_32, e_X12_settles_33, e_X12_settles_34, e_X12_settles_35, e_X12_settles_38, e_X12_settles_40, e_X12_settles_41, e_X12_settles_42, e_X12_settles_43, e_X12_settles_44, e_X12_settles_47, e_X12_settles_48, e_X12_settles_51, e_X12_settles_53, e_X12_settles_54, e_X12_settles_55, e_X12_settles_56, e_X12_settles_59, e_X12_settles_60, e_X12_settles_61, e_X12_settles_64, e_X12_settles_67, e_X12_settles_70, e_X12_settles_73, e_X12_settles_74, e_X12_settles_77, e_X12_settles_79, e_X12_settles_80, e_X12_settles_81, e_X12_settles_82, e_X12_settles_83, e_X12_settles_84, e_X12_settles_85, e_X12_settles_88, e_X12_settles_89, e_X12_settles_90, e_X12_settles_93, cA_6, cA_12, cA_18, cA_30, cA_42, cA_54, cA_66, cA_78, cA_90, cA_102, cA_114, cA_126, cA_138, cA_210, cA_222, lc_0, lc_1, lc_2, lc_3, lc_4, lc_5, g_143_20, q_148, nI_neg (show 210 + k < 2 ^ 31 by omega), nI_clamp (show 210 + k < 2 ^ 31 by omega), k_148 (show 210 + k < 2530 by omega), l_148 (show 210 + k < 2530 by omega), nI_neg (show 222 + k < 2 ^ 31 by omega), nI_clamp (show 222 + k < 2 ^ 31 by omega), k_148 (show 222 + k < 2530 by omega), l_148 (show 222 + k < 2530 by omega), nI_neg (show 30 + p < 2 ^ 31 by omega), nI_clamp (show 30 + p < 2 ^ 31 by omega), k_148 (show 30 + p < 2530 by omega), l_148 (show 30 + p < 2530 by omega), nI_neg (show 114 + p < 2 ^ 31 by omega), nI_clamp (show 114 + p < 2 ^ 31 by omega), k_148 (show 114 + p < 2530 by omega), l_148 (show 114 + p < 2530 by omega), c_143, c5, e1, e2, hR.bears p hp, hR.away p hp, if_neg (nI_ge (show k < qN A b by omega) (by omega : qN A b < 2 ^ 31)), v_freeOf hW hR, nI_1, Option.bind_some, Option.isSome_some, Option.toList, List.cons_append, List.nil_append, zclr_i, zclr_r, zclr_n, zfit_i, zfit_l, and_self, if_true, if_false]
    rw [zfind]
    have hm := m0_p (hW.away p hp) hW.hU
    have ha : sAct A b N k = (decide (A (b + 7) p = nI s) || decide (A (b + 11) p = -1 ∧ 0 < tFree A b (nI s) N)) := by
      unfold sAct sMay
      rw [ep, es, nI_clamp (by omega)]
    have hj : mk n m g (zu I 148 (30 + p) (nI s)) J = mk n m g (zr I 148 (fu (I 148) (30 + p) (nI s))) J := by rw [zu_fu]
    have hd : zcall (d + 2) 328 [.ref 143, .int (nI k)] (mk n m g (zr I 148 (fu (I 148) (30 + p) (nI s))) J) = some (none, mk n m g (zr I 148 (cDrop (fu (I 148) (30 + p) (nI s)) k (qN A b))) J) := by
      have := v_drops (n := n) (m := m) (g := g) (J := J) (I := zr I 148 (fu (I 148) (30 + p) (nI s))) (k := k) (Q := qN A b) (by rw [zr_same, fu_ne _ _ (by omega), c5]) hQ (by omega) (d + 2)
      rw [zr_same, zr_zr] at this
      exact this
    have hm2 : (m0 (A (b + 11) p) ≤ 0) = (A (b + 11) p = -1) := by
      rw [← Int32.not_lt, hm, Classical.not_not]
    have hf : (tFr A b (nI s) N = 0) = ¬ 0 < tFree A b (nI s) N := by
      unfold tFr
      by_cases h1 : 0 < tFree A b (nI s) N
      · rw [if_pos h1]
        apply propext
        constructor
        · intro e
          rw [e] at h1
          exact absurd h1 (by decide)
        · intro e
          exact absurd h1 e
      · rw [if_neg h1]
        simp [h1]
    by_cases h1 : A (b + 7) p = nI s
    · have ht : sAct A b N k = true := by rw [ha]; simp [h1]
      refine ⟨some (.int (nI p)), some (.int (nI s)), ?_⟩
      simp only [ht, if_true, h1, ne_eq, not_true, if_false, hj, hd, Option.bind_some, ep, es, nI_clamp (show p < 2 ^ 31 by omega), Option.toList, List.nil_append]
      rfl
    · by_cases h2 : A (b + 11) p = -1
      · by_cases h3 : 0 < tFree A b (nI s) N
        · have ht : sAct A b N k = true := by rw [ha]; simp [h2, h3]
          refine ⟨some (.int (nI p)), some (.int (nI s)), ?_⟩
          simp only [ht, if_true, h1, hm, hm2, h2, hf, h3, ne_eq, not_true, not_false_eq_true, if_false, hj, hd, Option.bind_some, ep, es, nI_clamp (show p < 2 ^ 31 by omega), Option.toList, List.nil_append]
          rfl
        · have ht : sAct A b N k = false := by rw [ha]; simp [h1, h3]
          obtain ⟨x', y', h⟩ := ih (k + 1) (some (.int (nI p))) (some (.int (nI s))) (by omega)
          refine ⟨x', y', ?_⟩
          simp only [ht, Bool.false_eq_true, if_false, h1, hm, hm2, h2, hf, h3, ne_eq, not_true, not_false_eq_true, if_true]
          exact h
      · have ht : sAct A b N k = false := by rw [ha]; simp [h1, h2]
        obtain ⟨x', y', h⟩ := ih (k + 1) (some (.int (nI p))) (some (.int (nI s))) (by omega)
        refine ⟨x', y', ?_⟩
        simp only [ht, Bool.false_eq_true, if_false, h1, hm, hm2, h2, ne_eq, not_true, not_false_eq_true, if_true]
        exact h
theorem serve_N {k : Nat} (hW : WT A b N S U) (hk : k < qN A b) : qN (sServe A b k) b = qN A b - 1 := by
  have h1 := press_N (A := zu A (b + 7) (A (b + 15) k).toNatClampNeg (A (b + 16) k)) (b := b) (f := fun I j => decide (I (b + 15) j ≠ A (b + 15) k)) (c' := fun a => decide (a.1 ≠ A (b + 15) k)) (fun _ _ _ => rfl) (by rw [qN_zu (by omega)]; exact hW.hQ.2)
  have h2 : qL (zu A (b + 7) (A (b + 15) k).toNatClampNeg (A (b + 16) k)) b (qN A b) = qL A b (qN A b) := qL_eq (fun _ _ => by simp only [zu_oo (i := 7) (j := 15) (by decide), zu_oo (i := 7) (j := 16) (by decide), and_self])
  have e4 := filter_erase (qL A b (qN A b)) k _ (qL_get hk) hW.pair
  rw [qN_zu (by omega), h2] at h1
  unfold sServe
  rw [h1.1, e4, List.length_eraseIdx, qL_len, if_pos hk]
theorem v_sett (d : Nat) : ∀ r (A I : Nat → Nat → Int32) (x y : Option Value), WT A b N S U → RT A b (I 148) N S → qN A b ≤ r → ∃ c', zexec (d + 3) 329 2 [some (.ref 143), some (.int (nI 0)), x, y] [] (mk n m g I J) = some (none, mk n m g (zr I 148 c') J) ∧ WT (bRunA b N r A) b N S U ∧ RT (bRunA b N r A) b c' N S ∧ ∀ j, 234 ≤ j → c' j = I 148 j
  | 0, A, I, x, y, hW, hR, hr => by
    obtain ⟨x', y', h⟩ := v_scan (n := n) (m := m) (g := g) (J := J) hW hR d (qN A b) 0 x y (by omega)
    rw [show qN A b = 0 by omega] at h
    refine ⟨I 148, ?_, hW, hR, fun _ _ => rfl⟩
    rw [h, zr_id]
    rfl
  | r + 1, A, I, x, y, hW, hR, hr => by
    obtain ⟨x', y', h⟩ := v_scan (n := n) (m := m) (g := g) (J := J) hW hR d (qN A b) 0 x y (by omega)
    rw [h, bRunA]
    cases hz : zfind (sAct A b N) some none 0 (qN A b) with
    | none =>
      refine ⟨I 148, ?_, hW, hR, fun _ _ => rfl⟩
      rw [zr_id]
    | some k =>
      have hk := (zfind_some _ _ hz).2.1
      rw [Nat.zero_add] at hk
      obtain ⟨p, hp, ep⟩ := hW.who k hk
      obtain ⟨s, hs, es⟩ := hW.want k hk
      have hN := hW.h12
      have hR' := RT.serve hR hW hk hp hs ep es
      dsimp only
      rw [ep, es, nI_clamp (by omega)]
      obtain ⟨c', h1, h2, h3, h4⟩ := v_sett d r (sServe A b k) (zr I 148 (cDrop (fu (I 148) (30 + p) (nI s)) k (qN A b))) x' y' (hW.serve hk) (by rw [zr_same]; exact hR') (by rw [serve_N hW hk]; omega)
      rw [zr_zr, zr_same] at *
      refine ⟨c', h1, h2, h3, fun j hj => ?_⟩
      rw [h4 j hj, cDrop_far hW.hQ.2 (by omega) (Or.inr hj), fu_ne _ _ (by omega)]
end DR
