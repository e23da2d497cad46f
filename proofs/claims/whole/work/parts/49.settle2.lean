/-! SETTLING: the class's way and the reference's come to the same -/
section SL
variable {n m : Nat} {g : Nat → zC} {I A : Nat → Nat → Int32} {J : Nat → Nat → Int64} {b N S U : Nat}
abbrev aSt := (Nat → Int32) × List (Int32 × Int32)
def aFree (be di : Nat → Int32) (mo s : Int32) (N : Nat) : Int32 := zfor (fun p (a : Int32) => if be p = s ∧ di p = -1 then a + -1 else a) 0 N mo
def aMay (A : Nat → Nat → Int32) (b N : Nat) (be : Nat → Int32) (e : Int32 × Int32) : Bool := decide (A (b + 11) e.1.toNatClampNeg = -1 ∧ 0 < aFree be (A (b + 6)) (A b 1) e.2 N)
def aDone (be : Nat → Int32) (e : Int32 × Int32) : Bool := decide (be e.1.toNatClampNeg = e.2)
def aNext (x : aSt) (e : Int32 × Int32) : aSt := (fu x.1 e.1.toNatClampNeg e.2, x.2.filter (fun a => decide (a.1 ≠ e.1)))
def aRun (A : Nat → Nat → Int32) (b N : Nat) : Nat → aSt → aSt
  | 0, x => x
  | r + 1, x => match x.2.find? (aMay A b N x.1) with | none => x | some e => aRun A b N r (aNext x e)
def bRun (A : Nat → Nat → Int32) (b N : Nat) : Nat → aSt → aSt
  | 0, x => x
  | r + 1, x => match x.2.find? (fun e => aDone x.1 e || aMay A b N x.1 e) with | none => x | some e => bRun A b N r (aNext x e)
def vw (I : Nat → Nat → Int32) (b : Nat) : aSt := (I (b + 7), qL I b (qN I b))
theorem find_L (e : Nat → Int32 × Int32) (f : Int32 × Int32 → Bool) : ∀ k p, ((List.range' p k).map e).find? f = (zfind (fun j => f (e j)) some none p k).map e
  | 0, p => by simp [zfind]
  | k + 1, p => by
    rw [List.range'_succ, List.map_cons, zfind]
    by_cases h : f (e p) = true
    · rw [List.find?_cons_of_pos h, if_pos h]
      rfl
    · rw [List.find?_cons_of_neg h, if_neg h]
      exact find_L e f k (p + 1)
theorem find_q (f : Int32 × Int32 → Bool) (K : Nat) : (qL I b K).find? f = (zfind (fun j => f (I (b + 15) j, I (b + 16) j)) some none 0 K).map (fun j => (I (b + 15) j, I (b + 16) j)) := by
  unfold qL
  rw [List.range_eq_range']
  exact find_L _ f K 0
theorem serve_vw {k : Nat} (h12 : qN I b ≤ 12) : vw (sServe I b k) b = aNext (vw I b) (I (b + 15) k, I (b + 16) k) := by
  have h1 := press_N (A := zu I (b + 7) (I (b + 15) k).toNatClampNeg (I (b + 16) k)) (b := b) (f := fun I' j => decide (I' (b + 15) j ≠ I (b + 15) k)) (c' := fun a => decide (a.1 ≠ I (b + 15) k)) (fun _ _ _ => rfl) (by rw [qN_zu (by omega)]; exact h12)
  have h2 : qL (zu I (b + 7) (I (b + 15) k).toNatClampNeg (I (b + 16) k)) b (qN I b) = qL I b (qN I b) := qL_eq (fun _ _ => by simp only [zu_oo (i := 7) (j := 15) (by decide), zu_oo (i := 7) (j := 16) (by decide), and_self])
  rw [qN_zu (by omega), h2] at h1
  unfold vw aNext sServe
  rw [h1.1, h1.2.2, press_row (by decide) (by decide) (by decide), zu_fu, zr_same]
theorem serve_12 {k : Nat} (h12 : qN I b ≤ 12) : qN (sServe I b k) b ≤ 12 := by
  have h1 := press_N (A := zu I (b + 7) (I (b + 15) k).toNatClampNeg (I (b + 16) k)) (b := b) (f := fun I' j => decide (I' (b + 15) j ≠ I (b + 15) k)) (c' := fun a => decide (a.1 ≠ I (b + 15) k)) (fun _ _ _ => rfl) (by rw [qN_zu (by omega)]; exact h12)
  rw [qN_zu (by omega)] at h1
  unfold sServe
  rw [h1.1]
  exact Nat.le_trans qFilter_le h12
def fixed (I A : Nat → Nat → Int32) (b : Nat) : Prop := I (b + 6) = A (b + 6) ∧ I (b + 11) = A (b + 11) ∧ I b = A b
theorem serve_fixed {k : Nat} (h : fixed I A b) : fixed (sServe I b k) A b := by
  obtain ⟨h1, h2, h3⟩ := h
  refine ⟨?_, ?_, ?_⟩ <;> rw [sServe_far (by omega) (by omega) (by omega) (by omega)] <;> assumption
theorem may_a {k : Nat} (h : fixed I A b) : sMay I b N k = aMay A b N (I (b + 7)) (I (b + 15) k, I (b + 16) k) := by
  obtain ⟨h1, h2, h3⟩ := h
  unfold sMay aMay tFree aFree
  rw [h1, h2, h3]
theorem sRun_vw : ∀ r (I : Nat → Nat → Int32), fixed I A b → qN I b ≤ 12 → vw (sRun b N r I) b = aRun A b N r (vw I b)
  | 0, I, _, _ => rfl
  | r + 1, I, h, h12 => by
    rw [sRun, aRun]
    have e : (vw I b).2.find? (aMay A b N (vw I b).1) = (zfind (sMay I b N) some none 0 (qN I b)).map (fun j => (I (b + 15) j, I (b + 16) j)) := by
      show (qL I b (qN I b)).find? (aMay A b N (I (b + 7))) = _
      rw [find_q]
      congr 2
      funext k
      exact (may_a h).symm
    rw [e]
    cases zfind (sMay I b N) some none 0 (qN I b) with
    | none => rfl
    | some k =>
      dsimp only [Option.map_some]
      rw [sRun_vw r _ (serve_fixed h) (serve_12 h12), serve_vw h12]
theorem bRunA_vw : ∀ r (I : Nat → Nat → Int32), fixed I A b → qN I b ≤ 12 → vw (bRunA b N r I) b = bRun A b N r (vw I b)
  | 0, I, _, _ => rfl
  | r + 1, I, h, h12 => by
    rw [bRunA, bRun]
    have e : (vw I b).2.find? (fun e => aDone (vw I b).1 e || aMay A b N (vw I b).1 e) = (zfind (sAct I b N) some none 0 (qN I b)).map (fun j => (I (b + 15) j, I (b + 16) j)) := by
      show (qL I b (qN I b)).find? (fun e => aDone (I (b + 7)) e || aMay A b N (I (b + 7)) e) = _
      rw [find_q]
      congr 2
      funext k
      unfold sAct
      rw [may_a h]
      rfl
    rw [e]
    cases zfind (sAct I b N) some none 0 (qN I b) with
    | none => rfl
    | some k =>
      dsimp only [Option.map_some]
      rw [bRunA_vw r _ (serve_fixed h) (serve_12 h12), serve_vw h12]
theorem bRunA_far {a : Nat} (h7 : a ≠ b + 7) (h14 : a ≠ b + 14) (h15 : a ≠ b + 15) (h16 : a ≠ b + 16) : ∀ r (I : Nat → Nat → Int32), bRunA b N r I a = I a
  | 0, I => rfl
  | r + 1, I => by
    rw [bRunA]
    cases zfind (sAct I b N) some none 0 (qN I b) with
    | none => rfl
    | some k =>
      dsimp only
      rw [bRunA_far h7 h14 h15 h16 r, sServe_far h7 h14 h15 h16]
theorem run_eq : ∀ r r' (be : Nat → Int32) (l : List (Int32 × Int32)), l.length ≤ r → l.length ≤ r' → l.Pairwise (fun e f => e.1 ≠ f.1) → (∀ e ∈ l, ∃ p, p < 12 ∧ e.1 = nI p) → bRun A b N r (be, l) = aRun A b N r' (be, l.filter (fun e => !aDone be e))
  | 0, r', be, l, h, _, _, _ => by
    have : l = [] := List.length_eq_zero_iff.mp (by omega)
    subst this
    cases r' <;> rfl
  | r + 1, r', be, l, h, h', hp, hm => by
    rw [bRun]
    dsimp only
    cases hf : l.find? (fun e => aDone be e || aMay A b N be e) with
    | none =>
      have hn : ∀ e ∈ l, aDone be e = false ∧ aMay A b N be e = false := fun e he => by
        have := List.find?_eq_none.mp hf e he
        simpa using this
      have e1 : l.filter (fun e => !aDone be e) = l := List.filter_eq_self.mpr (fun e he => by simp [(hn e he).1])
      have e2 : l.find? (aMay A b N be) = none := List.find?_eq_none.mpr (fun e he => by simp [(hn e he).2])
      rw [e1]
      cases r' with
      | zero => rfl
      | succ r' =>
        rw [aRun]
        dsimp only
        rw [e2]
    | some e =>
      have he : e ∈ l := List.mem_of_find?_eq_some hf
      obtain ⟨k, hk2⟩ := List.getElem?_of_mem he
      have hk := (List.getElem?_eq_some_iff.mp hk2).1
      have hlen : (l.filter (fun a => decide (a.1 ≠ e.1))).length = l.length - 1 := by rw [filter_erase l k e hk2 hp, List.length_eraseIdx, if_pos hk]
      have huq : ∀ a ∈ l, a.1 = e.1 → a = e := by
        intro a ha hae
        obtain ⟨i, hi2⟩ := List.getElem?_of_mem ha
        have hi := (List.getElem?_eq_some_iff.mp hi2).1
        rw [List.pairwise_iff_getElem] at hp
        have g1 := (List.getElem?_eq_some_iff.mp hi2).2
        have g2 := (List.getElem?_eq_some_iff.mp hk2).2
        rcases Nat.lt_trichotomy i k with q | q | q
        · exact absurd (by rw [g1, g2]; exact hae) (hp i k hi hk q)
        · subst q
          rw [hi2] at hk2
          exact Option.some.inj hk2
        · exact absurd (by rw [g1, g2]; exact hae.symm) (hp k i hk hi q)
      have hne : ∀ a ∈ l, a.1 ≠ e.1 → a.1.toNatClampNeg ≠ e.1.toNatClampNeg := by
        intro a ha hae h
        obtain ⟨p, hp, ep⟩ := hm a ha
        obtain ⟨q, hq, eq⟩ := hm e he
        rw [ep, eq, nI_clamp (by omega), nI_clamp (by omega)] at h
        exact hae (by rw [ep, eq, h])
      have hs := List.find?_some hf
      have hp' := hp.filter (fun a => decide (a.1 ≠ e.1))
      have hm' : ∀ a ∈ l.filter (fun a => decide (a.1 ≠ e.1)), ∃ p, p < 12 ∧ a.1 = nI p := fun a ha => hm a (List.mem_filter.mp ha).1
      by_cases hd : aDone be e = true
      · have e1 : fu be e.1.toNatClampNeg e.2 = be := by
          funext j
          unfold fu
          by_cases hj : j = e.1.toNatClampNeg
          · rw [if_pos hj, hj]
            unfold aDone at hd
            exact (of_decide_eq_true hd).symm
          · rw [if_neg hj]
        have e2 : (l.filter (fun a => decide (a.1 ≠ e.1))).filter (fun a => !aDone be a) = l.filter (fun a => !aDone be a) := by
          rw [List.filter_filter]
          apply List.filter_congr
          intro a ha
          by_cases hae : a.1 = e.1
          · rw [huq a ha hae]
            simp [hd]
          · simp [hae]
        have := run_eq r r' be (l.filter (fun a => decide (a.1 ≠ e.1))) (by omega) (by omega) hp' hm'
        rw [e2] at this
        show bRun A b N r (fu be e.1.toNatClampNeg e.2, l.filter (fun a => decide (a.1 ≠ e.1))) = _
        rw [e1, this]
      · have hmay : aMay A b N be e = true := by
          rcases Bool.or_eq_true _ _ |>.mp hs with h | h
          · exact absurd h hd
          · exact h
        obtain ⟨r2, rfl⟩ : ∃ r2, r' = r2 + 1 := ⟨r' - 1, by
          have : 0 < l.length := List.length_pos_of_mem he
          omega⟩
        rw [aRun]
        dsimp only
        have e1 : (l.filter (fun a => !aDone be a)).find? (aMay A b N be) = some e := by
          rw [List.find?_filter]
          rw [List.find?_eq_some_iff_append] at hf ⊢
          obtain ⟨_, as, bs, hl, hb⟩ := hf
          refine ⟨by simp [hd, hmay], as, bs, hl, fun a ha => ?_⟩
          have := hb a ha
          simp only [Bool.not_or, Bool.and_eq_true, Bool.not_eq_true'] at this
          simp [this.1, this.2]
        rw [e1]
        dsimp only
        have e2 : (l.filter (fun a => decide (a.1 ≠ e.1))).filter (fun a => !aDone (fu be e.1.toNatClampNeg e.2) a) = (l.filter (fun a => !aDone be a)).filter (fun a => decide (a.1 ≠ e.1)) := by
          rw [List.filter_filter, List.filter_filter]
          apply List.filter_congr
          intro a ha
          by_cases hae : a.1 = e.1
          · simp [hae]
          · have : aDone (fu be e.1.toNatClampNeg e.2) a = aDone be a := by
              unfold aDone
              rw [fu_ne _ _ (hne a ha hae)]
            rw [this, Bool.and_comm]
        have := run_eq r r2 (fu be e.1.toNatClampNeg e.2) (l.filter (fun a => decide (a.1 ≠ e.1))) (by omega) (by omega) hp' hm'
        rw [e2] at this
        exact this
theorem settle_vw (hW : WT A b N S U) : vw (bRunA b N 12 A) b = vw (tSettle A b N) b := by
  have hQ := hW.hQ.2
  have h12 := hW.h12
  have h1 := press_N (A := A) (b := b) (f := fun I k => decide (I (b + 7) (I (b + 15) k).toNatClampNeg ≠ I (b + 16) k)) (c' := fun e => !aDone (A (b + 7)) e) (fun I' h k => by simp only [h, aDone, ne_eq, decide_not]) hQ
  unfold tSettle
  rw [bRunA_vw (A := A) 12 A ⟨rfl, rfl, rfl⟩ hQ]
  rw [sRun_vw (A := A) 12 _ ⟨press_row (by decide) (by decide) (by decide), press_row (by decide) (by decide) (by decide), press_0⟩ (by rw [h1.1]; exact Nat.le_trans qFilter_le hQ)]
  have e : vw (qPress (fun I k => decide (I (b + 7) (I (b + 15) k).toNatClampNeg ≠ I (b + 16) k)) b (qN A b) A) b = (A (b + 7), (qL A b (qN A b)).filter (fun e => !aDone (A (b + 7)) e)) := by
    unfold vw
    rw [h1.1, h1.2.2, press_row (by decide) (by decide) (by decide)]
  rw [e]
  exact run_eq 12 12 (A (b + 7)) (qL A b (qN A b)) (by rw [qL_len]; exact hQ) (by rw [qL_len]; exact hQ) hW.pair (fun e he => by
    obtain ⟨⟨p, hp, h⟩, _⟩ := hW.entry e he
    exact ⟨p, by omega, h⟩)
theorem sRun_W : ∀ r (A : Nat → Nat → Int32), WT A b N S U → WT (sRun b N r A) b N S U
  | 0, A, h => h
  | r + 1, A, h => by
    rw [sRun]
    cases hz : zfind (sMay A b N) some none 0 (qN A b) with
    | none => exact h
    | some k =>
      have hk := (zfind_some _ _ hz).2.1
      exact sRun_W r _ (h.serve (by omega))
theorem WT.settle (hW : WT A b N S U) : WT (tSettle A b N) b N S U := sRun_W 12 _ (hW.press (c' := fun e => !aDone (A (b + 7)) e) (fun I' h k => by simp only [h, aDone, ne_eq, decide_not]))
theorem v_settles (hW : WT A b N S U) (hR : RT A b (I 148) N S) (d : Nat) : ∃ c', zcall (d + 3) 329 [.ref 143] (mk n m g I J) = some (none, mk n m g (zr I 148 c') J) ∧ RT (tSettle A b N) b c' N S ∧ ∀ j, 234 ≤ j → c' j = I 148 j := by
  obtain ⟨c', h1, h2, h3, h4⟩ := v_sett (n := n) (m := m) (g := g) (J := J) d 12 A I none none hW hR hW.hQ.2
  refine ⟨c', ?_, ?_, h4⟩
  · rw [m_X12_settles]
    simp only [e_X12_settles_0, e_X12_settles_1, e_X12_settles_3, e_X12_settles_4, e_X12_settles_7, e_X12_settles_8, e_X12_settles_9, e_X12_settles_12, e_X12_settles_13, e_X12_settles_16, e_X12_settles_19, e_X12_settles_20, e_X12_settles_21, e_X12_settles_22, e_X12_settles_23, e_X12_settles_24, e_X12_settles_27, e_X12_settles_30, e_X12_settles_31, e_X12_settles_32, e_X12_settles_33, e_X12_settles_34, e_X12_settles_35, e_X12_settles_38, e_X12_settles_40, e_X12_settles_41, e_X12_settles_42, e_X12_settles_43, e_X12_settles_44, e_X12_settles_47, e_X12_settles_48, e_X12_settles_51, e_X12_settles_53, e_X12_settles_54, e_X12_settles_55, e_X12_settles_56, e_X12_settles_59, e_X12_settles_60, e_X12_settles_61, e_X12_settles_64, e_X12_settles_67, e_X12_settles_70, e_X12_settles_73, e_X12_settles_74, e_X12_settles_77, e_X12_settles_79, e_X12_settles_80, e_X12_settles_81, e_X12_settles_82, e_X12_settles_83, e_X12_settles_84, e_X12_settles_85, e_X12_settles_88, e_X12_settles_89, e_X12_settles_90, e_X12_settles_93, Option.bind_some, Option.isSome_some, Option.toList, List.cons_append, List.nil_append, zclr_i, zclr_r, zclr_n, zfit_i, zfit_l, and_self, if_true, if_false]
    exact h1
  · have hv := settle_vw hW
    have hw := hW.settle
    unfold vw at hv
    simp only [Prod.mk.injEq] at hv
    have hq : qN (bRunA b N 12 A) b = qN (tSettle A b N) b := by
      have := congrArg List.length hv.2
      rw [qL_len, qL_len] at this
      exact this
    have hrow : ∀ j, j < 17 → j ≠ 14 → j ≠ 15 → j ≠ 16 → tSettle A b N (b + j) = bRunA b N 12 A (b + j) := by
      intro j _ h14 h15 h16
      by_cases h7 : j = 7
      · subst h7
        exact hv.1.symm
      · rw [tSettle_far (by omega) (by omega) (by omega) (by omega), bRunA_far (by omega) (by omega) (by omega) (by omega)]
    refine h3.view h2 hrow (by rw [hw.hQ.1, h2.hQ.1, hq]) ?_
    rw [hv.2, hq]
end SL
