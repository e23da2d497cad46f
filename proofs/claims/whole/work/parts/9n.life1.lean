/-! LIVES: settling twice, and what does not matter to it -/
section LE
variable {n m : Nat} {g : Nat → zC} {I X Y A A' C : Nat → Nat → Int32} {J : Nat → Nat → Int64} {N S U b : Nat} {c : Nat → Int32}
theorem vw_far (h : ∀ i, i < 17 → A' (b + i) = A (b + i)) : vw A' b = vw A b := by
  have hq : qN A' b = qN A b := by
    unfold qN
    rw [h 14 (by decide)]
  unfold vw
  rw [hq, h 7 (by decide), qL_eq (I := A') (I' := A) (fun k _ => ⟨by rw [h 15 (by decide)], by rw [h 16 (by decide)]⟩)]
theorem settle_a (hW : WT A b N S U) : vw (tSettle A b N) b = aRun A b N 12 (A (b + 7), (qL A b (qN A b)).filter (fun e => !aDone (A (b + 7)) e)) := by
  have hQ := hW.hQ.2
  have h1 := press_N (A := A) (b := b) (f := fun I k => decide (I (b + 7) (I (b + 15) k).toNatClampNeg ≠ I (b + 16) k)) (c' := fun e => !aDone (A (b + 7)) e) (fun I' h k => by simp only [h, aDone, ne_eq, decide_not]) hQ
  unfold tSettle
  rw [sRun_vw (A := A) 12 _ ⟨press_row (by decide) (by decide) (by decide), press_row (by decide) (by decide) (by decide), press_0⟩ (by rw [h1.1]; exact Nat.le_trans qFilter_le hQ)]
  have e : vw (qPress (fun I k => decide (I (b + 7) (I (b + 15) k).toNatClampNeg ≠ I (b + 16) k)) b (qN A b) A) b = (A (b + 7), (qL A b (qN A b)).filter (fun e => !aDone (A (b + 7)) e)) := by
    unfold vw
    rw [h1.1, h1.2.2, press_row (by decide) (by decide) (by decide)]
  rw [e]
theorem aRun_far (h6 : A' (b + 6) = A (b + 6)) (h11 : A' (b + 11) = A (b + 11)) (h0 : A' b = A b) : ∀ r x, aRun A' b N r x = aRun A b N r x
  | 0, _ => rfl
  | r + 1, x => by
    have hm : aMay A' b N x.1 = aMay A b N x.1 := by
      funext e
      unfold aMay
      rw [h6, h11, h0]
    rw [aRun, aRun, hm]
    cases x.2.find? (aMay A b N x.1) with
    | none => rfl
    | some e => exact aRun_far h6 h11 h0 r _
theorem aRun_end : ∀ r (be : Nat → Int32) (l : List (Int32 × Int32)), l.length ≤ r → l.Pairwise (fun e f => e.1 ≠ f.1) → (∀ e ∈ l, ∃ p, p < 12 ∧ e.1 = nI p) → (∀ e ∈ l, aDone be e = false) → (aRun A b N r (be, l)).2.find? (aMay A b N (aRun A b N r (be, l)).1) = none ∧ ∀ e ∈ (aRun A b N r (be, l)).2, aDone (aRun A b N r (be, l)).1 e = false
  | 0, be, l, h, _, _, _ => by
    have : l = [] := List.length_eq_zero_iff.mp (by omega)
    subst this
    exact ⟨rfl, fun e he => absurd he (by rw [aRun]; exact List.not_mem_nil)⟩
  | r + 1, be, l, h, hp, hm, hd => by
    rw [aRun]
    dsimp only
    cases hf : l.find? (aMay A b N be) with
    | none => exact ⟨hf, hd⟩
    | some e =>
      have he : e ∈ l := List.mem_of_find?_eq_some hf
      obtain ⟨k, hk2⟩ := List.getElem?_of_mem he
      have hk := (List.getElem?_eq_some_iff.mp hk2).1
      have hlen : (l.filter (fun a => decide (a.1 ≠ e.1))).length = l.length - 1 := by rw [filter_erase l k e hk2 hp, List.length_eraseIdx, if_pos hk]
      refine aRun_end r (fu be e.1.toNatClampNeg e.2) (l.filter (fun a => decide (a.1 ≠ e.1))) (by omega) (hp.filter _) (fun a ha => hm a (List.mem_filter.mp ha).1) (fun a ha => ?_)
      obtain ⟨ha1, ha2⟩ := List.mem_filter.mp ha
      have hae : a.1 ≠ e.1 := of_decide_eq_true ha2
      have hne : a.1.toNatClampNeg ≠ e.1.toNatClampNeg := by
        intro h
        obtain ⟨p, hp, ep⟩ := hm a ha1
        obtain ⟨q, hq, eq⟩ := hm e he
        rw [ep, eq, nI_clamp (by omega), nI_clamp (by omega)] at h
        exact hae (by rw [ep, eq, h])
      have := hd a ha1
      unfold aDone at *
      rw [fu_ne _ _ hne]
      exact this
theorem vw_N (h : vw A' b = vw A b) : A' (b + 7) = A (b + 7) ∧ qN A' b = qN A b ∧ qL A' b (qN A b) = qL A b (qN A b) := by
  have h1 : A' (b + 7) = A (b + 7) := congrArg Prod.fst h
  have h2 : qL A' b (qN A' b) = qL A b (qN A b) := congrArg Prod.snd h
  have h3 : qN A' b = qN A b := by
    have := congrArg List.length h2
    rw [qL_len, qL_len] at this
    exact this
  rw [h3] at h2
  exact ⟨h1, h3, h2⟩
theorem RT.byView (h : RT A b c N S) (hW : WT A b N S U) (hW' : WT A' b N S U) (hf : ∀ j, j < 17 → j ≠ 7 → j ≠ 14 → j ≠ 15 → j ≠ 16 → A' (b + j) = A (b + j)) (hv : vw A' b = vw A b) : RT A' b c N S := by
  obtain ⟨h7, hq, hl⟩ := vw_N hv
  refine h.view hW (fun j hj h14 h15 h16 => ?_) ?_ hl
  · by_cases e : j = 7
    · rw [e]
      exact h7
    · exact hf j hj e h14 h15 h16
  · rw [hW'.hQ.1, hq, ← hW.hQ.1]
/-- settling sees the town alone -/
theorem RT.settleF (h : RT (tSettle A b N) b c N S) (hW : WT A b N S U) (hf : ∀ i, i < 17 → A' (b + i) = A (b + i)) : RT (tSettle A' b N) b c N S := by
  have hW' : WT A' b N S U := hW.far hf
  refine h.byView hW.settle hW'.settle (fun j hj h7 h14 h15 h16 => ?_) ?_
  · rw [tSettle_far (by omega) (by omega) (by omega) (by omega), tSettle_far (by omega) (by omega) (by omega) (by omega), hf j hj]
  · have hq : qN A' b = qN A b := by
      unfold qN
      rw [hf 14 (by decide)]
    rw [settle_a hW', settle_a hW, aRun_far (hf 6 (by decide)) (hf 11 (by decide)) (hf 0 (by decide)), hf 7 (by decide), hq, qL_eq (I := A') (I' := A) (fun k _ => ⟨by rw [hf 15 (by decide)], by rw [hf 16 (by decide)]⟩)]
theorem settle_twice (hW : WT C b N S U) : vw (tSettle (tSettle C b N) b N) b = vw (tSettle C b N) b := by
  have hX := hW.settle
  have e := settle_a hW
  have fe := aRun_end (A := C) (b := b) (N := N) 12 (C (b + 7)) ((qL C b (qN C b)).filter (fun e => !aDone (C (b + 7)) e)) (Nat.le_trans (List.length_filter_le _ _) (by rw [qL_len]; exact hW.hQ.2)) (hW.pair.filter _) (fun e he => by
    obtain ⟨⟨p, hp, h⟩, _⟩ := hW.entry e (List.mem_filter.mp he).1
    have := hW.h12
    exact ⟨p, by omega, h⟩) (fun e he => by
    have := (List.mem_filter.mp he).2
    simpa using this)
  rw [← e] at fe
  obtain ⟨f1, f2⟩ := fe
  rw [settle_a hX, aRun_far (A := C) (tSettle_far (by omega) (by omega) (by omega) (by omega)) (tSettle_far (by omega) (by omega) (by omega) (by omega)) (tSettle_far (by omega) (by omega) (by omega) (by omega))]
  have hfl : (qL (tSettle C b N) b (qN (tSettle C b N) b)).filter (fun e => !aDone (tSettle C b N (b + 7)) e) = qL (tSettle C b N) b (qN (tSettle C b N) b) := List.filter_eq_self.mpr (fun a ha => by
    have := f2 a ha
    show (!aDone (tSettle C b N (b + 7)) a) = true
    rw [show aDone (tSettle C b N (b + 7)) a = false from this]
    rfl)
  rw [hfl]
  show aRun C b N (11 + 1) (vw (tSettle C b N) b) = vw (tSettle C b N) b
  rw [aRun, f1]
theorem RT.settled (h : RT (tSettle C b N) b c N S) (hW : WT C b N S U) (hf : ∀ i, i < 17 → A' (b + i) = tSettle C b N (b + i)) : RT (tSettle A' b N) b c N S := by
  have h2 : RT (tSettle (tSettle C b N) b N) b c N S := by
    refine h.byView hW.settle hW.settle.settle (fun j hj h7 h14 h15 h16 => ?_) (settle_twice hW)
    rw [tSettle_far (by omega) (by omega) (by omega) (by omega)]
  exact h2.settleF hW.settle hf
theorem isS_fun {x : Int32} {f f' : Nat → Bool} (hx : isS x f) (hy : isS x f') (p : Nat) (_ : p < 12) : f p = f' p := by
  obtain ⟨r, hr, e, hf⟩ := hx
  obtain ⟨s, hs, e', hg⟩ := hy
  have : r = s := nI_inj (by omega) (by omega) (by rw [← e, ← e'])
  rw [← hf, ← hg, this]
theorem cnt_or {f f' h : Nat → Bool} : ∀ k p a a', (∀ q, p ≤ q → q < p + k → h q = (f q || f' q) ∧ (f q && f' q) = false) → zfor (fun p a => if h p = true then a + 1 else a) p k (a + a') = zfor (fun p a => if f p = true then a + 1 else a) p k a + zfor (fun p a => if f' p = true then a + 1 else a) p k a'
  | 0, _, _, _, _ => rfl
  | k + 1, p, a, a', hh => by
    rw [zfor, zfor, zfor]
    obtain ⟨h1, h2⟩ := hh p (Nat.le_refl p) (by omega)
    have ih := fun x y => cnt_or (f := f) (f' := f') (h := h) k (p + 1) x y (fun q q1 q2 => hh q (by omega) (by omega))
    rw [h1]
    cases e : f p <;> cases e' : f' p
    · exact ih a a'
    · show zfor _ (p + 1) k (a + a' + 1) = zfor _ (p + 1) k a + zfor _ (p + 1) k (a' + 1)
      rw [Nat.add_assoc]
      exact ih a (a' + 1)
    · show zfor _ (p + 1) k (a + a' + 1) = zfor _ (p + 1) k (a + 1) + zfor _ (p + 1) k a'
      rw [Nat.add_right_comm]
      exact ih (a + 1) a'
    · rw [e, e'] at h2
      cases h2
/-- the dead of more years -/
theorem dead_add (hW : WT A b N S U) {k : Nat} (hU : U + (k + 1) ≤ 9999) {f : Nat → Bool} (hf : isS (yDead (tYears A b N k).2 b N).1 f) : jbc (tYears A b N (k + 1)).1 = jbc (tYears A b N k).1 + nI (cnt f 12) := by
  obtain ⟨s1, a1⟩ := years_spec hW k (by omega)
  obtain ⟨s2, a2⟩ := years_spec hW (k + 1) hU
  have hWk := hW.tYearsU k (by omega)
  obtain ⟨y, y1, y2, y3⟩ := hWk.hY
  obtain ⟨s3, a3⟩ := dead_spec hWk y3 (by omega)
  have h6 : (tYears A b N (k + 1)).2 (b + 6) = (yDead (tYears A b N k).2 b N).2 (b + 6) := by rw [tYears_succ]; exact tYear_6
  have hff : ∀ p, p < 12 → f p = (decide (p < N) && decide ((tYears A b N k).2 (b + 6) p = -1) && decide ((yDead (tYears A b N k).2 b N).2 (b + 6) p ≠ -1)) := fun p hp => isS_fun hf s3 p hp
  rw [isS_jbc s1, isS_jbc s2, nI_add]
  congr 1
  refine cnt_or 12 0 0 0 (fun q _ hq => ?_)
  rw [hff q (by omega), h6]
  by_cases c1 : q < N
  · by_cases c2 : A (b + 6) q = -1
    · by_cases c3 : (tYears A b N k).2 (b + 6) q = -1
      · simp [c1, c2, c3]
      · have c4 := a3 q c3
        simp [c1, c2, c3, c4]
    · have c3 := a1 q c2
      have c4 : ¬ (tYears A b N k).2 (b + 6) q = -1 := by rw [c3]; exact c2
      simp [c2, c4]
  · simp [c1]
end LE
