/-! THE QUEUE as a list: pressing and dropping, of the class and of the reference -/
section PR
variable {A A' A'' : Nat → Nat → Int32} {b N S U : Nat} {c c1 : Nat → Int32}
theorem qL_get {I : Nat → Nat → Int32} {K k : Nat} (h : k < K) : (qL I b K)[k]? = some (I (b + 15) k, I (b + 16) k) := by
  simp [qL, h]
theorem WT.pair (hW : WT A b N S U) : (qL A b (qN A b)).Pairwise (fun e f => e.1 ≠ f.1) := by
  rw [List.pairwise_iff_getElem]
  intro i j hi hj hij
  rw [qL_len] at hi hj
  have := hW.uniq i j hij hj
  simpa [qL] using this
theorem pair_uniq {Q : Nat} (h : (qL A b Q).Pairwise (fun e f => e.1 ≠ f.1)) : ∀ i j, i < j → j < Q → A (b + 15) i ≠ A (b + 15) j := by
  intro i j hij hj
  rw [List.pairwise_iff_getElem] at h
  have := h i j (by rw [qL_len]; omega) (by rw [qL_len]; omega) hij
  simpa [qL] using this
theorem qN_of {Q : Nat} (h : A (b + 14) 2 = nI Q) (h12 : Q ≤ 12) : qN A b = Q := by
  unfold qN
  rw [h, nI_clamp (by omega)]
theorem press_N {f : (Nat → Nat → Int32) → Nat → Bool} {c' : Int32 × Int32 → Bool} (hc : ∀ I', I' (b + 7) = A (b + 7) → ∀ k, f I' k = c' (I' (b + 15) k, I' (b + 16) k)) (h12 : qN A b ≤ 12) : qN (qPress f b (qN A b) A) b = ((qL A b (qN A b)).filter c').length ∧ qPress f b (qN A b) A (b + 14) 2 = nI ((qL A b (qN A b)).filter c').length ∧ qL (qPress f b (qN A b) A) b ((qL A b (qN A b)).filter c').length = (qL A b (qN A b)).filter c' := by
  have h := qPress_L (I := A) (Q := qN A b) f c' hc
  exact ⟨qN_of h.1 (Nat.le_trans qFilter_le h12), h.1, h.2⟩
theorem press_row {f : (Nat → Nat → Int32) → Nat → Bool} {Q j : Nat} (h14 : j ≠ 14) (h15 : j ≠ 15) (h16 : j ≠ 16) : qPress f b Q A (b + j) = A (b + j) := qPress_far _ (by omega) (by omega) (by omega)
theorem press_0 {f : (Nat → Nat → Int32) → Nat → Bool} {Q : Nat} : qPress f b Q A b = A b := qPress_far _ (by omega) (by omega) (by omega)
/-- the queue alone is another -/
theorem WT.queue (hW : WT A b N S U) (hf : ∀ j, j < 17 → j ≠ 14 → j ≠ 15 → j ≠ 16 → A' (b + j) = A (b + j)) (hN : A' (b + 14) 2 = nI (qN A' b) ∧ qN A' b ≤ 12) (hm : ∀ e ∈ qL A' b (qN A' b), (∃ p, p < N ∧ e.1 = nI p) ∧ ∃ s, s < S ∧ e.2 = nI s) (hp : (qL A' b (qN A' b)).Pairwise (fun e f => e.1 ≠ f.1)) : WT A' b N S U := by
  have h0 : A' b = A b := hf 0 (by decide) (by decide) (by decide) (by decide)
  have hK : pK A' b = pK A b := pK_far (hf 12 (by decide) (by decide) (by decide) (by decide))
  have h2 := hf 2 (by decide) (by decide) (by decide) (by decide)
  have h3 := hf 3 (by decide) (by decide) (by decide) (by decide)
  have h5 := hf 5 (by decide) (by decide) (by decide) (by decide)
  have h6 := hf 6 (by decide) (by decide) (by decide) (by decide)
  have h7 := hf 7 (by decide) (by decide) (by decide) (by decide)
  have h8 := hf 8 (by decide) (by decide) (by decide) (by decide)
  have h9 := hf 9 (by decide) (by decide) (by decide) (by decide)
  have h10 := hf 10 (by decide) (by decide) (by decide) (by decide)
  have h11 := hf 11 (by decide) (by decide) (by decide) (by decide)
  have h12 := hf 12 (by decide) (by decide) (by decide) (by decide)
  have h13 := hf 13 (by decide) (by decide) (by decide) (by decide)
  refine WT.intro ?_ hW.hU hW.h12 ?_ hW.h6 ?_ ?_ ?_ ?_ ?_ ?_ ?_ ?_ ?_ ?_ ?_ ?_ ?_ ?_ ?_ ?_ ?_ hN ?_ ?_ (pair_uniq hp)
  · rw [h0]; exact hW.hN
  · rw [h0]; exact hW.hS
  · rw [h0]; exact hW.hY
  · rw [h0]; exact hW.hM
  · rw [h0]; exact hW.hL
  · rw [h0]; exact hW.mis
  · rw [h2]; exact hW.worth
  · rw [h3]; exact hW.sold
  · rw [h5]; exact hW.born
  · rw [h6]; exact hW.died
  · rw [h7]; exact hW.bears
  · rw [h8]; exact hW.coins
  · rw [h9]; exact hW.wed
  · rw [h10]; exact hW.one
  · rw [h10]; exact hW.two
  · rw [h11]; exact hW.away
  · rw [h6, h11]; exact hW.dead
  · rw [h12]; exact hW.likes
  · rw [h13, hK]; exact hW.like
  · intro k hk
    exact (hm _ (qL_mem.mpr ⟨k, hk, rfl⟩)).1
  · intro k hk
    exact (hm _ (qL_mem.mpr ⟨k, hk, rfl⟩)).2
theorem WT.entry (hW : WT A b N S U) : ∀ e ∈ qL A b (qN A b), (∃ p, p < N ∧ e.1 = nI p) ∧ ∃ s, s < S ∧ e.2 = nI s := by
  intro e he
  obtain ⟨k, hk, rfl⟩ := qL_mem.mp he
  exact ⟨hW.who k hk, hW.want k hk⟩
theorem WT.press (hW : WT A b N S U) {f : (Nat → Nat → Int32) → Nat → Bool} {c' : Int32 × Int32 → Bool} (hc : ∀ I', I' (b + 7) = A (b + 7) → ∀ k, f I' k = c' (I' (b + 15) k, I' (b + 16) k)) : WT (qPress f b (qN A b) A) b N S U := by
  obtain ⟨e1, e2, e3⟩ := press_N hc hW.hQ.2
  refine hW.queue (fun j _ h14 h15 h16 => press_row h14 h15 h16) ⟨by rw [e1]; exact e2, by rw [e1]; exact Nat.le_trans qFilter_le hW.hQ.2⟩ ?_ ?_
  · rw [e1, e3]
    exact fun e he => hW.entry e (List.mem_filter.mp he).1
  · rw [e1, e3]
    exact hW.pair.filter _
/-- the coupling is one of what the queue holds -/
theorem RT.queue (h : RT A b c N S) (hf : ∀ j, j < 17 → j ≠ 14 → j ≠ 15 → j ≠ 16 → A' (b + j) = A (b + j)) (hc : ∀ j, j ≠ 5 → j < 210 → c1 j = c j) (h12 : N ≤ 12) (h6 : S ≤ 6) (hk : ∀ p, p < N → pK A b p ≤ 6) (h5 : c1 5 = A' (b + 14) 2) (hq : ∀ k, k < qN A' b → c1 (210 + k) = A' (b + 15) k ∧ c1 (222 + k) = A' (b + 16) k) : RT A' b c1 N S := by
  have h0 : A' b = A b := hf 0 (by decide) (by decide) (by decide) (by decide)
  have hK : pK A' b = pK A b := pK_far (hf 12 (by decide) (by decide) (by decide) (by decide))
  have g2 := hf 2 (by decide) (by decide) (by decide) (by decide)
  have g3 := hf 3 (by decide) (by decide) (by decide) (by decide)
  have g5 := hf 5 (by decide) (by decide) (by decide) (by decide)
  have g6 := hf 6 (by decide) (by decide) (by decide) (by decide)
  have g7 := hf 7 (by decide) (by decide) (by decide) (by decide)
  have g8 := hf 8 (by decide) (by decide) (by decide) (by decide)
  have g9 := hf 9 (by decide) (by decide) (by decide) (by decide)
  have g10 := hf 10 (by decide) (by decide) (by decide) (by decide)
  have g11 := hf 11 (by decide) (by decide) (by decide) (by decide)
  have g12 := hf 12 (by decide) (by decide) (by decide) (by decide)
  have g13 := hf 13 (by decide) (by decide) (by decide) (by decide)
  refine RT.intro ?_ ?_ ?_ ?_ ?_ h5 ?_ ?_ ?_ ?_ ?_ ?_ ?_ ?_ ?_ ?_ ?_ ?_ ?_ (fun k hk => (hq k hk).1) (fun k hk => (hq k hk).2)
  · rw [h0, hc _ (by omega) (by omega)]; exact h.n0
  · rw [h0, hc _ (by omega) (by omega)]; exact h.n1
  · rw [h0, hc _ (by omega) (by omega)]; exact h.n2
  · rw [h0, hc _ (by omega) (by omega)]; exact h.n3
  · rw [h0, hc _ (by omega) (by omega)]; exact h.n4
  · intro s hs; rw [g2, hc _ (by omega) (by omega)]; exact h.worth s hs
  · intro s hs; rw [g3, hc _ (by omega) (by omega)]; exact h.sold s hs
  · intro p hp; rw [g5, hc _ (by omega) (by omega)]; exact h.born p hp
  · intro p hp; rw [g7, hc _ (by omega) (by omega)]; exact h.bears p hp
  · intro p hp; rw [g8, hc _ (by omega) (by omega)]; exact h.coins p hp
  · intro p hp; rw [h0, hc _ (by omega) (by omega)]; exact h.miser p hp
  · intro p hp; rw [g6, hc _ (by omega) (by omega)]; exact h.died p hp
  · intro p hp; rw [g9, hc _ (by omega) (by omega)]; exact h.wed p hp
  · intro p hp; rw [g10, hc _ (by omega) (by omega)]; exact h.one p hp
  · intro p hp; rw [g10, hc _ (by omega) (by omega)]; exact h.two p hp
  · intro p hp; rw [g11, hc _ (by omega) (by omega)]; exact h.away p hp
  · intro p hp; rw [g12, hc _ (by omega) (by omega)]; exact h.likes p hp
  · intro p k hp hk2; rw [hK] at hk2; have := hk p hp; rw [g13, hc _ (by omega) (by omega)]; exact h.like p k hp hk2
theorem WT.pK6 (hW : WT A b N S U) : ∀ p, p < N → pK A b p ≤ 6 := by
  intro p hp
  obtain ⟨k, hk, e⟩ := hW.likes p hp
  unfold pK
  rw [e, nI_clamp (by omega)]
  exact hk
theorem filter_erase : ∀ (l : List (Int32 × Int32)) (k : Nat) (e : Int32 × Int32), l[k]? = some e → l.Pairwise (fun e f => e.1 ≠ f.1) → l.filter (fun a => decide (a.1 ≠ e.1)) = l.eraseIdx k
  | [], k, e, h, _ => by simp at h
  | a :: l, 0, e, h, hp => by
    have : a = e := by simpa using h
    subst this
    rw [List.pairwise_cons] at hp
    rw [List.filter_cons_of_neg (by simp), List.eraseIdx_zero, List.tail_cons]
    exact List.filter_eq_self.mpr (fun x hx => by simpa using (hp.1 x hx).symm)
  | a :: l, k + 1, e, h, hp => by
    rw [List.pairwise_cons] at hp
    have hl : l[k]? = some e := by simpa using h
    have he : e ∈ l := List.mem_of_getElem? hl
    rw [List.filter_cons_of_pos (by simpa using hp.1 e he), List.eraseIdx_cons_succ, filter_erase l k e hl hp.2]
/-- the reference's row with the one at place k dropped -/
def cDrop (c : Nat → Int32) (k Q : Nat) : Nat → Int32 := zfor (fun i c => fu (fu c (210 + i) (c (210 + i + 1))) (222 + i) (fu c (210 + i) (c (210 + i + 1)) (222 + i + 1))) k (Q - 1 - k) (fu c 5 (nI (Q - 1)))
theorem cDrop_far {k Q j : Nat} (hQ : Q ≤ 12) (h5 : j ≠ 5) (h : j < 210 ∨ 234 ≤ j) : cDrop c k Q j = c j := by
  have := zfor_inv (f := fun i (c : Nat → Int32) => fu (fu c (210 + i) (c (210 + i + 1))) (222 + i) (fu c (210 + i) (c (210 + i + 1)) (222 + i + 1))) (P := fun i x => i ≤ 12 → x j = c j) ?_ (Q - 1 - k) k (fu c 5 (nI (Q - 1))) (fun _ => fu_ne _ _ h5)
  · by_cases hk : k ≤ Q - 1
    · exact this (by omega)
    · unfold cDrop
      rw [show Q - 1 - k = 0 by omega]
      exact fu_ne _ _ h5
  · intro i x hx h12
    rw [fu_ne _ _ (by omega), fu_ne _ _ (by omega)]
    exact hx (by omega)
theorem cDrop_5 {k Q : Nat} (hQ : Q ≤ 12) : cDrop c k Q 5 = nI (Q - 1) := by
  have := zfor_inv (f := fun i (c : Nat → Int32) => fu (fu c (210 + i) (c (210 + i + 1))) (222 + i) (fu c (210 + i) (c (210 + i + 1)) (222 + i + 1))) (P := fun i x => x 5 = nI (Q - 1)) ?_ (Q - 1 - k) k (fu c 5 (nI (Q - 1))) (fu_eq _ _ _)
  · exact this
  · intro i x hx
    rw [fu_ne _ _ (by omega), fu_ne _ _ (by omega)]
    exact hx
theorem cDrop_at {k Q : Nat} (hQ : Q ≤ 12) (hk : k < Q) : ∀ j, j < Q - 1 → cDrop c k Q (210 + j) = c (210 + (if j < k then j else j + 1)) ∧ cDrop c k Q (222 + j) = c (222 + (if j < k then j else j + 1)) := by
  have := zfor_inv (f := fun i (c : Nat → Int32) => fu (fu c (210 + i) (c (210 + i + 1))) (222 + i) (fu c (210 + i) (c (210 + i + 1)) (222 + i + 1))) (P := fun i x => k ≤ i ∧ (i ≤ Q - 1 → ∀ j, j < 12 → x (210 + j) = c (210 + (if k ≤ j ∧ j < i then j + 1 else j)) ∧ x (222 + j) = c (222 + (if k ≤ j ∧ j < i then j + 1 else j)))) ?_ (Q - 1 - k) k (fu c 5 (nI (Q - 1))) ?_
  · intro j hj
    have h := this.2 (by omega) j (by omega)
    unfold cDrop
    rw [h.1, h.2]
    by_cases h1 : j < k
    · rw [if_neg (by omega), if_pos h1]
      exact ⟨rfl, rfl⟩
    · rw [if_pos (by omega), if_neg h1]
      exact ⟨rfl, rfl⟩
  · intro i x hx
    refine ⟨by omega, fun hi j hj => ?_⟩
    have h := hx.2 (by omega)
    have hki := hx.1
    have a1 := h j hj
    have a2 := h (i + 1) (by omega)
    rw [if_neg (show ¬ (k ≤ i + 1 ∧ i + 1 < i) by omega)] at a2
    by_cases e : j = i
    · subst e
      by_cases hk : k ≤ j
      · rw [if_pos (by omega), fu_ne _ _ (show 210 + j ≠ 222 + j by omega), fu_eq, fu_eq, fu_ne _ _ (show 222 + j + 1 ≠ 210 + j by omega)]
        exact ⟨a2.1, a2.2⟩
      · omega
    · rw [fu_ne _ _ (by omega), fu_ne _ _ (by omega), fu_ne _ _ (by omega), fu_ne _ _ (by omega), a1.1, a1.2]
      have : (k ≤ j ∧ j < i + 1) ↔ (k ≤ j ∧ j < i) := by omega
      simp only [this, and_self]
  · refine ⟨Nat.le_refl k, fun _ j hj => ?_⟩
    rw [if_neg (by omega), fu_ne _ _ (by omega), fu_ne _ _ (by omega)]
    exact ⟨rfl, rfl⟩
theorem RT.drop {k p : Nat} (h : RT A b c N S) (hW : WT A b N S U) (hk : k < qN A b) (hp : A (b + 15) k = nI p) : RT (qPress (fun I j => decide (I (b + 15) j ≠ nI p)) b (qN A b) A) b (cDrop c k (qN A b)) N S := by
  have hQ := hW.hQ.2
  obtain ⟨e1, e2, e3⟩ := press_N (A := A) (b := b) (f := fun I j => decide (I (b + 15) j ≠ nI p)) (c' := fun a => decide (a.1 ≠ nI p)) (fun _ _ _ => rfl) hQ
  have e4 : (qL A b (qN A b)).filter (fun a => decide (a.1 ≠ nI p)) = (qL A b (qN A b)).eraseIdx k := by
    have := filter_erase (qL A b (qN A b)) k _ (qL_get hk) hW.pair
    rw [hp] at this
    exact this
  have e5 : ((qL A b (qN A b)).filter (fun a => decide (a.1 ≠ nI p))).length = qN A b - 1 := by rw [e4, List.length_eraseIdx, qL_len, if_pos hk]
  rw [e5] at e1 e2 e3
  refine h.queue (fun j _ h14 h15 h16 => press_row h14 h15 h16) (fun j h5 h2 => cDrop_far hQ h5 (Or.inl h2)) hW.h12 hW.h6 hW.pK6 (by rw [cDrop_5 hQ, e2]) ?_
  intro j hj
  rw [e1] at hj
  have hc := cDrop_at (c := c) hQ hk j hj
  have hl : (qL (qPress (fun I j => decide (I (b + 15) j ≠ nI p)) b (qN A b) A) b (qN A b - 1))[j]? = ((qL A b (qN A b)).eraseIdx k)[j]? := by rw [e3, e4]
  rw [qL_get hj, List.getElem?_eraseIdx] at hl
  rw [hc.1, hc.2]
  by_cases h1 : j < k
  · rw [if_pos h1, qL_get (by omega)] at hl
    rw [if_pos h1, h.who _ (by omega), h.want _ (by omega)]
    simp only [Option.some.injEq, Prod.mk.injEq] at hl
    exact ⟨hl.1.symm, hl.2.symm⟩
  · rw [if_neg h1, qL_get (by omega)] at hl
    rw [if_neg h1, h.who _ (by omega), h.want _ (by omega)]
    simp only [Option.some.injEq, Prod.mk.injEq] at hl
    exact ⟨hl.1.symm, hl.2.symm⟩
/-- towns that hold the same -/
theorem RT.view (h : RT A b c N S) (hW : WT A b N S U) (hf : ∀ j, j < 17 → j ≠ 14 → j ≠ 15 → j ≠ 16 → A' (b + j) = A (b + j)) (h14 : A' (b + 14) 2 = A (b + 14) 2) (hq : qL A' b (qN A b) = qL A b (qN A b)) : RT A' b c N S := by
  have hQ : qN A' b = qN A b := by
    unfold qN
    rw [h14]
  refine h.queue hf (fun _ _ _ => rfl) hW.h12 hW.h6 hW.pK6 (by rw [h14]; exact h.n5) ?_
  intro k hk
  rw [hQ] at hk
  have hl : (qL A' b (qN A b))[k]? = (qL A b (qN A b))[k]? := by rw [hq]
  rw [qL_get hk, qL_get hk] at hl
  simp only [Option.some.injEq, Prod.mk.injEq] at hl
  rw [hl.1, hl.2]
  exact ⟨h.who k hk, h.want k hk⟩
end PR
