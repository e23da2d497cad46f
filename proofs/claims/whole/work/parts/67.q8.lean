/-! CALLS: ask -/
section QH
variable {n m : Nat} {g : Nat → zC} {I I2 T A : Nat → Nat → Int32} {J J2 : Nat → Nat → Int64} {N S N' S' : Nat} {c' : Nat → Int32}
theorem drop_len (a : Nat) : ∀ l : List Nat, l.Pairwise (fun x y => x ≠ y) → l.length ≤ (l.filter (fun x => decide (x ≠ a))).length + 1
  | [], _ => by simp
  | x :: l, h => by
    rw [List.pairwise_cons] at h
    by_cases e : x = a
    · subst e
      rw [List.filter_cons_of_neg (by simp), List.filter_eq_self.mpr (fun y hy => by simpa using (h.1 y hy).symm)]
      simp
    · rw [List.filter_cons_of_pos (by simpa using e)]
      have := drop_len a l h.2
      simp only [List.length_cons]
      omega
theorem nodup_len : ∀ (N : Nat) (l : List Nat), l.Pairwise (fun x y => x ≠ y) → (∀ x ∈ l, x < N) → l.length ≤ N
  | 0, l, _, h => by
    cases l with
    | nil => simp
    | cons x l => exact absurd (h x (List.mem_cons_self ..)) (by omega)
  | N + 1, l, hp, h => by
    have h1 := nodup_len N (l.filter (fun x => decide (x ≠ N))) (hp.filter _) (fun x hx => by
      have h2 := List.mem_filter.mp hx
      have h3 := h x h2.1
      have h4 : x ≠ N := by simpa using h2.2
      omega)
    have := drop_len N l hp
    omega
def qAdd (A : Nat → Nat → Int32) (b Q : Nat) (x y : Int32) : Nat → Nat → Int32 := zu (zu (zu A (b + 15) Q x) (b + 16) Q y) (b + 14) 2 (nI (Q + 1))
theorem WT.room {A : Nat → Nat → Int32} {b U p : Nat} (hW : WT A b N S U) (hp : p < N) (hno : ∀ k, k < qN A b → A (b + 15) k ≠ nI p) : qN A b < 12 := by
  have h12 := hW.h12
  have h := nodup_len N (p :: (qL A b (qN A b)).map (fun e => e.1.toNatClampNeg)) (by
    rw [List.pairwise_cons]
    refine ⟨fun y hy => ?_, ?_⟩
    · obtain ⟨e, he, rfl⟩ := List.mem_map.mp hy
      obtain ⟨k, hk, rfl⟩ := qL_mem.mp he
      obtain ⟨q, hq, eq⟩ := hW.who k hk
      have := hno k hk
      rw [eq] at this
      simp only [eq, nI_clamp (show q < 2 ^ 31 by omega)]
      exact fun e => this (by rw [e])
    · rw [List.pairwise_map]
      refine hW.pair.imp_of_mem (fun {x y} hx hy hxy => ?_)
      obtain ⟨⟨q, hq, eq⟩, _⟩ := hW.entry x hx
      obtain ⟨⟨r, hr, er⟩, _⟩ := hW.entry y hy
      rw [eq, er, nI_clamp (by omega), nI_clamp (by omega)]
      exact fun e => hxy (by rw [eq, er, e])) (fun x hx => by
    rcases List.mem_cons.mp hx with rfl | hx
    · exact hp
    · obtain ⟨e, he, rfl⟩ := List.mem_map.mp hx
      obtain ⟨⟨q, hq, eq⟩, _⟩ := hW.entry e he
      rw [eq, nI_clamp (by omega)]
      exact hq)
  rw [List.length_cons, List.length_map, qL_len] at h
  omega
theorem add_N {A : Nat → Nat → Int32} {b Q : Nat} {x y : Int32} (h : Q < 12) : qN (qAdd A b Q x y) b = Q + 1 ∧ qAdd A b Q x y (b + 14) 2 = nI (Q + 1) := by
  have : qAdd A b Q x y (b + 14) 2 = nI (Q + 1) := by
    unfold qAdd
    rw [zu_row, if_pos rfl]
  exact ⟨qN_of this (by omega), this⟩
theorem add_15 {A : Nat → Nat → Int32} {b Q k : Nat} {x y : Int32} : qAdd A b Q x y (b + 15) k = if k = Q then x else A (b + 15) k := by
  unfold qAdd
  rw [zu_oo (i := 14) (j := 15) (by decide), zu_oo (i := 16) (j := 15) (by decide), zu_row]
theorem add_16 {A : Nat → Nat → Int32} {b Q k : Nat} {x y : Int32} : qAdd A b Q x y (b + 16) k = if k = Q then y else A (b + 16) k := by
  unfold qAdd
  rw [zu_oo (i := 14) (j := 16) (by decide), zu_row, zu_oo (i := 15) (j := 16) (by decide)]
theorem add_row {A : Nat → Nat → Int32} {b Q j : Nat} {x y : Int32} (h14 : j ≠ 14) (h15 : j ≠ 15) (h16 : j ≠ 16) : qAdd A b Q x y (b + j) = A (b + j) := by
  unfold qAdd
  rw [zu_far _ _ _ (by omega), zu_far _ _ _ (by omega), zu_far _ _ _ (by omega)]
theorem WT.enq {A : Nat → Nat → Int32} {b U p s : Nat} (hW : WT A b N S U) (hp : p < N) (hs : s < S) (hno : ∀ k, k < qN A b → A (b + 15) k ≠ nI p) : WT (qAdd A b (qN A b) (nI p) (nI s)) b N S U := by
  have hQ := hW.room hp hno
  have hN := add_N (A := A) (b := b) (x := nI p) (y := nI s) hQ
  refine hW.queue (fun j _ h1 h2 h3 => add_row h1 h2 h3) ⟨by rw [hN.1]; exact hN.2, by rw [hN.1]; omega⟩ ?_ ?_
  · intro e he
    rw [hN.1] at he
    obtain ⟨k, hk, rfl⟩ := qL_mem.mp he
    simp only [add_15, add_16]
    by_cases h : k = qN A b
    · simp only [h, if_true]
      exact ⟨⟨p, hp, rfl⟩, ⟨s, hs, rfl⟩⟩
    · simp only [h, if_false]
      exact ⟨hW.who k (by omega), hW.want k (by omega)⟩
  · rw [hN.1, List.pairwise_iff_getElem]
    intro i j hi hj hij
    rw [qL_len] at hi hj
    simp only [qL, List.getElem_map, List.getElem_range, add_15]
    by_cases h : j = qN A b
    · rw [if_neg (by omega), if_pos h]
      exact hno i (by omega)
    · rw [if_neg (by omega), if_neg h]
      exact hW.uniq i j hij (by omega)
theorem RT.enq {A : Nat → Nat → Int32} {b U : Nat} {x y : Int32} {c : Nat → Int32} (hR : RT A b c N S) (hW : WT A b N S U) (hQ : qN A b < 12) : RT (qAdd A b (qN A b) x y) b (fu (fu (fu c (210 + qN A b) x) (222 + qN A b) y) 5 (nI (qN A b + 1))) N S := by
  have hN := add_N (A := A) (b := b) (x := x) (y := y) hQ
  refine hR.queue (fun j _ h1 h2 h3 => add_row h1 h2 h3) (fun j h5 h2 => by rw [fu_ne _ _ h5, fu_ne _ _ (by omega), fu_ne _ _ (by omega)]) hW.h12 hW.h6 hW.pK6 (by rw [fu_eq, hN.2]) ?_
  intro k hk
  rw [hN.1] at hk
  rw [add_15, add_16]
  refine ⟨?_, ?_⟩
  · rw [fu_ne _ _ (by omega), fu_ne _ _ (by omega)]
    by_cases h : k = qN A b
    · rw [if_pos h, h, fu_eq]
    · rw [if_neg h, fu_ne _ _ (by omega)]
      exact hR.who k (by omega)
  · rw [fu_ne _ _ (by omega)]
    by_cases h : k = qN A b
    · rw [if_pos h, h, fu_eq]
    · rw [if_neg h, fu_ne _ _ (by omega), fu_ne _ _ (by omega)]
      exact hR.want k (by omega)
theorem press_no {A : Nat → Nat → Int32} {b p : Nat} {U : Nat} (hW : WT A b N S U) : ∀ k, k < qN (qPress (fun I j => decide (I (b + 15) j ≠ nI p)) b (qN A b) A) b → qPress (fun I j => decide (I (b + 15) j ≠ nI p)) b (qN A b) A (b + 15) k ≠ nI p := by
  obtain ⟨e1, e2, e3⟩ := press_N (A := A) (b := b) (f := fun I j => decide (I (b + 15) j ≠ nI p)) (c' := fun a => decide (a.1 ≠ nI p)) (fun _ _ _ => rfl) hW.hQ.2
  intro k hk
  rw [e1] at hk
  have : (qPress (fun I j => decide (I (b + 15) j ≠ nI p)) b (qN A b) A (b + 15) k, qPress (fun I j => decide (I (b + 15) j ≠ nI p)) b (qN A b) A (b + 16) k) ∈ (qL A b (qN A b)).filter (fun a => decide (a.1 ≠ nI p)) := by
    rw [← e3]
    exact qL_mem.mpr ⟨k, hk, rfl⟩
  have h2 := (List.mem_filter.mp this).2
  simpa using h2
theorem RT.nodrop {A : Nat → Nat → Int32} {b p U : Nat} {c : Nat → Int32} (hR : RT A b c N S) (hW : WT A b N S U) (hno : ∀ k, k < qN A b → A (b + 15) k ≠ nI p) : RT (qPress (fun I j => decide (I (b + 15) j ≠ nI p)) b (qN A b) A) b c N S ∧ qN (qPress (fun I j => decide (I (b + 15) j ≠ nI p)) b (qN A b) A) b = qN A b := by
  have hpn := press_N (A := A) (b := b) (f := fun I j => decide (I (b + 15) j ≠ nI p)) (c' := fun a => decide (a.1 ≠ nI p)) (fun _ _ _ => rfl) hW.hQ.2
  have hfil : (qL A b (qN A b)).filter (fun a => decide (a.1 ≠ nI p)) = qL A b (qN A b) := List.filter_eq_self.mpr (fun a ha => by
    obtain ⟨k, hk, rfl⟩ := qL_mem.mp ha
    simpa using hno k hk)
  rw [hfil, qL_len] at hpn
  refine ⟨hR.view hW (fun j _ h1 h2 h3 => press_row h1 h2 h3) ?_ hpn.2.2, hpn.1⟩
  rw [hpn.2.1]
  exact hW.hQ.1.symm
theorem q_ask {x : Int32} {y : Int32} (h : Inv I J N S) (d : Nat) : Eqv (d + 30) 180 354 [.int x, .int y] n m g I J := by
  have hW := h.W
  have h12 := hW.h12
  have h6 := hW.h6
  have hQ12 := hW.hQ.2
  rcases p_cases x N with ⟨p, hp, rfl⟩ | hx
  · rcases p_cases y S with ⟨s, hs, rfl⟩ | hx
    · by_cases ga : I (16 + 6) p = -1 ∧ I (16 + 7) p ≠ nI s ∧ (qPlace I 16 (nI p) (qN I 16) = -1 ∨ I (16 + 16) (qPlace I 16 (nI p) (qN I 16)).toNatClampNeg ≠ nI s)
      · have g1 := ga.1
        have g2 : ¬ I (16 + 7) p = nI s := ga.2.1
        rcases qPlace_case (A := I) (b := 16) (x := nI p) hW.hQ.2 with ⟨e1, e2⟩ | ⟨k, hk, e1, e2⟩
        · have wP : WT (qPress (fun I j => decide (I (16 + 15) j ≠ nI p)) 16 (qN I 16) I) 16 N S 2999 := hW.press (c' := fun e => decide (e.1 ≠ nI p)) (fun _ _ _ => rfl)
          have hQ := wP.room hp (press_no hW)
          have wB : WT (qAdd (qPress (fun I j => decide (I (16 + 15) j ≠ nI p)) 16 (qN I 16) I) 16 (qN (qPress (fun I j => decide (I (16 + 15) j ≠ nI p)) 16 (qN I 16) I) 16) (nI p) (nI s)) 16 N S 2999 := wP.enq hp hs (press_no hW)
          have w1 := wB.settle
          have hT : ∀ a, (∀ i, i < 17 → a ≠ 16 + i) → (tSettle (qAdd (qPress (fun I j => decide (I (16 + 15) j ≠ nI p)) 16 (qN I 16) I) 16 (qN (qPress (fun I j => decide (I (16 + 15) j ≠ nI p)) 16 (qN I 16) I) 16) (nI p) (nI s)) 16 N) a = I a := fun a ha => by rw [settle_out ha, qAdd, zu_out (by decide) ha, zu_out (by decide) ha, zu_out (by decide) ha, qPress_far _ (ha 14 (by decide)) (ha 15 (by decide)) (ha 16 (by decide))]
          have hR1 : RT I 16 ((zu (zu (zu (tSettle (qAdd (qPress (fun I j => decide (I (16 + 15) j ≠ nI p)) 16 (qN I 16) I) 16 (qN (qPress (fun I j => decide (I (16 + 15) j ≠ nI p)) 16 (qN I 16) I) 16) (nI p) (nI s)) 16 N) 3 0 0) 143 1 0) 143 0 0) 148) N S := h.R1 hT
          have rP : RT (qPress (fun I j => decide (I (16 + 15) j ≠ nI p)) 16 (qN I 16) I) 16 ((zu (zu (zu (tSettle (qAdd (qPress (fun I j => decide (I (16 + 15) j ≠ nI p)) 16 (qN I 16) I) 16 (qN (qPress (fun I j => decide (I (16 + 15) j ≠ nI p)) 16 (qN I 16) I) 16) (nI p) (nI s)) 16 N) 3 0 0) 143 1 0) 143 0 0) 148) N S := (hR1.nodrop hW e2).1
          have r2 : RT (qAdd (qPress (fun I j => decide (I (16 + 15) j ≠ nI p)) 16 (qN I 16) I) 16 (qN (qPress (fun I j => decide (I (16 + 15) j ≠ nI p)) 16 (qN I 16) I) 16) (nI p) (nI s)) 16 (fu (fu (fu ((zu (zu (zu (tSettle (qAdd (qPress (fun I j => decide (I (16 + 15) j ≠ nI p)) 16 (qN I 16) I) 16 (qN (qPress (fun I j => decide (I (16 + 15) j ≠ nI p)) 16 (qN I 16) I) 16) (nI p) (nI s)) 16 N) 3 0 0) 143 1 0) 143 0 0) 148) (210 + qN (qPress (fun I j => decide (I (16 + 15) j ≠ nI p)) 16 (qN I 16) I) 16) (nI p)) (222 + qN (qPress (fun I j => decide (I (16 + 15) j ≠ nI p)) 16 (qN I 16) I) 16) (nI s)) 5 (nI (qN (qPress (fun I j => decide (I (16 + 15) j ≠ nI p)) 16 (qN I 16) I) 16 + 1))) N S := rP.enq wP hQ
          obtain ⟨c3, e3, r3, f3'⟩ := v_settles (n := n) (m := m) (g := g) (J := J) (I := zr (zu (zu (zu (tSettle (qAdd (qPress (fun I j => decide (I (16 + 15) j ≠ nI p)) 16 (qN I 16) I) 16 (qN (qPress (fun I j => decide (I (16 + 15) j ≠ nI p)) 16 (qN I 16) I) 16) (nI p) (nI s)) 16 N) 3 0 0) 143 1 0) 143 0 0) 148 (fu (fu (fu ((zu (zu (zu (tSettle (qAdd (qPress (fun I j => decide (I (16 + 15) j ≠ nI p)) 16 (qN I 16) I) 16 (qN (qPress (fun I j => decide (I (16 + 15) j ≠ nI p)) 16 (qN I 16) I) 16) (nI p) (nI s)) 16 N) 3 0 0) 143 1 0) 143 0 0) 148) (210 + qN (qPress (fun I j => decide (I (16 + 15) j ≠ nI p)) 16 (qN I 16) I) 16) (nI p)) (222 + qN (qPress (fun I j => decide (I (16 + 15) j ≠ nI p)) 16 (qN I 16) I) 16) (nI s)) 5 (nI (qN (qPress (fun I j => decide (I (16 + 15) j ≠ nI p)) 16 (qN I 16) I) 16 + 1)))) wB (by rw [zr_same]; exact r2) (d + 26)
          rw [zr_zr] at e3
          rw [zr_same] at f3'
          have f3 : ∀ j, 234 ≤ j → c3 j = (zu (zu (zu (tSettle (qAdd (qPress (fun I j => decide (I (16 + 15) j ≠ nI p)) 16 (qN I 16) I) 16 (qN (qPress (fun I j => decide (I (16 + 15) j ≠ nI p)) 16 (qN I 16) I) 16) (nI p) (nI s)) 16 N) 3 0 0) 143 1 0) 143 0 0) 148 j := fun j hj => by rw [f3' j hj, fu_ne _ _ (by omega), fu_ne _ _ (by omega), fu_ne _ _ (by omega)]
          have ta : zu (zu (zu (qPress (fun I j => decide (I (16 + 15) j ≠ nI p)) 16 (qN I 16) I) (16 + 15) (qN (qPress (fun I j => decide (I (16 + 15) j ≠ nI p)) 16 (qN I 16) I) 16) (nI p)) (16 + 16) (qN (qPress (fun I j => decide (I (16 + 15) j ≠ nI p)) 16 (qN I 16) I) 16) (nI s)) (16 + 14) 2 (nI (qN (qPress (fun I j => decide (I (16 + 15) j ≠ nI p)) 16 (qN I 16) I) 16 + 1)) = (qAdd (qPress (fun I j => decide (I (16 + 15) j ≠ nI p)) 16 (qN I 16) I) 16 (qN (qPress (fun I j => decide (I (16 + 15) j ≠ nI p)) 16 (qN I 16) I) 16) (nI p) (nI s)) := rfl
          have h5 : ((zu (zu (zu (tSettle (qAdd (qPress (fun I j => decide (I (16 + 15) j ≠ nI p)) 16 (qN I 16) I) 16 (qN (qPress (fun I j => decide (I (16 + 15) j ≠ nI p)) 16 (qN I 16) I) 16) (nI p) (nI s)) 16 N) 3 0 0) 143 1 0) 143 0 0) 148) 5 = nI (qN (qPress (fun I j => decide (I (16 + 15) j ≠ nI p)) 16 (qN I 16) I) 16) := by rw [rP.n5]; exact wP.hQ.1
          have h55 : fu ((zu (zu (zu (tSettle (qAdd (qPress (fun I j => decide (I (16 + 15) j ≠ nI p)) 16 (qN I 16) I) 16 (qN (qPress (fun I j => decide (I (16 + 15) j ≠ nI p)) 16 (qN I 16) I) 16) (nI p) (nI s)) 16 N) 3 0 0) 143 1 0) 143 0 0) 148) (210 + qN (qPress (fun I j => decide (I (16 + 15) j ≠ nI p)) 16 (qN I 16) I) 16) (nI p) 5 = nI (qN (qPress (fun I j => decide (I (16 + 15) j ≠ nI p)) 16 (qN I 16) I) 16) := by rw [fu_ne _ _ (by omega)]; exact h5
          have h56 : fu (fu ((zu (zu (zu (tSettle (qAdd (qPress (fun I j => decide (I (16 + 15) j ≠ nI p)) 16 (qN I 16) I) 16 (qN (qPress (fun I j => decide (I (16 + 15) j ≠ nI p)) 16 (qN I 16) I) 16) (nI p) (nI s)) 16 N) 3 0 0) 143 1 0) 143 0 0) 148) (210 + qN (qPress (fun I j => decide (I (16 + 15) j ≠ nI p)) 16 (qN I 16) I) 16) (nI p)) (222 + qN (qPress (fun I j => decide (I (16 + 15) j ≠ nI p)) 16 (qN I 16) I) 16) (nI s) 5 = nI (qN (qPress (fun I j => decide (I (16 + 15) j ≠ nI p)) 16 (qN I 16) I) 16) := by rw [fu_ne _ _ (by omega)]; exact h55
          have h5c : c3 5 = nI (qN (tSettle (qAdd (qPress (fun I j => decide (I (16 + 15) j ≠ nI p)) 16 (qN I 16) I) 16 (qN (qPress (fun I j => decide (I (16 + 15) j ≠ nI p)) 16 (qN I 16) I) 16) (nI p) (nI s)) 16 N) 16) := by rw [r3.n5]; exact w1.hQ.1
          refine ⟨.int (nI (qN (tSettle (qAdd (qPress (fun I j => decide (I (16 + 15) j ≠ nI p)) 16 (qN I 16) I) 16 (qN (qPress (fun I j => decide (I (16 + 15) j ≠ nI p)) 16 (qN I 16) I) 16) (nI p) (nI s)) 16 N) 16)), zu (tSettle (qAdd (qPress (fun I j => decide (I (16 + 15) j ≠ nI p)) 16 (qN I 16) I) 16 (qN (qPress (fun I j => decide (I (16 + 15) j ≠ nI p)) 16 (qN I 16) I) 16) (nI p) (nI s)) 16 N) 3 0 0, J, st 0 (zr (tSettle (qAdd (qPress (fun I j => decide (I (16 + 15) j ≠ nI p)) 16 (qN I 16) I) 16 (qN (qPress (fun I j => decide (I (16 + 15) j ≠ nI p)) 16 (qN I 16) I) 16) (nI p) (nI s)) 16 N) 148 c3), J, N, S, ?_, ?_, h.fin w1 hT r3 f3⟩
          · rw [m_X11_ask]
            simp only [e_X11_ask_0, e_X11_ask_1, e_X11_ask_4, e_X11_ask_5, e_X11_ask_8, e_X11_ask_11, e_X11_ask_12, e_X11_ask_15, e_X11_ask_16, e_X11_ask_19, e_X11_ask_22, e_X11_ask_23, e_X11_ask_24, e_X11_ask_27, e_X11_ask_28, e_X11_ask_29, e_X11_ask_32, e_X11_ask_33, e_X11_ask_34, e_X11_ask_37, e_X11_ask_40, e_X11_ask_41, e_X11_ask_43, e_X11_ask_46, e_X11_ask_47, e_X11_ask_48, e_X11_ask_51, e_X11_ask_54, e_X11_ask_55, e_X11_ask_58, e_X11_ask_59, e_X11_ask_62, e_X11_ask_65, e_X11_ask_66, e_X11_ask_67, e_X11_ask_70, e_X11_ask_71, e_X11_ask_74, e_X11_ask_77, e_X11_ask_78, e_X11_ask_79, e_X11_ask_82, e_X11_ask_85, e_X11_ask_88, e_X11_ask_91, c_3, c_4, c_T0 t16, g_3_3, g_3_5, g_3_7, g_3_8, n_refuse, n_deny, n_answer, n_grant, t_hasP_yes t16 hW.hN h12 hp, t_hasS_yes t16 hW.hS h6 hs, t_canAsk t16 (show p < 12 by omega) hW.hQ.1 hW.hQ.2, bI_t ga, g_T0_19 t16, c_T14 t16, q_drop t16 hW.hQ.1 hW.hQ.2, q_add t16 wP.hQ.1 hQ, ta, g_T14_2 t16, w1.hQ.1, t_settle t16 wB.hN h12 wB.qWell, n_done wB.hN h12 wB.qWell, Option.bind_some, Option.isSome_some, Option.toList, List.cons_append, List.nil_append, zclr_i, zclr_r, zclr_n, zfit_i, zfit_l, and_self, if_true, if_false] <;> first | rfl | simp
          · rw [m_X12_ask, ← st_zr]
            simp only [e_X12_ask_0, e_X12_ask_1, e_X12_ask_2, e_X12_ask_5, e_X12_ask_6, e_X12_ask_7, e_X12_ask_10, e_X12_ask_11, e_X12_ask_12, e_X12_ask_15, e_X12_ask_18, e_X12_ask_19, e_X12_ask_20, e_X12_ask_23, e_X12_ask_26, e_X12_ask_27, e_X12_ask_28, e_X12_ask_31, e_X12_ask_32, e_X12_ask_33, e_X12_ask_34, e_X12_ask_37, e_X12_ask_38, e_X12_ask_39, e_X12_ask_40, e_X12_ask_43, e_X12_ask_46, e_X12_ask_47, e_X12_ask_50, e_X12_ask_52, e_X12_ask_53, e_X12_ask_54, e_X12_ask_55, e_X12_ask_56, e_X12_ask_59, e_X12_ask_60, e_X12_ask_63, e_X12_ask_64, e_X12_ask_67, e_X12_ask_70, e_X12_ask_71, e_X12_ask_72, e_X12_ask_73, e_X12_ask_74, e_X12_ask_77, e_X12_ask_78, e_X12_ask_80, e_X12_ask_83, e_X12_ask_84, e_X12_ask_85, e_X12_ask_88, e_X12_ask_89, e_X12_ask_90, e_X12_ask_93, e_X12_ask_94, e_X12_ask_97, e_X12_ask_100, e_X12_ask_101, e_X12_ask_104, e_X12_ask_105, e_X12_ask_106, e_X12_ask_107, e_X12_ask_108, e_X12_ask_109, e_X12_ask_110, e_X12_ask_113, e_X12_ask_116, e_X12_ask_117, e_X12_ask_120, e_X12_ask_121, e_X12_ask_122, e_X12_ask_123, e_X12_ask_124, e_X12_ask_125, e_X12_ask_126, e_X12_ask_129, e_X12_ask_130, e_X12_ask_131, e_X12_ask_132, e_X12_ask_133, e_X12_ask_134, e_X12_ask_135, e_X12_ask_136, e_X12_ask_139, e_X12_ask_140, e_X12_ask_143, e_X12_ask_144, e_X12_ask_145, c_143, g_143_0, g_143_1, p_143_0, p_143_1, v_refuse, v_no, st_eq, v_isP_yes hW hR1 hp, v_isS_yes hW hR1 hs, v_placeOf hW hR1, v_lives hW hR1 hp, cA_6, cA_12, cA_18, cA_30, cA_42, cA_54, cA_66, cA_78, cA_90, cA_102, cA_114, cA_126, cA_138, cA_210, cA_222, lc_0, lc_1, lc_2, lc_3, lc_4, lc_5, g_143_20, q_148, nI_neg (show 30 + p < 2 ^ 31 by omega), nI_clamp (show 30 + p < 2 ^ 31 by omega), k_148 (show 30 + p < 2530 by omega), l_148 (show 30 + p < 2530 by omega), nI_neg (show 210 + qN (qPress (fun I j => decide (I (16 + 15) j ≠ nI p)) 16 (qN I 16) I) 16 < 2 ^ 31 by omega), nI_clamp (show 210 + qN (qPress (fun I j => decide (I (16 + 15) j ≠ nI p)) 16 (qN I 16) I) 16 < 2 ^ 31 by omega), k_148 (show 210 + qN (qPress (fun I j => decide (I (16 + 15) j ≠ nI p)) 16 (qN I 16) I) 16 < 2530 by omega), l_148 (show 210 + qN (qPress (fun I j => decide (I (16 + 15) j ≠ nI p)) 16 (qN I 16) I) 16 < 2530 by omega), nI_neg (show 222 + qN (qPress (fun I j => decide (I (16 + 15) j ≠ nI p)) 16 (qN I 16) I) 16 < 2 ^ 31 by omega), nI_clamp (show 222 + qN (qPress (fun I j => decide (I (16 + 15) j ≠ nI p)) 16 (qN I 16) I) 16 < 2 ^ 31 by omega), k_148 (show 222 + qN (qPress (fun I j => decide (I (16 + 15) j ≠ nI p)) 16 (qN I 16) I) 16 < 2530 by omega), l_148 (show 222 + qN (qPress (fun I j => decide (I (16 + 15) j ≠ nI p)) 16 (qN I 16) I) 16 < 2530 by omega), hR1.bears p hp, e1, g1, g2, decide_true, bI, zr_same, h5, h55, h56, cA_210, cA_222, nI_1, ltc_5, clc_5, k_148 (show 5 < 2530 by decide), zu_148, zr_zr, h5c, e3, Option.bind_some, Option.isSome_some, Option.toList, List.cons_append, List.nil_append, zclr_i, zclr_r, zclr_n, zfit_i, zfit_l, and_self, if_true, if_false] <;> first | rfl | simp
        · have g3 : ¬ I (16 + 16) k = nI s := by
            rcases ga.2.2 with e | e
            · rw [e1] at e
              exact absurd e (nI_m1 (by omega))
            · rw [e1, nI_clamp (by omega)] at e
              exact e
          have wP : WT (qPress (fun I j => decide (I (16 + 15) j ≠ nI p)) 16 (qN I 16) I) 16 N S 2999 := hW.press (c' := fun e => decide (e.1 ≠ nI p)) (fun _ _ _ => rfl)
          have hQ := wP.room hp (press_no hW)
          have wB : WT (qAdd (qPress (fun I j => decide (I (16 + 15) j ≠ nI p)) 16 (qN I 16) I) 16 (qN (qPress (fun I j => decide (I (16 + 15) j ≠ nI p)) 16 (qN I 16) I) 16) (nI p) (nI s)) 16 N S 2999 := wP.enq hp hs (press_no hW)
          have w1 := wB.settle
          have hT : ∀ a, (∀ i, i < 17 → a ≠ 16 + i) → (tSettle (qAdd (qPress (fun I j => decide (I (16 + 15) j ≠ nI p)) 16 (qN I 16) I) 16 (qN (qPress (fun I j => decide (I (16 + 15) j ≠ nI p)) 16 (qN I 16) I) 16) (nI p) (nI s)) 16 N) a = I a := fun a ha => by rw [settle_out ha, qAdd, zu_out (by decide) ha, zu_out (by decide) ha, zu_out (by decide) ha, qPress_far _ (ha 14 (by decide)) (ha 15 (by decide)) (ha 16 (by decide))]
          have hR1 : RT I 16 ((zu (zu (zu (tSettle (qAdd (qPress (fun I j => decide (I (16 + 15) j ≠ nI p)) 16 (qN I 16) I) 16 (qN (qPress (fun I j => decide (I (16 + 15) j ≠ nI p)) 16 (qN I 16) I) 16) (nI p) (nI s)) 16 N) 3 0 0) 143 1 0) 143 0 0) 148) N S := h.R1 hT
          have rP : RT (qPress (fun I j => decide (I (16 + 15) j ≠ nI p)) 16 (qN I 16) I) 16 (cDrop ((zu (zu (zu (tSettle (qAdd (qPress (fun I j => decide (I (16 + 15) j ≠ nI p)) 16 (qN I 16) I) 16 (qN (qPress (fun I j => decide (I (16 + 15) j ≠ nI p)) 16 (qN I 16) I) 16) (nI p) (nI s)) 16 N) 3 0 0) 143 1 0) 143 0 0) 148) k (qN I 16)) N S := hR1.drop hW hk e2
          have r2 : RT (qAdd (qPress (fun I j => decide (I (16 + 15) j ≠ nI p)) 16 (qN I 16) I) 16 (qN (qPress (fun I j => decide (I (16 + 15) j ≠ nI p)) 16 (qN I 16) I) 16) (nI p) (nI s)) 16 (fu (fu (fu (cDrop ((zu (zu (zu (tSettle (qAdd (qPress (fun I j => decide (I (16 + 15) j ≠ nI p)) 16 (qN I 16) I) 16 (qN (qPress (fun I j => decide (I (16 + 15) j ≠ nI p)) 16 (qN I 16) I) 16) (nI p) (nI s)) 16 N) 3 0 0) 143 1 0) 143 0 0) 148) k (qN I 16)) (210 + qN (qPress (fun I j => decide (I (16 + 15) j ≠ nI p)) 16 (qN I 16) I) 16) (nI p)) (222 + qN (qPress (fun I j => decide (I (16 + 15) j ≠ nI p)) 16 (qN I 16) I) 16) (nI s)) 5 (nI (qN (qPress (fun I j => decide (I (16 + 15) j ≠ nI p)) 16 (qN I 16) I) 16 + 1))) N S := rP.enq wP hQ
          obtain ⟨c3, e3, r3, f3'⟩ := v_settles (n := n) (m := m) (g := g) (J := J) (I := zr (zu (zu (zu (tSettle (qAdd (qPress (fun I j => decide (I (16 + 15) j ≠ nI p)) 16 (qN I 16) I) 16 (qN (qPress (fun I j => decide (I (16 + 15) j ≠ nI p)) 16 (qN I 16) I) 16) (nI p) (nI s)) 16 N) 3 0 0) 143 1 0) 143 0 0) 148 (fu (fu (fu (cDrop ((zu (zu (zu (tSettle (qAdd (qPress (fun I j => decide (I (16 + 15) j ≠ nI p)) 16 (qN I 16) I) 16 (qN (qPress (fun I j => decide (I (16 + 15) j ≠ nI p)) 16 (qN I 16) I) 16) (nI p) (nI s)) 16 N) 3 0 0) 143 1 0) 143 0 0) 148) k (qN I 16)) (210 + qN (qPress (fun I j => decide (I (16 + 15) j ≠ nI p)) 16 (qN I 16) I) 16) (nI p)) (222 + qN (qPress (fun I j => decide (I (16 + 15) j ≠ nI p)) 16 (qN I 16) I) 16) (nI s)) 5 (nI (qN (qPress (fun I j => decide (I (16 + 15) j ≠ nI p)) 16 (qN I 16) I) 16 + 1)))) wB (by rw [zr_same]; exact r2) (d + 26)
          rw [zr_zr] at e3
          rw [zr_same] at f3'
          have f3 : ∀ j, 234 ≤ j → c3 j = (zu (zu (zu (tSettle (qAdd (qPress (fun I j => decide (I (16 + 15) j ≠ nI p)) 16 (qN I 16) I) 16 (qN (qPress (fun I j => decide (I (16 + 15) j ≠ nI p)) 16 (qN I 16) I) 16) (nI p) (nI s)) 16 N) 3 0 0) 143 1 0) 143 0 0) 148 j := fun j hj => by rw [f3' j hj, fu_ne _ _ (by omega), fu_ne _ _ (by omega), fu_ne _ _ (by omega), cDrop_far hW.hQ.2 (by omega) (Or.inr hj)]
          have ta : zu (zu (zu (qPress (fun I j => decide (I (16 + 15) j ≠ nI p)) 16 (qN I 16) I) (16 + 15) (qN (qPress (fun I j => decide (I (16 + 15) j ≠ nI p)) 16 (qN I 16) I) 16) (nI p)) (16 + 16) (qN (qPress (fun I j => decide (I (16 + 15) j ≠ nI p)) 16 (qN I 16) I) 16) (nI s)) (16 + 14) 2 (nI (qN (qPress (fun I j => decide (I (16 + 15) j ≠ nI p)) 16 (qN I 16) I) 16 + 1)) = (qAdd (qPress (fun I j => decide (I (16 + 15) j ≠ nI p)) 16 (qN I 16) I) 16 (qN (qPress (fun I j => decide (I (16 + 15) j ≠ nI p)) 16 (qN I 16) I) 16) (nI p) (nI s)) := rfl
          have h5 : (cDrop ((zu (zu (zu (tSettle (qAdd (qPress (fun I j => decide (I (16 + 15) j ≠ nI p)) 16 (qN I 16) I) 16 (qN (qPress (fun I j => decide (I (16 + 15) j ≠ nI p)) 16 (qN I 16) I) 16) (nI p) (nI s)) 16 N) 3 0 0) 143 1 0) 143 0 0) 148) k (qN I 16)) 5 = nI (qN (qPress (fun I j => decide (I (16 + 15) j ≠ nI p)) 16 (qN I 16) I) 16) := by rw [rP.n5]; exact wP.hQ.1
          have h55 : fu (cDrop ((zu (zu (zu (tSettle (qAdd (qPress (fun I j => decide (I (16 + 15) j ≠ nI p)) 16 (qN I 16) I) 16 (qN (qPress (fun I j => decide (I (16 + 15) j ≠ nI p)) 16 (qN I 16) I) 16) (nI p) (nI s)) 16 N) 3 0 0) 143 1 0) 143 0 0) 148) k (qN I 16)) (210 + qN (qPress (fun I j => decide (I (16 + 15) j ≠ nI p)) 16 (qN I 16) I) 16) (nI p) 5 = nI (qN (qPress (fun I j => decide (I (16 + 15) j ≠ nI p)) 16 (qN I 16) I) 16) := by rw [fu_ne _ _ (by omega)]; exact h5
          have h56 : fu (fu (cDrop ((zu (zu (zu (tSettle (qAdd (qPress (fun I j => decide (I (16 + 15) j ≠ nI p)) 16 (qN I 16) I) 16 (qN (qPress (fun I j => decide (I (16 + 15) j ≠ nI p)) 16 (qN I 16) I) 16) (nI p) (nI s)) 16 N) 3 0 0) 143 1 0) 143 0 0) 148) k (qN I 16)) (210 + qN (qPress (fun I j => decide (I (16 + 15) j ≠ nI p)) 16 (qN I 16) I) 16) (nI p)) (222 + qN (qPress (fun I j => decide (I (16 + 15) j ≠ nI p)) 16 (qN I 16) I) 16) (nI s) 5 = nI (qN (qPress (fun I j => decide (I (16 + 15) j ≠ nI p)) 16 (qN I 16) I) 16) := by rw [fu_ne _ _ (by omega)]; exact h55
          have h5c : c3 5 = nI (qN (tSettle (qAdd (qPress (fun I j => decide (I (16 + 15) j ≠ nI p)) 16 (qN I 16) I) 16 (qN (qPress (fun I j => decide (I (16 + 15) j ≠ nI p)) 16 (qN I 16) I) 16) (nI p) (nI s)) 16 N) 16) := by rw [r3.n5]; exact w1.hQ.1
          refine ⟨.int (nI (qN (tSettle (qAdd (qPress (fun I j => decide (I (16 + 15) j ≠ nI p)) 16 (qN I 16) I) 16 (qN (qPress (fun I j => decide (I (16 + 15) j ≠ nI p)) 16 (qN I 16) I) 16) (nI p) (nI s)) 16 N) 16)), zu (tSettle (qAdd (qPress (fun I j => decide (I (16 + 15) j ≠ nI p)) 16 (qN I 16) I) 16 (qN (qPress (fun I j => decide (I (16 + 15) j ≠ nI p)) 16 (qN I 16) I) 16) (nI p) (nI s)) 16 N) 3 0 0, J, st 0 (zr (tSettle (qAdd (qPress (fun I j => decide (I (16 + 15) j ≠ nI p)) 16 (qN I 16) I) 16 (qN (qPress (fun I j => decide (I (16 + 15) j ≠ nI p)) 16 (qN I 16) I) 16) (nI p) (nI s)) 16 N) 148 c3), J, N, S, ?_, ?_, h.fin w1 hT r3 f3⟩
          · rw [m_X11_ask]
            simp only [e_X11_ask_0, e_X11_ask_1, e_X11_ask_4, e_X11_ask_5, e_X11_ask_8, e_X11_ask_11, e_X11_ask_12, e_X11_ask_15, e_X11_ask_16, e_X11_ask_19, e_X11_ask_22, e_X11_ask_23, e_X11_ask_24, e_X11_ask_27, e_X11_ask_28, e_X11_ask_29, e_X11_ask_32, e_X11_ask_33, e_X11_ask_34, e_X11_ask_37, e_X11_ask_40, e_X11_ask_41, e_X11_ask_43, e_X11_ask_46, e_X11_ask_47, e_X11_ask_48, e_X11_ask_51, e_X11_ask_54, e_X11_ask_55, e_X11_ask_58, e_X11_ask_59, e_X11_ask_62, e_X11_ask_65, e_X11_ask_66, e_X11_ask_67, e_X11_ask_70, e_X11_ask_71, e_X11_ask_74, e_X11_ask_77, e_X11_ask_78, e_X11_ask_79, e_X11_ask_82, e_X11_ask_85, e_X11_ask_88, e_X11_ask_91, c_3, c_4, c_T0 t16, g_3_3, g_3_5, g_3_7, g_3_8, n_refuse, n_deny, n_answer, n_grant, t_hasP_yes t16 hW.hN h12 hp, t_hasS_yes t16 hW.hS h6 hs, t_canAsk t16 (show p < 12 by omega) hW.hQ.1 hW.hQ.2, bI_t ga, g_T0_19 t16, c_T14 t16, q_drop t16 hW.hQ.1 hW.hQ.2, q_add t16 wP.hQ.1 hQ, ta, g_T14_2 t16, w1.hQ.1, t_settle t16 wB.hN h12 wB.qWell, n_done wB.hN h12 wB.qWell, Option.bind_some, Option.isSome_some, Option.toList, List.cons_append, List.nil_append, zclr_i, zclr_r, zclr_n, zfit_i, zfit_l, and_self, if_true, if_false] <;> first | rfl | simp
          · rw [m_X12_ask, ← st_zr]
            simp only [e_X12_ask_0, e_X12_ask_1, e_X12_ask_2, e_X12_ask_5, e_X12_ask_6, e_X12_ask_7, e_X12_ask_10, e_X12_ask_11, e_X12_ask_12, e_X12_ask_15, e_X12_ask_18, e_X12_ask_19, e_X12_ask_20, e_X12_ask_23, e_X12_ask_26, e_X12_ask_27, e_X12_ask_28, e_X12_ask_31, e_X12_ask_32, e_X12_ask_33, e_X12_ask_34, e_X12_ask_37, e_X12_ask_38, e_X12_ask_39, e_X12_ask_40, e_X12_ask_43, e_X12_ask_46, e_X12_ask_47, e_X12_ask_50, e_X12_ask_52, e_X12_ask_53, e_X12_ask_54, e_X12_ask_55, e_X12_ask_56, e_X12_ask_59, e_X12_ask_60, e_X12_ask_63, e_X12_ask_64, e_X12_ask_67, e_X12_ask_70, e_X12_ask_71, e_X12_ask_72, e_X12_ask_73, e_X12_ask_74, e_X12_ask_77, e_X12_ask_78, e_X12_ask_80, e_X12_ask_83, e_X12_ask_84, e_X12_ask_85, e_X12_ask_88, e_X12_ask_89, e_X12_ask_90, e_X12_ask_93, e_X12_ask_94, e_X12_ask_97, e_X12_ask_100, e_X12_ask_101, e_X12_ask_104, e_X12_ask_105, e_X12_ask_106, e_X12_ask_107, e_X12_ask_108, e_X12_ask_109, e_X12_ask_110, e_X12_ask_113, e_X12_ask_116, e_X12_ask_117, e_X12_ask_120, e_X12_ask_121, e_X12_ask_122, e_X12_ask_123, e_X12_ask_124, e_X12_ask_125, e_X12_ask_126, e_X12_ask_129, e_X12_ask_130, e_X12_ask_131, e_X12_ask_132, e_X12_ask_133, e_X12_ask_134, e_X12_ask_135, e_X12_ask_136, e_X12_ask_139, e_X12_ask_140, e_X12_ask_143, e_X12_ask_144, e_X12_ask_145, c_143, g_143_0, g_143_1, p_143_0, p_143_1, v_refuse, v_no, st_eq, v_isP_yes hW hR1 hp, v_isS_yes hW hR1 hs, v_placeOf hW hR1, v_lives hW hR1 hp, cA_6, cA_12, cA_18, cA_30, cA_42, cA_54, cA_66, cA_78, cA_90, cA_102, cA_114, cA_126, cA_138, cA_210, cA_222, lc_0, lc_1, lc_2, lc_3, lc_4, lc_5, g_143_20, q_148, nI_neg (show 30 + p < 2 ^ 31 by omega), nI_clamp (show 30 + p < 2 ^ 31 by omega), k_148 (show 30 + p < 2530 by omega), l_148 (show 30 + p < 2530 by omega), nI_neg (show 210 + qN (qPress (fun I j => decide (I (16 + 15) j ≠ nI p)) 16 (qN I 16) I) 16 < 2 ^ 31 by omega), nI_clamp (show 210 + qN (qPress (fun I j => decide (I (16 + 15) j ≠ nI p)) 16 (qN I 16) I) 16 < 2 ^ 31 by omega), k_148 (show 210 + qN (qPress (fun I j => decide (I (16 + 15) j ≠ nI p)) 16 (qN I 16) I) 16 < 2530 by omega), l_148 (show 210 + qN (qPress (fun I j => decide (I (16 + 15) j ≠ nI p)) 16 (qN I 16) I) 16 < 2530 by omega), nI_neg (show 222 + qN (qPress (fun I j => decide (I (16 + 15) j ≠ nI p)) 16 (qN I 16) I) 16 < 2 ^ 31 by omega), nI_clamp (show 222 + qN (qPress (fun I j => decide (I (16 + 15) j ≠ nI p)) 16 (qN I 16) I) 16 < 2 ^ 31 by omega), k_148 (show 222 + qN (qPress (fun I j => decide (I (16 + 15) j ≠ nI p)) 16 (qN I 16) I) 16 < 2530 by omega), l_148 (show 222 + qN (qPress (fun I j => decide (I (16 + 15) j ≠ nI p)) 16 (qN I 16) I) 16 < 2530 by omega), hR1.bears p hp, e1, if_neg (nI_pos (show k < 2 ^ 31 by omega)), Int32.not_lt.mp (nI_pos (show k < 2 ^ 31 by omega)), nI_neg (show 222 + k < 2 ^ 31 by omega), nI_clamp (show 222 + k < 2 ^ 31 by omega), k_148 (show 222 + k < 2530 by omega), l_148 (show 222 + k < 2530 by omega), hR1.want k hk, g3, v_drops (show (zu (zu (zu (tSettle (qAdd (qPress (fun I j => decide (I (16 + 15) j ≠ nI p)) 16 (qN I 16) I) 16 (qN (qPress (fun I j => decide (I (16 + 15) j ≠ nI p)) 16 (qN I 16) I) 16) (nI p) (nI s)) 16 N) 3 0 0) 143 1 0) 143 0 0) 148 5 = nI (qN I 16) by rw [hR1.n5]; exact hW.hQ.1) hW.hQ.2 hk, g1, g2, decide_true, bI, zr_same, h5, h55, h56, cA_210, cA_222, nI_1, ltc_5, clc_5, k_148 (show 5 < 2530 by decide), zu_148, zr_zr, h5c, e3, Option.bind_some, Option.isSome_some, Option.toList, List.cons_append, List.nil_append, zclr_i, zclr_r, zclr_n, zfit_i, zfit_l, and_self, if_true, if_false] <;> first | rfl | simp
      · refine ⟨.int (-1), zu I 3 0 9, J, st 9 I, J, N, S, ?_, ?_, h.stI⟩
        · rw [m_X11_ask]
          simp only [e_X11_ask_0, e_X11_ask_1, e_X11_ask_4, e_X11_ask_5, e_X11_ask_8, e_X11_ask_11, e_X11_ask_12, e_X11_ask_15, e_X11_ask_16, e_X11_ask_19, e_X11_ask_22, e_X11_ask_23, e_X11_ask_24, e_X11_ask_27, e_X11_ask_28, e_X11_ask_29, e_X11_ask_32, e_X11_ask_33, e_X11_ask_34, e_X11_ask_37, e_X11_ask_40, e_X11_ask_41, e_X11_ask_43, e_X11_ask_46, e_X11_ask_47, e_X11_ask_48, e_X11_ask_51, e_X11_ask_54, e_X11_ask_55, e_X11_ask_58, e_X11_ask_59, e_X11_ask_62, e_X11_ask_65, e_X11_ask_66, e_X11_ask_67, e_X11_ask_70, e_X11_ask_71, e_X11_ask_74, e_X11_ask_77, e_X11_ask_78, e_X11_ask_79, e_X11_ask_82, e_X11_ask_85, e_X11_ask_88, e_X11_ask_91, c_3, c_4, c_T0 t16, g_3_3, g_3_5, g_3_7, g_3_8, n_refuse, n_deny, n_answer, n_grant, t_hasP_yes t16 hW.hN h12 hp, t_hasS_yes t16 hW.hS h6 hs, t_canAsk t16 (show p < 12 by omega) hW.hQ.1 hW.hQ.2, bI_f ga, Option.bind_some, Option.isSome_some, Option.toList, List.cons_append, List.nil_append, zclr_i, zclr_r, zclr_n, zfit_i, zfit_l, and_self, if_true, if_false] <;> first | rfl | rfl
        · have hR1 : RT I 16 ((zu (zu (zu I 3 0 9) 143 1 0) 143 0 0) 148) N S := h.R
          rw [m_X12_ask]
          simp only [e_X12_ask_0, e_X12_ask_1, e_X12_ask_2, e_X12_ask_5, e_X12_ask_6, e_X12_ask_7, e_X12_ask_10, e_X12_ask_11, e_X12_ask_12, e_X12_ask_15, e_X12_ask_18, e_X12_ask_19, e_X12_ask_20, e_X12_ask_23, e_X12_ask_26, e_X12_ask_27, e_X12_ask_28, e_X12_ask_31, e_X12_ask_32, e_X12_ask_33, e_X12_ask_34, e_X12_ask_37, e_X12_ask_38, e_X12_ask_39, e_X12_ask_40, e_X12_ask_43, e_X12_ask_46, e_X12_ask_47, e_X12_ask_50, e_X12_ask_52, e_X12_ask_53, e_X12_ask_54, e_X12_ask_55, e_X12_ask_56, e_X12_ask_59, e_X12_ask_60, e_X12_ask_63, e_X12_ask_64, e_X12_ask_67, e_X12_ask_70, e_X12_ask_71, e_X12_ask_72, e_X12_ask_73, e_X12_ask_74, e_X12_ask_77, e_X12_ask_78, e_X12_ask_80, e_X12_ask_83, e_X12_ask_84, e_X12_ask_85, e_X12_ask_88, e_X12_ask_89, e_X12_ask_90, e_X12_ask_93, e_X12_ask_94, e_X12_ask_97, e_X12_ask_100, e_X12_ask_101, e_X12_ask_104, e_X12_ask_105, e_X12_ask_106, e_X12_ask_107, e_X12_ask_108, e_X12_ask_109, e_X12_ask_110, e_X12_ask_113, e_X12_ask_116, e_X12_ask_117, e_X12_ask_120, e_X12_ask_121, e_X12_ask_122, e_X12_ask_123, e_X12_ask_124, e_X12_ask_125, e_X12_ask_126, e_X12_ask_129, e_X12_ask_130, e_X12_ask_131, e_X12_ask_132, e_X12_ask_133, e_X12_ask_134, e_X12_ask_135, e_X12_ask_136, e_X12_ask_139, e_X12_ask_140, e_X12_ask_143, e_X12_ask_144, e_X12_ask_145, c_143, g_143_0, g_143_1, p_143_0, p_143_1, v_refuse, v_no, st_eq, v_isP_yes hW hR1 hp, v_isS_yes hW hR1 hs, v_placeOf hW hR1, v_lives hW hR1 hp, cA_6, cA_12, cA_18, cA_30, cA_42, cA_54, cA_66, cA_78, cA_90, cA_102, cA_114, cA_126, cA_138, cA_210, cA_222, lc_0, lc_1, lc_2, lc_3, lc_4, lc_5, g_143_20, q_148, nI_neg (show 30 + p < 2 ^ 31 by omega), nI_clamp (show 30 + p < 2 ^ 31 by omega), k_148 (show 30 + p < 2530 by omega), l_148 (show 30 + p < 2530 by omega), hR1.bears p hp, Option.bind_some, Option.isSome_some, Option.toList, List.cons_append, List.nil_append, zclr_i, zclr_r, zclr_n, zfit_i, zfit_l, and_self, if_true, if_false]
          by_cases g1 : I (16 + 6) p = -1
          · by_cases g2 : I (16 + 7) p = nI s
            · simp [g1, g2, bI]
            · rcases qPlace_case (A := I) (b := 16) (x := nI p) hW.hQ.2 with ⟨e1, e2⟩ | ⟨k, hk, e1, e2⟩
              · exact absurd ⟨g1, g2, Or.inl e1⟩ ga
              · have g3 : I (16 + 16) k = nI s := Classical.byContradiction (fun e => ga ⟨g1, g2, Or.inr (by rw [e1, nI_clamp (by omega)]; exact e)⟩)
                simp only [g1, g2, e1, decide_true, bI, if_true, if_false, ne_eq, not_false_eq_true, if_neg (nI_pos (show k < 2 ^ 31 by omega)), Int32.not_lt.mp (nI_pos (show k < 2 ^ 31 by omega)), show ((1 : Int32) = 0) = False by decide, e_X12_ask_0, e_X12_ask_1, e_X12_ask_2, e_X12_ask_5, e_X12_ask_6, e_X12_ask_7, e_X12_ask_10, e_X12_ask_11, e_X12_ask_12, e_X12_ask_15, e_X12_ask_18, e_X12_ask_19, e_X12_ask_20, e_X12_ask_23, e_X12_ask_26, e_X12_ask_27, e_X12_ask_28, e_X12_ask_31, e_X12_ask_32, e_X12_ask_33, e_X12_ask_34, e_X12_ask_37, e_X12_ask_38, e_X12_ask_39, e_X12_ask_40, e_X12_ask_43, e_X12_ask_46, e_X12_ask_47, e_X12_ask_50, e_X12_ask_52, e_X12_ask_53, e_X12_ask_54, e_X12_ask_55, e_X12_ask_56, e_X12_ask_59, e_X12_ask_60, e_X12_ask_63, e_X12_ask_64, e_X12_ask_67, e_X12_ask_70, e_X12_ask_71, e_X12_ask_72, e_X12_ask_73, e_X12_ask_74, e_X12_ask_77, e_X12_ask_78, e_X12_ask_80, e_X12_ask_83, e_X12_ask_84, e_X12_ask_85, e_X12_ask_88, e_X12_ask_89, e_X12_ask_90, e_X12_ask_93, e_X12_ask_94, e_X12_ask_97, e_X12_ask_100, e_X12_ask_101, e_X12_ask_104, e_X12_ask_105, e_X12_ask_106, e_X12_ask_107, e_X12_ask_108, e_X12_ask_109, e_X12_ask_110, e_X12_ask_113, e_X12_ask_116, e_X12_ask_117, e_X12_ask_120, e_X12_ask_121, e_X12_ask_122, e_X12_ask_123, e_X12_ask_124, e_X12_ask_125, e_X12_ask_126, e_X12_ask_129, e_X12_ask_130, e_X12_ask_131, e_X12_ask_132, e_X12_ask_133, e_X12_ask_134, e_X12_ask_135, e_X12_ask_136, e_X12_ask_139, e_X12_ask_140, e_X12_ask_143, e_X12_ask_144, e_X12_ask_145, cA_6, cA_12, cA_18, cA_30, cA_42, cA_54, cA_66, cA_78, cA_90, cA_102, cA_114, cA_126, cA_138, cA_210, cA_222, lc_0, lc_1, lc_2, lc_3, lc_4, lc_5, g_143_20, q_148, nI_neg (show 222 + k < 2 ^ 31 by omega), nI_clamp (show 222 + k < 2 ^ 31 by omega), k_148 (show 222 + k < 2530 by omega), l_148 (show 222 + k < 2530 by omega), hR1.want k hk, g3, c_143, g_143_0, g_143_1, p_143_0, p_143_1, v_refuse, v_no, st_eq, Option.bind_some, Option.isSome_some, Option.toList, List.cons_append, List.nil_append, zclr_i, zclr_r, zclr_n, zfit_i, zfit_l, and_self, if_true, if_false]
          · simp [g1, bI]
    · refine ⟨.int (-1), zu I 3 0 2, J, st 2 I, J, N, S, ?_, ?_, h.stI⟩
      · rw [m_X11_ask]
        simp only [e_X11_ask_0, e_X11_ask_1, e_X11_ask_4, e_X11_ask_5, e_X11_ask_8, e_X11_ask_11, e_X11_ask_12, e_X11_ask_15, e_X11_ask_16, e_X11_ask_19, e_X11_ask_22, e_X11_ask_23, e_X11_ask_24, e_X11_ask_27, e_X11_ask_28, e_X11_ask_29, e_X11_ask_32, e_X11_ask_33, e_X11_ask_34, e_X11_ask_37, e_X11_ask_40, e_X11_ask_41, e_X11_ask_43, e_X11_ask_46, e_X11_ask_47, e_X11_ask_48, e_X11_ask_51, e_X11_ask_54, e_X11_ask_55, e_X11_ask_58, e_X11_ask_59, e_X11_ask_62, e_X11_ask_65, e_X11_ask_66, e_X11_ask_67, e_X11_ask_70, e_X11_ask_71, e_X11_ask_74, e_X11_ask_77, e_X11_ask_78, e_X11_ask_79, e_X11_ask_82, e_X11_ask_85, e_X11_ask_88, e_X11_ask_91, c_3, c_4, c_T0 t16, g_3_3, g_3_5, g_3_7, g_3_8, n_refuse, n_deny, n_answer, n_grant, t_hasP_yes t16 hW.hN h12 hp, t_hasS_no t16 hW.hS h6 hx, Option.bind_some, Option.isSome_some, Option.toList, List.cons_append, List.nil_append, zclr_i, zclr_r, zclr_n, zfit_i, zfit_l, and_self, if_true, if_false] <;> first | rfl | rfl
      · have hR1 : RT I 16 ((zu (zu (zu I 3 0 2) 143 1 0) 143 0 0) 148) N S := h.R
        rw [m_X12_ask]
        simp only [e_X12_ask_0, e_X12_ask_1, e_X12_ask_2, e_X12_ask_5, e_X12_ask_6, e_X12_ask_7, e_X12_ask_10, e_X12_ask_11, e_X12_ask_12, e_X12_ask_15, e_X12_ask_18, e_X12_ask_19, e_X12_ask_20, e_X12_ask_23, e_X12_ask_26, e_X12_ask_27, e_X12_ask_28, e_X12_ask_31, e_X12_ask_32, e_X12_ask_33, e_X12_ask_34, e_X12_ask_37, e_X12_ask_38, e_X12_ask_39, e_X12_ask_40, e_X12_ask_43, e_X12_ask_46, e_X12_ask_47, e_X12_ask_50, e_X12_ask_52, e_X12_ask_53, e_X12_ask_54, e_X12_ask_55, e_X12_ask_56, e_X12_ask_59, e_X12_ask_60, e_X12_ask_63, e_X12_ask_64, e_X12_ask_67, e_X12_ask_70, e_X12_ask_71, e_X12_ask_72, e_X12_ask_73, e_X12_ask_74, e_X12_ask_77, e_X12_ask_78, e_X12_ask_80, e_X12_ask_83, e_X12_ask_84, e_X12_ask_85, e_X12_ask_88, e_X12_ask_89, e_X12_ask_90, e_X12_ask_93, e_X12_ask_94, e_X12_ask_97, e_X12_ask_100, e_X12_ask_101, e_X12_ask_104, e_X12_ask_105, e_X12_ask_106, e_X12_ask_107, e_X12_ask_108, e_X12_ask_109, e_X12_ask_110, e_X12_ask_113, e_X12_ask_116, e_X12_ask_117, e_X12_ask_120, e_X12_ask_121, e_X12_ask_122, e_X12_ask_123, e_X12_ask_124, e_X12_ask_125, e_X12_ask_126, e_X12_ask_129, e_X12_ask_130, e_X12_ask_131, e_X12_ask_132, e_X12_ask_133, e_X12_ask_134, e_X12_ask_135, e_X12_ask_136, e_X12_ask_139, e_X12_ask_140, e_X12_ask_143, e_X12_ask_144, e_X12_ask_145, c_143, g_143_0, g_143_1, p_143_0, p_143_1, v_refuse, v_no, st_eq, v_isP_yes hW hR1 hp, v_isS_no hW hR1 hx, Option.bind_some, Option.isSome_some, Option.toList, List.cons_append, List.nil_append, zclr_i, zclr_r, zclr_n, zfit_i, zfit_l, and_self, if_true, if_false] <;> first | rfl | rfl
  · refine ⟨.int (-1), zu I 3 0 2, J, st 2 I, J, N, S, ?_, ?_, h.stI⟩
    · rw [m_X11_ask]
      simp only [e_X11_ask_0, e_X11_ask_1, e_X11_ask_4, e_X11_ask_5, e_X11_ask_8, e_X11_ask_11, e_X11_ask_12, e_X11_ask_15, e_X11_ask_16, e_X11_ask_19, e_X11_ask_22, e_X11_ask_23, e_X11_ask_24, e_X11_ask_27, e_X11_ask_28, e_X11_ask_29, e_X11_ask_32, e_X11_ask_33, e_X11_ask_34, e_X11_ask_37, e_X11_ask_40, e_X11_ask_41, e_X11_ask_43, e_X11_ask_46, e_X11_ask_47, e_X11_ask_48, e_X11_ask_51, e_X11_ask_54, e_X11_ask_55, e_X11_ask_58, e_X11_ask_59, e_X11_ask_62, e_X11_ask_65, e_X11_ask_66, e_X11_ask_67, e_X11_ask_70, e_X11_ask_71, e_X11_ask_74, e_X11_ask_77, e_X11_ask_78, e_X11_ask_79, e_X11_ask_82, e_X11_ask_85, e_X11_ask_88, e_X11_ask_91, c_3, c_4, c_T0 t16, g_3_3, g_3_5, g_3_7, g_3_8, n_refuse, n_deny, n_answer, n_grant, t_hasP_no t16 hW.hN h12 hx, Option.bind_some, Option.isSome_some, Option.toList, List.cons_append, List.nil_append, zclr_i, zclr_r, zclr_n, zfit_i, zfit_l, and_self, if_true, if_false] <;> first | rfl | rfl
    · have hR1 : RT I 16 ((zu (zu (zu I 3 0 2) 143 1 0) 143 0 0) 148) N S := h.R
      rw [m_X12_ask]
      simp only [e_X12_ask_0, e_X12_ask_1, e_X12_ask_2, e_X12_ask_5, e_X12_ask_6, e_X12_ask_7, e_X12_ask_10, e_X12_ask_11, e_X12_ask_12, e_X12_ask_15, e_X12_ask_18, e_X12_ask_19, e_X12_ask_20, e_X12_ask_23, e_X12_ask_26, e_X12_ask_27, e_X12_ask_28, e_X12_ask_31, e_X12_ask_32, e_X12_ask_33, e_X12_ask_34, e_X12_ask_37, e_X12_ask_38, e_X12_ask_39, e_X12_ask_40, e_X12_ask_43, e_X12_ask_46, e_X12_ask_47, e_X12_ask_50, e_X12_ask_52, e_X12_ask_53, e_X12_ask_54, e_X12_ask_55, e_X12_ask_56, e_X12_ask_59, e_X12_ask_60, e_X12_ask_63, e_X12_ask_64, e_X12_ask_67, e_X12_ask_70, e_X12_ask_71, e_X12_ask_72, e_X12_ask_73, e_X12_ask_74, e_X12_ask_77, e_X12_ask_78, e_X12_ask_80, e_X12_ask_83, e_X12_ask_84, e_X12_ask_85, e_X12_ask_88, e_X12_ask_89, e_X12_ask_90, e_X12_ask_93, e_X12_ask_94, e_X12_ask_97, e_X12_ask_100, e_X12_ask_101, e_X12_ask_104, e_X12_ask_105, e_X12_ask_106, e_X12_ask_107, e_X12_ask_108, e_X12_ask_109, e_X12_ask_110, e_X12_ask_113, e_X12_ask_116, e_X12_ask_117, e_X12_ask_120, e_X12_ask_121, e_X12_ask_122, e_X12_ask_123, e_X12_ask_124, e_X12_ask_125, e_X12_ask_126, e_X12_ask_129, e_X12_ask_130, e_X12_ask_131, e_X12_ask_132, e_X12_ask_133, e_X12_ask_134, e_X12_ask_135, e_X12_ask_136, e_X12_ask_139, e_X12_ask_140, e_X12_ask_143, e_X12_ask_144, e_X12_ask_145, c_143, g_143_0, g_143_1, p_143_0, p_143_1, v_refuse, v_no, st_eq, v_isP_no hW hR1 hx, Option.bind_some, Option.isSome_some, Option.toList, List.cons_append, List.nil_append, zclr_i, zclr_r, zclr_n, zfit_i, zfit_l, and_self, if_true, if_false] <;> first | rfl | rfl
end QH
