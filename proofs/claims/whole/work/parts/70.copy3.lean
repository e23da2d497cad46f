/-! A COPIED TOWN is coupled as the first; keeping and giving back -/
section CT
variable {n m : Nat} {g : Nat → zC} {I A : Nat → Nat → Int32} {J : Nat → Nat → Int64} {a b N S U : Nat} {c : Nat → Int32}
theorem copy_q (hd : apart a b) : qN (tCopy a b A) b = qN A a := by
  unfold qN
  rw [tCopy_q hd]
theorem copy_k {p : Nat} (hd : apart a b) (hp : p < 12) : pK (tCopy a b A) b p = pK A a p := by
  unfold pK
  rw [tCopy_12 hd, cpR_lt hp]
theorem RT.copy (h : RT A a c N S) (hW : WT A a N S U) (hd : apart a b) : RT (tCopy a b A) b c N S := by
  have h12 := hW.h12
  have h6 := hW.h6
  have hq := hW.hQ.2
  apply RT.intro
  · rw [tCopy_0 hd (by decide)]; exact h.n0
  · rw [tCopy_0 hd (by decide)]; exact h.n1
  · rw [tCopy_0 hd (by decide)]; exact h.n2
  · rw [tCopy_0 hd (by decide)]; exact h.n3
  · rw [tCopy_0 hd (by decide)]; exact h.n4
  · rw [tCopy_q hd]; exact h.n5
  · intro s hs; rw [tCopy_2 hd, cpR_lt (by omega)]; exact h.worth s hs
  · intro s hs; rw [tCopy_3 hd, cpR_lt (by omega)]; exact h.sold s hs
  · intro p hp; rw [tCopy_5 hd, cpR_lt (by omega)]; exact h.born p hp
  · intro p hp; rw [tCopy_7 hd, cpR_lt (by omega)]; exact h.bears p hp
  · intro p hp; rw [tCopy_8 hd, cpR_lt (by omega)]; exact h.coins p hp
  · intro p hp; rw [tCopy_0 hd (by decide)]; exact h.miser p hp
  · intro p hp; rw [tCopy_6 hd, cpR_lt (by omega)]; exact h.died p hp
  · intro p hp; rw [tCopy_9 hd, cpR_lt (by omega)]; exact h.wed p hp
  · intro p hp; rw [tCopy_10 hd, cpR_lt (by omega)]; exact h.one p hp
  · intro p hp; rw [tCopy_10 hd, cpR_lt (by omega)]; exact h.two p hp
  · intro p hp; rw [tCopy_11 hd, cpR_lt (by omega)]; exact h.away p hp
  · intro p hp; rw [tCopy_12 hd, cpR_lt (by omega)]; exact h.likes p hp
  · intro p k hp hk
    rw [copy_k hd (by omega)] at hk
    have := hW.pK6 p hp
    rw [tCopy_13 hd, cpR_lt (by omega)]; exact h.like p k hp hk
  · intro k hk
    rw [copy_q hd] at hk
    rw [tCopy_15 hd, cpR_lt (by omega)]; exact h.who k hk
  · intro k hk
    rw [copy_q hd] at hk
    rw [tCopy_16 hd, cpR_lt (by omega)]; exact h.want k hk
theorem WT.copy (h : WT A a N S U) (hd : apart a b) : WT (tCopy a b A) b N S U := by
  have h12 := h.h12
  have h6 := h.h6
  have hq := h.hQ.2
  apply WT.intro
  · rw [tCopy_0 hd (by decide)]; exact h.hN
  · exact h.hU
  · exact h.h12
  · rw [tCopy_0 hd (by decide)]; exact h.hS
  · exact h.h6
  · rw [tCopy_0 hd (by decide)]; exact h.hY
  · rw [tCopy_0 hd (by decide)]; exact h.hM
  · rw [tCopy_0 hd (by decide)]; exact h.hL
  · rw [tCopy_0 hd (by decide)]; exact h.mis
  · intro s hs; rw [tCopy_2 hd, cpR_lt (by omega)]; exact h.worth s hs
  · intro s hs; rw [tCopy_3 hd, cpR_lt (by omega)]; exact h.sold s hs
  · intro p hp; rw [tCopy_5 hd, cpR_lt (by omega)]; exact h.born p hp
  · intro p hp; rw [tCopy_6 hd, cpR_lt (by omega)]; exact h.died p hp
  · intro p hp; rw [tCopy_7 hd, cpR_lt (by omega)]; exact h.bears p hp
  · intro p hp; rw [tCopy_8 hd, cpR_lt (by omega)]; exact h.coins p hp
  · intro p hp; rw [tCopy_9 hd, cpR_lt (by omega)]; exact h.wed p hp
  · intro p hp; rw [tCopy_10 hd, cpR_lt (by omega)]; exact h.one p hp
  · intro p hp; rw [tCopy_10 hd, cpR_lt (by omega)]; exact h.two p hp
  · intro p hp; rw [tCopy_11 hd, cpR_lt (by omega)]; exact h.away p hp
  · intro p hp; rw [tCopy_6 hd, tCopy_11 hd, cpR_lt (by omega), cpR_lt (by omega)]; exact h.dead p hp
  · intro p hp; rw [tCopy_12 hd, cpR_lt (by omega)]; exact h.likes p hp
  · intro p k hp hk
    rw [copy_k hd (by omega)] at hk
    have := h.pK6 p hp
    rw [tCopy_13 hd, cpR_lt (by omega)]; exact h.like p k hp hk
  · rw [copy_q hd, tCopy_q hd]; exact h.hQ
  · intro k hk
    rw [copy_q hd] at hk
    rw [tCopy_15 hd, cpR_lt (by omega)]; exact h.who k hk
  · intro k hk
    rw [copy_q hd] at hk
    rw [tCopy_16 hd, cpR_lt (by omega)]; exact h.want k hk
  · intro i j hij hj
    rw [copy_q hd] at hj
    rw [tCopy_15 hd, cpR_lt (by omega), cpR_lt (by omega)]; exact h.uniq i j hij hj
theorem ap : apart 16 33 := town_apart t16 t33 (by decide)
theorem zfor_copy (src dst : Nat → Int32) : ∀ k p, zfor (fun j (x : Nat → Int32) => fu x j (src j)) p k dst = fun j => if p ≤ j ∧ j < p + k then src j else dst j
  | 0, p => by
    funext j
    rw [zfor, if_neg (by omega)]
  | k + 1, p => by
    rw [zfor]
    have h := zfor_copy src (fu dst p (src p)) k (p + 1)
    rw [h]
    funext j
    by_cases h1 : p + 1 ≤ j ∧ j < p + 1 + k
    · rw [if_pos h1, if_pos (by omega)]
    · rw [if_neg h1]
      by_cases h2 : j = p
      · rw [h2, fu_eq, if_pos (by omega)]
      · rw [fu_ne _ _ h2, if_neg (by omega)]
theorem v_keeps (d : Nat) : zcall d 359 [.ref 143] (mk n m g I J) = some (none, mk n m g (zr I 149 (fun j => if j < 234 then I 148 j else I 149 j)) J) := by
  rw [m_X12_keeps]
  simp only [e_X12_keeps_0, e_X12_keeps_1, e_X12_keeps_3, e_X12_keeps_6, e_X12_keeps_9, e_X12_keeps_10, e_X12_keeps_13, e_X12_keeps_14, e_X12_keeps_15, e_X12_keeps_18, e_X12_keeps_19, e_X12_keeps_20, e_X12_keeps_21, e_X12_keeps_24, e_X12_keeps_27, Option.bind_some, Option.isSome_some, Option.toList, List.cons_append, List.nil_append, zclr_i, zclr_r, zclr_n, zfit_i, zfit_l, and_self, if_true, if_false]
  have h : zexec d 359 2 [some (.ref 143), some (.int (nI 0))] [] (mk n m g (zr I 149 (I 149)) J) = zexec d 359 2 [some (.ref 143), some (.int (nI 234))] [] (mk n m g (zr I 149 (zfor (fun j x => fu x j (I 148 j)) 0 234 (I 149))) J) := zloop (fun k (x : Nat → Int32) => zexec d 359 2 [some (.ref 143), some (.int (nI k))] [] (mk n m g (zr I 149 x) J)) (fun j x => fu x j (I 148 j)) 234 (fun k x hk => by
    rw [e_X12_keeps_2]
    have hr : zr I 149 x 148 = I 148 := zr_far _ _ (by decide)
    simp only [e_X12_keeps_0, e_X12_keeps_1, e_X12_keeps_3, e_X12_keeps_6, e_X12_keeps_9, e_X12_keeps_10, e_X12_keeps_13, e_X12_keeps_14, e_X12_keeps_15, e_X12_keeps_18, e_X12_keeps_19, e_X12_keeps_20, e_X12_keeps_21, e_X12_keeps_24, e_X12_keeps_27, g_143_20, g_143_21, l_148 (show k < 2530 by omega), nI_neg (show k < 2 ^ 31 by omega), nI_clamp (show k < 2 ^ 31 by omega), k_149 hk, q_149, if_neg (show ¬ (234 : Int32) ≤ nI k from nI_ge (b := 234) hk (by decide)), nI_1, hr, zu_zr, Option.bind_some, Option.isSome_some, Option.toList, List.cons_append, List.nil_append, zclr_i, zclr_r, zclr_n, zfit_i, zfit_l, and_self, if_true, if_false]) 234 0 (I 149) (by omega)
  rw [zr_id] at h
  refine h.trans ?_
  rw [e_X12_keeps_2]
  simp only [e_X12_keeps_0, e_X12_keeps_1, e_X12_keeps_3, e_X12_keeps_6, e_X12_keeps_9, e_X12_keeps_10, e_X12_keeps_13, e_X12_keeps_14, e_X12_keeps_15, e_X12_keeps_18, e_X12_keeps_19, e_X12_keeps_20, e_X12_keeps_21, e_X12_keeps_24, e_X12_keeps_27, if_pos (show (234 : Int32) ≤ nI 234 by decide), Option.bind_some, Option.isSome_some, Option.toList, List.cons_append, List.nil_append, zclr_i, zclr_r, zclr_n, zfit_i, zfit_l, and_self, if_true, if_false]
  rw [zfor_copy]
  simp
theorem v_gives (d : Nat) : zcall d 360 [.ref 143] (mk n m g I J) = some (none, mk n m g (zr I 148 (fun j => if j < 234 then I 149 j else I 148 j)) J) := by
  rw [m_X12_gives]
  simp only [e_X12_gives_0, e_X12_gives_1, e_X12_gives_3, e_X12_gives_6, e_X12_gives_9, e_X12_gives_10, e_X12_gives_13, e_X12_gives_14, e_X12_gives_15, e_X12_gives_18, e_X12_gives_19, e_X12_gives_20, e_X12_gives_21, e_X12_gives_24, e_X12_gives_27, Option.bind_some, Option.isSome_some, Option.toList, List.cons_append, List.nil_append, zclr_i, zclr_r, zclr_n, zfit_i, zfit_l, and_self, if_true, if_false]
  have h : zexec d 360 2 [some (.ref 143), some (.int (nI 0))] [] (mk n m g (zr I 148 (I 148)) J) = zexec d 360 2 [some (.ref 143), some (.int (nI 234))] [] (mk n m g (zr I 148 (zfor (fun j x => fu x j (I 149 j)) 0 234 (I 148))) J) := zloop (fun k (x : Nat → Int32) => zexec d 360 2 [some (.ref 143), some (.int (nI k))] [] (mk n m g (zr I 148 x) J)) (fun j x => fu x j (I 149 j)) 234 (fun k x hk => by
    rw [e_X12_gives_2]
    have hr : zr I 148 x 149 = I 149 := zr_far _ _ (by decide)
    simp only [e_X12_gives_0, e_X12_gives_1, e_X12_gives_3, e_X12_gives_6, e_X12_gives_9, e_X12_gives_10, e_X12_gives_13, e_X12_gives_14, e_X12_gives_15, e_X12_gives_18, e_X12_gives_19, e_X12_gives_20, e_X12_gives_21, e_X12_gives_24, e_X12_gives_27, g_143_20, g_143_21, l_149 hk, nI_neg (show k < 2 ^ 31 by omega), nI_clamp (show k < 2 ^ 31 by omega), k_148 (show k < 2530 by omega), q_148, if_neg (show ¬ (234 : Int32) ≤ nI k from nI_ge (b := 234) hk (by decide)), nI_1, hr, zu_zr, Option.bind_some, Option.isSome_some, Option.toList, List.cons_append, List.nil_append, zclr_i, zclr_r, zclr_n, zfit_i, zfit_l, and_self, if_true, if_false]) 234 0 (I 148) (by omega)
  rw [zr_id] at h
  refine h.trans ?_
  rw [e_X12_gives_2]
  simp only [e_X12_gives_0, e_X12_gives_1, e_X12_gives_3, e_X12_gives_6, e_X12_gives_9, e_X12_gives_10, e_X12_gives_13, e_X12_gives_14, e_X12_gives_15, e_X12_gives_18, e_X12_gives_19, e_X12_gives_20, e_X12_gives_21, e_X12_gives_24, e_X12_gives_27, if_pos (show (234 : Int32) ≤ nI 234 by decide), Option.bind_some, Option.isSome_some, Option.toList, List.cons_append, List.nil_append, zclr_i, zclr_r, zclr_n, zfit_i, zfit_l, and_self, if_true, if_false]
  rw [zfor_copy]
  simp
end CT
