/-! LIVES: both memories, and what a step does -/
section LF
variable {n m : Nat} {g : Nat → zC} {I X X' XA Y Y' A : Nat → Nat → Int32} {J JY : Nat → Nat → Int64} {N N' S U l t b w : Nat} {c0 c' : Nat → Int32}
def XF (l t : Nat) (X X' : Nat → Nat → Int32) : Prop := ∀ a, (∀ i, i < 17 → a ≠ t + i) → a ≠ l → a ≠ l + 1 → X' a = X a
def LR (c0 : Nat → Int32) (l t N S : Nat) (X Y : Nat → Nat → Int32) : Prop := RT X t (Y 148) N S ∧ (∀ k, 234 ≤ k → Y 148 k = c0 k) ∧ Y 143 36 = X l 7 ∧ Y 143 37 = X l 0 ∧ Y 143 38 = X l 1 ∧ Y 143 39 = X l 2 ∧ Y 143 40 = X l 3 ∧ Y 143 41 = X l 4 ∧ Y 143 42 = X l 5
def YF (Y Y' : Nat → Nat → Int32) : Prop := (∀ a, a ≠ 148 → a ≠ 143 → Y' a = Y a) ∧ ∀ k, k < 35 ∨ 42 < k → Y' 143 k = Y 143 k
def jb (J : Nat → Nat → Int64) (t N N' : Nat) : Nat → Nat → Int64 := fun r k => if r = t + 4 ∧ N ≤ k ∧ k < N' then -1 else J r k
def jy (J : Nat → Nat → Int64) (N N' : Nat) : Nat → Nat → Int64 := fun r k => if r = 151 ∧ 6 + N ≤ k ∧ k < 6 + N' then 0 else J r k
theorem jb_id : jb J t N N = J := by
  funext r k
  unfold jb
  rw [if_neg (by omega)]
theorem jy_id : jy J N N = J := by
  funext r k
  unfold jy
  rw [if_neg (by omega)]
theorem jb_one : zu J (t + 4) N (-1) = jb J t N (N + 1) := by
  funext r k
  unfold jb zu
  by_cases h1 : r = t + 4
  · by_cases h2 : k = N
    · rw [if_pos ⟨h1, h2⟩, if_pos ⟨h1, by omega, by omega⟩]
    · rw [if_neg (fun h => h2 h.2), if_neg (by omega)]
  · rw [if_neg (fun h => h1 h.1), if_neg (fun h => h1 h.1)]
theorem jy_one : zu J 151 (6 + N) 0 = jy J N (N + 1) := by
  funext r k
  unfold jy zu
  by_cases h1 : r = 151
  · by_cases h2 : k = 6 + N
    · rw [if_pos ⟨h1, h2⟩, if_pos ⟨h1, by omega, by omega⟩]
    · rw [if_neg (fun h => h2 h.2), if_neg (by omega)]
  · rw [if_neg (fun h => h1 h.1), if_neg (fun h => h1 h.1)]
theorem jb_jb {N1 N2 : Nat} (h1 : N ≤ N1) (h2 : N1 ≤ N2) : jb (jb J t N N1) t N1 N2 = jb J t N N2 := by
  funext r k
  unfold jb
  by_cases h : r = t + 4 ∧ N ≤ k ∧ k < N2
  · rw [if_pos h]
    by_cases h3 : N1 ≤ k
    · rw [if_pos ⟨h.1, h3, h.2.2⟩]
    · rw [if_neg (by omega), if_pos ⟨h.1, h.2.1, by omega⟩]
  · rw [if_neg h, if_neg (by omega), if_neg (by omega)]
theorem jy_jy {N1 N2 : Nat} (h1 : N ≤ N1) (h2 : N1 ≤ N2) : jy (jy J N N1) N1 N2 = jy J N N2 := by
  funext r k
  unfold jy
  by_cases h : r = 151 ∧ 6 + N ≤ k ∧ k < 6 + N2
  · rw [if_pos h]
    by_cases h3 : 6 + N1 ≤ k
    · rw [if_pos ⟨h.1, h3, h.2.2⟩]
    · rw [if_neg (by omega), if_pos ⟨h.1, h.2.1, by omega⟩]
  · rw [if_neg h, if_neg (by omega), if_neg (by omega)]
theorem YF.rfl' : YF Y Y := ⟨fun _ _ _ => rfl, fun _ _ => rfl⟩
theorem YF.trans {Y2 : Nat → Nat → Int32} (h : YF Y Y') (h2 : YF Y' Y2) : YF Y Y2 := ⟨fun a h1 h3 => by rw [h2.1 a h1 h3, h.1 a h1 h3], fun k hk => by rw [h2.2 k hk, h.2 k hk]⟩
theorem YF.wz (h : YF Y Y') : YF Y (zr Y' 148 c') := ⟨fun a h1 h3 => by rw [zr_far _ _ h1, h.1 a h1 h3], fun k hk => by rw [zr_far _ _ (by decide), h.2 k hk]⟩
theorem YF.wr {k : Nat} {v : Int32} (h : YF Y Y') (h1 : 35 ≤ k) (h2 : k ≤ 42) : YF Y (zu Y' 143 k v) := ⟨fun a h1 h3 => by rw [zu_far _ _ _ h3, h.1 a h1 h3], fun j hj => by rw [zu_row, if_neg (by omega), h.2 j hj]⟩
theorem XF.rfl' : XF l t X X := fun _ _ _ _ => rfl
theorem XF.trans {X2 : Nat → Nat → Int32} (h : XF l t X X') (h2 : XF l t X' X2) : XF l t X X2 := fun a h1 h3 h4 => by rw [h2 a h1 h3 h4, h a h1 h3 h4]
theorem XF.wr {k : Nat} {v : Int32} (h : XF l t X X') : XF l t X (zu X' l k v) := fun a h1 h3 h4 => by rw [zu_far _ _ _ h3, h a h1 h3 h4]
theorem XF.wr1 {k : Nat} {v : Int32} (h : XF l t X X') : XF l t X (zu X' (l + 1) k v) := fun a h1 h3 h4 => by rw [zu_far _ _ _ h4, h a h1 h3 h4]
theorem XF.settle (h : XF l t X X') : XF l t X (tSettle X' t N) := fun a h1 h3 h4 => by rw [tSettle_far (h1 7 (by decide)) (h1 14 (by decide)) (h1 15 (by decide)) (h1 16 (by decide)), h a h1 h3 h4]
theorem lif_out (hl : isLife l) (ht : isTown t) : (∀ i, i < 17 → l ≠ t + i) ∧ ∀ i, i < 17 → l + 1 ≠ t + i := ⟨fun i hi => (life_town hl ht hi).1.symm, fun i hi => (life_town hl ht hi).2.symm⟩
theorem settle_l {a : Nat} (h : ∀ i, i < 17 → a ≠ t + i) : tSettle X t N a = X a := tSettle_far (h 7 (by decide)) (h 14 (by decide)) (h 15 (by decide)) (h 16 (by decide))
theorem LR.cong (h : LR c0 l t N S X Y) (hr : RT X' t (Y 148) N' S) (hk : ∀ k, k < 8 → X' l k = X l k) : LR c0 l t N' S X' Y := by
  obtain ⟨_, h2, h3, h4, h5, h6, h7, h8, h9⟩ := h
  refine ⟨hr, h2, ?_, ?_, ?_, ?_, ?_, ?_, ?_⟩
  · rw [h3, hk 7 (by decide)]
  · rw [h4, hk 0 (by decide)]
  · rw [h5, hk 1 (by decide)]
  · rw [h6, hk 2 (by decide)]
  · rw [h7, hk 3 (by decide)]
  · rw [h8, hk 4 (by decide)]
  · rw [h9, hk 5 (by decide)]
theorem LR.row (h : LR c0 l t N S X Y) (hr : RT X' t c' N' S) (hc : ∀ j, 234 ≤ j → c' j = Y 148 j) (hk : ∀ k, k < 8 → X' l k = X l k) : LR c0 l t N' S X' (zr Y 148 c') := by
  have h2 := h.2.1
  have h143 : zr Y 148 c' 143 = Y 143 := zr_far _ _ (by decide)
  obtain ⟨_, _, h3, h4, h5, h6, h7, h8, h9⟩ := h
  refine ⟨by rw [zr_same]; exact hr, fun k hk2 => by rw [zr_same, hc k hk2, h2 k hk2], ?_, ?_, ?_, ?_, ?_, ?_, ?_⟩ <;> rw [h143]
  · rw [h3, hk 7 (by decide)]
  · rw [h4, hk 0 (by decide)]
  · rw [h5, hk 1 (by decide)]
  · rw [h6, hk 2 (by decide)]
  · rw [h7, hk 3 (by decide)]
  · rw [h8, hk 4 (by decide)]
  · rw [h9, hk 5 (by decide)]
theorem LR.set (h : LR c0 l t N S X Y) (hl : isLife l) (ht : isTown t) {i j : Nat} (hij : (i = 0 ∧ j = 37) ∨ (i = 1 ∧ j = 38) ∨ (i = 2 ∧ j = 39) ∨ (i = 3 ∧ j = 40) ∨ (i = 4 ∧ j = 41) ∨ (i = 5 ∧ j = 42) ∨ (i = 7 ∧ j = 36)) (v : Int32) : LR c0 l t N S (zu X l i v) (zu Y 143 j v) := by
  obtain ⟨h1, h2, h3, h4, h5, h6, h7, h8, h9⟩ := h
  have h148 : zu Y 143 j v 148 = Y 148 := zu_far _ _ _ (by decide)
  refine ⟨by rw [h148]; exact h1.far (fun k hk => zu_far _ _ _ (life_town hl ht hk).1), fun k hk => by rw [h148]; exact h2 k hk, ?_⟩
  simp only [zu_row]
  rcases hij with ⟨rfl, rfl⟩ | ⟨rfl, rfl⟩ | ⟨rfl, rfl⟩ | ⟨rfl, rfl⟩ | ⟨rfl, rfl⟩ | ⟨rfl, rfl⟩ | ⟨rfl, rfl⟩ <;> simp [h3, h4, h5, h6, h7, h8, h9]
/-- what is to be shown of a step without a block -/
def ActOk (n m : Nat) (g : Nat → zC) (c0 : Nat → Int32) (l t N S : Nat) (op one two : Int32) (w : Nat) (X : Nat → Nat → Int32) : Prop := ∃ (bo : Bool) (XA : Nat → Nat → Int32) (N' : Nat), N ≤ N' ∧ (∀ d J, zcall (d + 5) 29 [.ref l, .ref t, .int op, .int one, .int two] (mk n m g X J) = some (some (.int (bI bo)), mk n m g XA (jb J t N N'))) ∧ WT XA t N' S 2999 ∧ XF l t X XA ∧ XA (l + 1) = X (l + 1) ∧ (∀ k, k = 0 ∨ k = 1 ∨ k = 5 ∨ k = 6 → XA l k = X l k) ∧ (∃ sd, sd < 65536 ∧ XA l 7 = nI sd) ∧ ∀ D Y JY, LR c0 l t N S X Y → ∃ Y', zcall (D + 8) 399 [.ref 143, .int (nI w)] (mk n m g Y JY) = some (some (.int (bI bo)), mk n m g Y' (jy JY N N')) ∧ LR c0 l t N' S (if bo = true then tSettle XA t N' else XA) Y' ∧ Y' 143 35 = Y 143 35 ∧ YF Y Y'
theorem act_no {op one two : Int32} (hW : WT X t N S 2999) (hs : ∃ sd, sd < 65536 ∧ X l 7 = nI sd) (h1 : ∀ d J, zcall (d + 5) 29 [.ref l, .ref t, .int op, .int one, .int two] (mk n m g X J) = some (some (.int 0), mk n m g X J)) (h2 : ∀ D Y JY, LR c0 l t N S X Y → zcall (D + 8) 399 [.ref 143, .int (nI w)] (mk n m g Y JY) = some (some (.int 0), mk n m g Y JY)) : ActOk n m g c0 l t N S op one two w X :=
  ⟨false, X, N, Nat.le_refl N, fun d J => by rw [jb_id]; exact h1 d J, hW, XF.rfl', rfl, fun _ _ => rfl, hs, fun D Y JY h => ⟨Y, by rw [jy_id]; exact h2 D Y JY h, h, rfl, YF.rfl'⟩⟩
theorem act_town {op one two : Int32} (hl : isLife l) (ht : isTown t) (hs : ∃ sd, sd < 65536 ∧ X l 7 = nI sd) (h1 : ∀ d J, zcall (d + 5) 29 [.ref l, .ref t, .int op, .int one, .int two] (mk n m g X J) = some (some (.int 1), mk n m g XA J)) (hW : WT XA t N S 2999) (ho : ∀ a, (∀ i, i < 17 → a ≠ t + i) → XA a = X a) (h2 : ∀ D Y JY, LR c0 l t N S X Y → ∃ c', zcall (D + 8) 399 [.ref 143, .int (nI w)] (mk n m g Y JY) = some (some (.int 1), mk n m g (zr Y 148 c') JY) ∧ RT (tSettle XA t N) t c' N S ∧ ∀ j, 234 ≤ j → c' j = Y 148 j) : ActOk n m g c0 l t N S op one two w X := by
  obtain ⟨lo, lo1⟩ := lif_out hl ht
  refine ⟨true, XA, N, Nat.le_refl N, fun d J => by rw [jb_id]; exact h1 d J, hW, fun a ha _ _ => ho a ha, ho _ lo1, fun _ _ => by rw [ho l lo], by rw [ho l lo]; exact hs, fun D Y JY h => ?_⟩
  obtain ⟨c', e1, e2, e3⟩ := h2 D Y JY h
  refine ⟨zr Y 148 c', by rw [jy_id]; exact e1, ?_, by rw [zr_far _ _ (by decide)], YF.rfl'.wz⟩
  rw [if_pos rfl]
  exact h.row e2 e3 (fun k _ => by rw [settle_l lo, ho l lo])
theorem LR.rd (h : LR c0 l t N S X Y) {k : Nat} (hk : 234 ≤ k) : Y 148 k = c0 k := h.2.1 k hk
theorem nI_p2 (k : Nat) : nI k + 2 = nI (k + 2) := nI_add k 2
theorem nI_p8 (k : Nat) : nI k + 8 = nI (k + 8) := nI_add k 8
theorem nI_p6 (k : Nat) : nI k + 6 = nI (k + 6) := nI_add k 6
theorem nI_p7 (k : Nat) : nI k + 7 = nI (k + 7) := nI_add k 7
theorem al_swap {p q : Nat} (hl : isLife l) (ht : isTown t) (hs : ∃ sd, sd < 65536 ∧ X l 7 = nI sd) (hW : WT X t N S 2999) (hp : p < N) (hq : q < N) (hw : 234 ≤ w ∧ w < 520) (k0 : c0 w = 5) (k1 : c0 (w + 1) = nI p) (k2 : c0 (w + 2) = nI q) : ActOk n m g c0 l t N S 18 (nI p) (nI q) w X := by
  have h12 := hW.h12
  cases hb : tSwap X t p q with
  | false =>
    refine act_no hW hs (fun d J => by rw [li_act_swap ht (by omega) (by omega), hb]; rfl) (fun D Y JY h => ?_)
    rw [m_X12_does]
    simp only [e_X12_does_0, e_X12_does_1, e_X12_does_4, e_X12_does_5, e_X12_does_6, e_X12_does_7, e_X12_does_8, e_X12_does_11, e_X12_does_12, e_X12_does_13, e_X12_does_14, e_X12_does_15, e_X12_does_16, e_X12_does_17, e_X12_does_20, e_X12_does_21, e_X12_does_22, e_X12_does_23, e_X12_does_24, e_X12_does_26, e_X12_does_27, e_X12_does_36, e_X12_does_37, e_X12_does_38, e_X12_does_47, e_X12_does_48, e_X12_does_50, e_X12_does_62, e_X12_does_63, e_X12_does_64, e_X12_does_75, e_X12_does_76, e_X12_does_77, e_X12_does_91, e_X12_does_92, e_X12_does_93, e_X12_does_106, e_X12_does_107, e_X12_does_108, e_X12_does_110, e_X12_does_113, cA_6, cA_12, cA_18, cA_30, cA_42, cA_54, cA_66, cA_78, cA_90, cA_102, cA_114, cA_126, cA_138, cA_210, cA_222, lc_0, lc_1, lc_2, lc_3, lc_4, lc_5, g_143_20, q_148, nI_neg (show w < 2 ^ 31 by omega), nI_clamp (show w < 2 ^ 31 by omega), k_148 (show w < 2530 by omega), l_148 (show w < 2530 by omega), nI_neg (show w + 1 < 2 ^ 31 by omega), nI_clamp (show w + 1 < 2 ^ 31 by omega), k_148 (show w + 1 < 2530 by omega), l_148 (show w + 1 < 2530 by omega), nI_neg (show w + 2 < 2 ^ 31 by omega), nI_clamp (show w + 2 < 2 ^ 31 by omega), k_148 (show w + 2 < 2530 by omega), l_148 (show w + 2 < 2530 by omega), c_143, nI_1, nI_p2, h.rd (show 234 ≤ w by omega), h.rd (show 234 ≤ w + 1 by omega), h.rd (show 234 ≤ w + 2 by omega), k0, k1, k2, show ((5 : Int32) = 0) = False by decide, show ((5 : Int32) = 1) = False by decide, show ((5 : Int32) = 6) = False by decide, show ((5 : Int32) = 2) = False by decide, show ((5 : Int32) = 3) = False by decide, show ((5 : Int32) = 4) = False by decide, ne_eq, not_false_eq_true, v_swaps_no hW h.1 hp hq hb (D + 3), zfit_b0, Option.bind_some, Option.isSome_some, Option.toList, List.cons_append, List.nil_append, zclr_i, zclr_r, zclr_n, zfit_i, zfit_l, and_self, if_true, if_false]
  | true =>
    refine act_town (XA := lSwap t p q X) hl ht hs (fun d J => by rw [li_act_swap ht (by omega) (by omega), hb]; rfl) ((hW.bear (hW.bears q hq)).bear (hW.bears p hp)) (fun a ha => by rw [lSwap, zu_far _ _ _ (ha 7 (by decide)), zu_far _ _ _ (ha 7 (by decide))]) (fun D Y JY h => ?_)
    obtain ⟨c1, e1, r1, f1⟩ := v_swaps (n := n) (m := m) (g := g) (J := JY) hW h.1 hp hq hb (D + 3)
    refine ⟨c1, ?_, r1, f1⟩
    rw [m_X12_does]
    simp only [e_X12_does_0, e_X12_does_1, e_X12_does_4, e_X12_does_5, e_X12_does_6, e_X12_does_7, e_X12_does_8, e_X12_does_11, e_X12_does_12, e_X12_does_13, e_X12_does_14, e_X12_does_15, e_X12_does_16, e_X12_does_17, e_X12_does_20, e_X12_does_21, e_X12_does_22, e_X12_does_23, e_X12_does_24, e_X12_does_26, e_X12_does_27, e_X12_does_36, e_X12_does_37, e_X12_does_38, e_X12_does_47, e_X12_does_48, e_X12_does_50, e_X12_does_62, e_X12_does_63, e_X12_does_64, e_X12_does_75, e_X12_does_76, e_X12_does_77, e_X12_does_91, e_X12_does_92, e_X12_does_93, e_X12_does_106, e_X12_does_107, e_X12_does_108, e_X12_does_110, e_X12_does_113, cA_6, cA_12, cA_18, cA_30, cA_42, cA_54, cA_66, cA_78, cA_90, cA_102, cA_114, cA_126, cA_138, cA_210, cA_222, lc_0, lc_1, lc_2, lc_3, lc_4, lc_5, g_143_20, q_148, nI_neg (show w < 2 ^ 31 by omega), nI_clamp (show w < 2 ^ 31 by omega), k_148 (show w < 2530 by omega), l_148 (show w < 2530 by omega), nI_neg (show w + 1 < 2 ^ 31 by omega), nI_clamp (show w + 1 < 2 ^ 31 by omega), k_148 (show w + 1 < 2530 by omega), l_148 (show w + 1 < 2530 by omega), nI_neg (show w + 2 < 2 ^ 31 by omega), nI_clamp (show w + 2 < 2 ^ 31 by omega), k_148 (show w + 2 < 2530 by omega), l_148 (show w + 2 < 2530 by omega), c_143, nI_1, nI_p2, h.rd (show 234 ≤ w by omega), h.rd (show 234 ≤ w + 1 by omega), h.rd (show 234 ≤ w + 2 by omega), k0, k1, k2, show ((5 : Int32) = 0) = False by decide, show ((5 : Int32) = 1) = False by decide, show ((5 : Int32) = 6) = False by decide, show ((5 : Int32) = 2) = False by decide, show ((5 : Int32) = 3) = False by decide, show ((5 : Int32) = 4) = False by decide, ne_eq, not_false_eq_true, e1, zfit_b1, Option.bind_some, Option.isSome_some, Option.toList, List.cons_append, List.nil_append, zclr_i, zclr_r, zclr_n, zfit_i, zfit_l, and_self, if_true, if_false]
theorem al_sell {p q : Nat} (hl : isLife l) (ht : isTown t) (hs : ∃ sd, sd < 65536 ∧ X l 7 = nI sd) (hW : WT X t N S 2999) (hp : p < N) (hq : q < N) (hw : 234 ≤ w ∧ w < 520) (k0 : c0 w = 4) (k1 : c0 (w + 1) = nI p) (k2 : c0 (w + 2) = nI q) : ActOk n m g c0 l t N S 17 (nI p) (nI q) w X := by
  have h12 := hW.h12
  have h6 := hW.h6
  have hbe : X (t + 7) p = -1 ∨ ∃ s, s < 6 ∧ X (t + 7) p = nI s := by
    rcases hW.bears p hp with h | ⟨s, h1, h2⟩
    · exact Or.inl h
    · exact Or.inr ⟨s, by omega, h2⟩
  cases hb : tSell X t p q with
  | false =>
    refine act_no hW hs (fun d J => by rw [li_act_sell ht (by omega) (by omega) hbe, hb]; rfl) (fun D Y JY h => ?_)
    rw [m_X12_does]
    simp only [e_X12_does_0, e_X12_does_1, e_X12_does_4, e_X12_does_5, e_X12_does_6, e_X12_does_7, e_X12_does_8, e_X12_does_11, e_X12_does_12, e_X12_does_13, e_X12_does_14, e_X12_does_15, e_X12_does_16, e_X12_does_17, e_X12_does_20, e_X12_does_21, e_X12_does_22, e_X12_does_23, e_X12_does_24, e_X12_does_26, e_X12_does_27, e_X12_does_36, e_X12_does_37, e_X12_does_38, e_X12_does_47, e_X12_does_48, e_X12_does_50, e_X12_does_62, e_X12_does_63, e_X12_does_64, e_X12_does_75, e_X12_does_76, e_X12_does_77, e_X12_does_91, e_X12_does_92, e_X12_does_93, e_X12_does_96, e_X12_does_97, e_X12_does_98, e_X12_does_100, e_X12_does_103, e_X12_does_113, cA_6, cA_12, cA_18, cA_30, cA_42, cA_54, cA_66, cA_78, cA_90, cA_102, cA_114, cA_126, cA_138, cA_210, cA_222, lc_0, lc_1, lc_2, lc_3, lc_4, lc_5, g_143_20, q_148, nI_neg (show w < 2 ^ 31 by omega), nI_clamp (show w < 2 ^ 31 by omega), k_148 (show w < 2530 by omega), l_148 (show w < 2530 by omega), nI_neg (show w + 1 < 2 ^ 31 by omega), nI_clamp (show w + 1 < 2 ^ 31 by omega), k_148 (show w + 1 < 2530 by omega), l_148 (show w + 1 < 2530 by omega), nI_neg (show w + 2 < 2 ^ 31 by omega), nI_clamp (show w + 2 < 2 ^ 31 by omega), k_148 (show w + 2 < 2530 by omega), l_148 (show w + 2 < 2530 by omega), c_143, nI_1, nI_p2, h.rd (show 234 ≤ w by omega), h.rd (show 234 ≤ w + 1 by omega), h.rd (show 234 ≤ w + 2 by omega), k0, k1, k2, show ((4 : Int32) = 0) = False by decide, show ((4 : Int32) = 1) = False by decide, show ((4 : Int32) = 6) = False by decide, show ((4 : Int32) = 2) = False by decide, show ((4 : Int32) = 3) = False by decide, ne_eq, not_false_eq_true, not_true, v_sells_no hW h.1 hp hq hb (D + 3), zfit_b0, Option.bind_some, Option.isSome_some, Option.toList, List.cons_append, List.nil_append, zclr_i, zclr_r, zclr_n, zfit_i, zfit_l, and_self, if_true, if_false]
  | true =>
    refine act_town (XA := lSell t p q X) hl ht hs (fun d J => by rw [li_act_sell ht (by omega) (by omega) hbe, hb]; rfl) (hW.sell hp hq hb) (fun a ha => by rw [lSell, zu_far _ _ _ (ha 3 (by decide)), zu_far _ _ _ (ha 7 (by decide)), zu_far _ _ _ (ha 7 (by decide)), zu_far _ _ _ (ha 8 (by decide)), zu_far _ _ _ (ha 8 (by decide))]) (fun D Y JY h => ?_)
    obtain ⟨c1, e1, r1, f1⟩ := v_sells (n := n) (m := m) (g := g) (J := JY) hW h.1 hp hq hb (D + 3)
    refine ⟨c1, ?_, r1, f1⟩
    rw [m_X12_does]
    simp only [e_X12_does_0, e_X12_does_1, e_X12_does_4, e_X12_does_5, e_X12_does_6, e_X12_does_7, e_X12_does_8, e_X12_does_11, e_X12_does_12, e_X12_does_13, e_X12_does_14, e_X12_does_15, e_X12_does_16, e_X12_does_17, e_X12_does_20, e_X12_does_21, e_X12_does_22, e_X12_does_23, e_X12_does_24, e_X12_does_26, e_X12_does_27, e_X12_does_36, e_X12_does_37, e_X12_does_38, e_X12_does_47, e_X12_does_48, e_X12_does_50, e_X12_does_62, e_X12_does_63, e_X12_does_64, e_X12_does_75, e_X12_does_76, e_X12_does_77, e_X12_does_91, e_X12_does_92, e_X12_does_93, e_X12_does_96, e_X12_does_97, e_X12_does_98, e_X12_does_100, e_X12_does_103, e_X12_does_113, cA_6, cA_12, cA_18, cA_30, cA_42, cA_54, cA_66, cA_78, cA_90, cA_102, cA_114, cA_126, cA_138, cA_210, cA_222, lc_0, lc_1, lc_2, lc_3, lc_4, lc_5, g_143_20, q_148, nI_neg (show w < 2 ^ 31 by omega), nI_clamp (show w < 2 ^ 31 by omega), k_148 (show w < 2530 by omega), l_148 (show w < 2530 by omega), nI_neg (show w + 1 < 2 ^ 31 by omega), nI_clamp (show w + 1 < 2 ^ 31 by omega), k_148 (show w + 1 < 2530 by omega), l_148 (show w + 1 < 2530 by omega), nI_neg (show w + 2 < 2 ^ 31 by omega), nI_clamp (show w + 2 < 2 ^ 31 by omega), k_148 (show w + 2 < 2530 by omega), l_148 (show w + 2 < 2530 by omega), c_143, nI_1, nI_p2, h.rd (show 234 ≤ w by omega), h.rd (show 234 ≤ w + 1 by omega), h.rd (show 234 ≤ w + 2 by omega), k0, k1, k2, show ((4 : Int32) = 0) = False by decide, show ((4 : Int32) = 1) = False by decide, show ((4 : Int32) = 6) = False by decide, show ((4 : Int32) = 2) = False by decide, show ((4 : Int32) = 3) = False by decide, ne_eq, not_false_eq_true, not_true, e1, zfit_b1, Option.bind_some, Option.isSome_some, Option.toList, List.cons_append, List.nil_append, zclr_i, zclr_r, zclr_n, zfit_i, zfit_l, and_self, if_true, if_false]
theorem al_wed {p q : Nat} (hl : isLife l) (ht : isTown t) (hs : ∃ sd, sd < 65536 ∧ X l 7 = nI sd) (hW : WT X t N S 2999) (hp : p < N) (hq : q < N) (hw : 234 ≤ w ∧ w < 520) (k0 : c0 w = 3) (k1 : c0 (w + 1) = nI p) (k2 : c0 (w + 2) = nI q) : ActOk n m g c0 l t N S 11 (nI p) (nI q) w X := by
  have h12 := hW.h12
  cases hb : tMarry X t p q 0 N with
  | false =>
    refine act_no hW hs (fun d J => by rw [li_act_wed ht hW.hN h12 (by omega) (by omega), hb]; rfl) (fun D Y JY h => ?_)
    rw [m_X12_does]
    simp only [e_X12_does_0, e_X12_does_1, e_X12_does_4, e_X12_does_5, e_X12_does_6, e_X12_does_7, e_X12_does_8, e_X12_does_11, e_X12_does_12, e_X12_does_13, e_X12_does_14, e_X12_does_15, e_X12_does_16, e_X12_does_17, e_X12_does_20, e_X12_does_21, e_X12_does_22, e_X12_does_23, e_X12_does_24, e_X12_does_26, e_X12_does_27, e_X12_does_36, e_X12_does_37, e_X12_does_38, e_X12_does_47, e_X12_does_48, e_X12_does_50, e_X12_does_62, e_X12_does_63, e_X12_does_64, e_X12_does_75, e_X12_does_76, e_X12_does_77, e_X12_does_80, e_X12_does_81, e_X12_does_82, e_X12_does_84, e_X12_does_85, e_X12_does_88, e_X12_does_113, cA_6, cA_12, cA_18, cA_30, cA_42, cA_54, cA_66, cA_78, cA_90, cA_102, cA_114, cA_126, cA_138, cA_210, cA_222, lc_0, lc_1, lc_2, lc_3, lc_4, lc_5, g_143_20, q_148, nI_neg (show w < 2 ^ 31 by omega), nI_clamp (show w < 2 ^ 31 by omega), k_148 (show w < 2530 by omega), l_148 (show w < 2530 by omega), nI_neg (show w + 1 < 2 ^ 31 by omega), nI_clamp (show w + 1 < 2 ^ 31 by omega), k_148 (show w + 1 < 2530 by omega), l_148 (show w + 1 < 2530 by omega), nI_neg (show w + 2 < 2 ^ 31 by omega), nI_clamp (show w + 2 < 2 ^ 31 by omega), k_148 (show w + 2 < 2530 by omega), l_148 (show w + 2 < 2530 by omega), c_143, nI_1, nI_p2, h.rd (show 234 ≤ w by omega), h.rd (show 234 ≤ w + 1 by omega), h.rd (show 234 ≤ w + 2 by omega), k0, k1, k2, show ((3 : Int32) = 0) = False by decide, show ((3 : Int32) = 1) = False by decide, show ((3 : Int32) = 6) = False by decide, show ((3 : Int32) = 2) = False by decide, ne_eq, not_false_eq_true, not_true, v_weds_no hW h.1 hp hq hb (D + 1), zfit_b0, Option.bind_some, Option.isSome_some, Option.toList, List.cons_append, List.nil_append, zclr_i, zclr_r, zclr_n, zfit_i, zfit_l, and_self, if_true, if_false]
  | true =>
    have hm : lMarry t p q X = tWeds X t p q 0 := by
      unfold lMarry tWeds
      rw [if_neg (by decide), if_neg (by decide)]
    refine act_town (XA := lMarry t p q X) hl ht hs (fun d J => by rw [li_act_wed ht hW.hN h12 (by omega) (by omega), hb]; rfl) (by rw [hm]; exact hW.weds hp hq) (fun a ha => by rw [lMarry, zu_far _ _ _ (ha 9 (by decide)), zu_far _ _ _ (ha 9 (by decide))]) (fun D Y JY h => ?_)
    obtain ⟨c1, e1, r1, f1⟩ := v_weds (n := n) (m := m) (g := g) (J := JY) hW h.1 hp hq hb (D + 1)
    refine ⟨c1, ?_, by rw [hm]; exact r1, f1⟩
    rw [m_X12_does]
    simp only [e_X12_does_0, e_X12_does_1, e_X12_does_4, e_X12_does_5, e_X12_does_6, e_X12_does_7, e_X12_does_8, e_X12_does_11, e_X12_does_12, e_X12_does_13, e_X12_does_14, e_X12_does_15, e_X12_does_16, e_X12_does_17, e_X12_does_20, e_X12_does_21, e_X12_does_22, e_X12_does_23, e_X12_does_24, e_X12_does_26, e_X12_does_27, e_X12_does_36, e_X12_does_37, e_X12_does_38, e_X12_does_47, e_X12_does_48, e_X12_does_50, e_X12_does_62, e_X12_does_63, e_X12_does_64, e_X12_does_75, e_X12_does_76, e_X12_does_77, e_X12_does_80, e_X12_does_81, e_X12_does_82, e_X12_does_84, e_X12_does_85, e_X12_does_88, e_X12_does_113, cA_6, cA_12, cA_18, cA_30, cA_42, cA_54, cA_66, cA_78, cA_90, cA_102, cA_114, cA_126, cA_138, cA_210, cA_222, lc_0, lc_1, lc_2, lc_3, lc_4, lc_5, g_143_20, q_148, nI_neg (show w < 2 ^ 31 by omega), nI_clamp (show w < 2 ^ 31 by omega), k_148 (show w < 2530 by omega), l_148 (show w < 2530 by omega), nI_neg (show w + 1 < 2 ^ 31 by omega), nI_clamp (show w + 1 < 2 ^ 31 by omega), k_148 (show w + 1 < 2530 by omega), l_148 (show w + 1 < 2530 by omega), nI_neg (show w + 2 < 2 ^ 31 by omega), nI_clamp (show w + 2 < 2 ^ 31 by omega), k_148 (show w + 2 < 2530 by omega), l_148 (show w + 2 < 2530 by omega), c_143, nI_1, nI_p2, h.rd (show 234 ≤ w by omega), h.rd (show 234 ≤ w + 1 by omega), h.rd (show 234 ≤ w + 2 by omega), k0, k1, k2, show ((3 : Int32) = 0) = False by decide, show ((3 : Int32) = 1) = False by decide, show ((3 : Int32) = 6) = False by decide, show ((3 : Int32) = 2) = False by decide, ne_eq, not_false_eq_true, not_true, e1, zfit_b1, Option.bind_some, Option.isSome_some, Option.toList, List.cons_append, List.nil_append, zclr_i, zclr_r, zclr_n, zfit_i, zfit_l, and_self, if_true, if_false]
end LF
