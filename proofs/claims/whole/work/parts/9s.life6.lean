/-! LIVES: steps of both, side by side -/
section LO
variable {n m : Nat} {g : Nat → zC} {X X' X1 Y Y' B : Nat → Nat → Int32} {J JY : Nat → Nat → Int64} {N N' N0 S l t s q q' k k' a a0 e i j L d dep : Nat} {c0 : Nat → Int32} {x : Int32} {y : Option Int32} {over : Bool}
def CW (B : Nat → Nat → Int32) (l t s q N S : Nat) (X : Nat → Nat → Int32) : Prop := WT X t N S 2999 ∧ (∀ r, r < 6 → X (s + r) = B (s + r)) ∧ X l 0 = nI q ∧ q ≤ 300 ∧ ∃ sd, sd < 65536 ∧ X l 7 = nI sd
def ResX (n m : Nat) (g : Nat → zC) (B : Nat → Nat → Int32) (l t s S : Nat) (x : Int32) (d dep a0 a e q N k : Nat) (X : Nat → Nat → Int32) (over : Bool) (X' : Nat → Nat → Int32) (N' q' k' : Nat) : Prop := N ≤ N' ∧ q ≤ q' ∧ k' ≤ k + (1 + dep) * (q' - q) ∧ CW B l t s q' N' S X' ∧ XF l t X X' ∧ X' l 6 = X l 6 ∧ (X' l 5 = X l 5 ∨ X' l 5 = 1) ∧ (∀ z, z < a0 ∨ e ≤ z → X' (l + 1) z = X (l + 1) z) ∧ ∀ J y, ∃ y', hdX n m g l s t x d a k y X J = if over = true then some (none, mk n m g X' (jb J t N N')) else hdX n m g l s t x d e k' y' X' (jb J t N N')
def RefX (n m : Nat) (g : Nat → zC) (c0 : Nat → Int32) (l t S N N' : Nat) (X X' : Nat → Nat → Int32) (over : Bool) (call : (Nat → Nat → Int32) → (Nat → Nat → Int64) → Option (Option Value × zH)) : Prop := ∀ Y JY, LR c0 l t N S X Y → Y 143 35 = 0 → ∃ Y', call Y JY = some (none, mk n m g Y' (jy JY N N')) ∧ LR c0 l t N' S X' Y' ∧ Y' 143 35 = bI over ∧ YF Y Y'
def One (n m : Nat) (g : Nat → zC) (B : Nat → Nat → Int32) (c0 : Nat → Int32) (l t s S : Nat) (x : Int32) (d dep a e i q N k : Nat) (X : Nat → Nat → Int32) : Prop := ∃ over X' N' q' k', ResX n m g B l t s S x d dep a a e q N k X over X' N' q' k' ∧ (over = false → q < q') ∧ ∀ D, RefX n m g c0 l t S N N' X X' over (fun Y JY => zcall (D + 2 * dep + 9) 401 [.ref 143, .int (nI i)] (mk n m g Y JY))
def Run (n m : Nat) (g : Nat → zC) (B : Nat → Nat → Int32) (c0 : Nat → Int32) (l t s S : Nat) (x : Int32) (d dep a e i j q N k : Nat) (X : Nat → Nat → Int32) : Prop := ∃ over X' N' q' k', ResX n m g B l t s S x d dep a a e q N k X over X' N' q' k' ∧ (a < e → over = false → q < q') ∧ ∀ D z, RefX n m g c0 l t S N N' X X' over (fun Y JY => zexec (D + 2 * dep + 10) 402 2 [some (.ref 143), some (.int z), some (.int (nI j)), some (.int (nI i))] [] (mk n m g Y JY))
theorem scr_off (hsc : isScript s) (hl : isLife l) (ht : isTown t) {r : Nat} (hr : r < 6) : s + r ≠ l ∧ s + r ≠ l + 1 ∧ ∀ i, i < 17 → s + r ≠ t + i := by
  rcases hsc with rfl | rfl | rfl | rfl | rfl <;> rcases hl with rfl | rfl <;> rcases ht with rfl | rfl | rfl | rfl | rfl <;> refine ⟨by omega, by omega, fun i hi => by omega⟩
theorem CW.next (h : CW B l t s q N S X) (hsc : isScript s) (hl : isLife l) (ht : isTown t) (hx : XF l t X X') (hW : WT X' t N' S 2999) (h0 : X' l 0 = nI q') (hq : q' ≤ 300) (hs : ∃ sd, sd < 65536 ∧ X' l 7 = nI sd) : CW B l t s q' N' S X' := by
  refine ⟨hW, fun r hr => ?_, h0, hq, hs⟩
  obtain ⟨o1, o2, o3⟩ := scr_off hsc hl ht hr
  rw [hx _ o3 o1 o2, h.2.1 r hr]
theorem LR.y35 {v : Int32} (h : LR c0 l t N S X Y) : LR c0 l t N S X (zu Y 143 35 v) := by
  obtain ⟨h1, h2, h3⟩ := h
  refine ⟨by rw [zu_far _ _ _ (by decide)]; exact h1, fun k hk => by rw [zu_far _ _ _ (by decide)]; exact h2 k hk, ?_⟩
  simp only [zu_row]
  exact h3
theorem bud (hd : dep ≤ 3) (hb : k + 4 * (300 - q) ≤ 1200) (hq : q ≤ q') (hq3 : q' ≤ 300) (hk : k' ≤ k + (1 + dep) * (q' - q)) : k' + 4 * (300 - q') ≤ 1200 := by
  have : (1 + dep) * (q' - q) ≤ 4 * (q' - q) := Nat.mul_le_mul_right _ (by omega)
  omega
/-- what is known of the script and of where things lie -/
def Scr (B : Nat → Nat → Int32) (l t s L : Nat) : Prop := isScript s ∧ isLife l ∧ isTown t ∧ L ≤ 60 ∧ B s 2 = nI L
theorem one_cut (hS : Scr B l t s L) (hC : CW B l t s 300 N S X) (hk : k < 1500) (ha : a < L) (ho : B (s + 1) a ≠ 25) : One n m g B c0 l t s S x d dep a e i 300 N k X := by
  obtain ⟨hsc, hl, ht, h60, hL⟩ := hS
  have hxf : XF l t X (zu X l 5 1) := XF.rfl'.wr
  refine ⟨true, zu X l 5 1, N, 300, k, ⟨Nat.le_refl N, Nat.le_refl _, by omega, hC.next hsc hl ht hxf (hC.1.far (fun i hi => zu_far _ _ _ (life_town hl ht hi).1)) (by rw [zu_row, if_neg (by decide)]; exact hC.2.2.1) (Nat.le_refl _) (by rw [zu_row, if_neg (by decide)]; exact hC.2.2.2.2), hxf, by rw [zu_row, if_neg (by decide)], .inr (by rw [zu_row, if_pos rfl]), fun z _ => by rw [zu_far _ _ _ (by omega)], fun J y => ⟨y, ?_⟩⟩, fun h => (by cases h), fun D Y JY h h35 => ?_⟩
  · rw [if_pos rfl, jb_id]
    exact it_cut hl hsc hk ha h60 (by rw [show X s = B s from hC.2.1 0 (by decide)]; exact hL) (by rw [hC.2.1 1 (by decide)]; exact ho) hC.2.2.1
  · refine ⟨zu (zu Y 143 35 1) 143 42 1, ?_, (h.y35).set hl ht (by omega) _, by rw [zu_row, if_neg (by decide), zu_row, if_pos rfl]; rfl, (YF.rfl'.wr (by decide) (by decide)).wr (by decide) (by decide)⟩
    rw [jy_id]
    exact v_one_cut (by rw [h.2.2.2.1, hC.2.2.1]) _
theorem one_stop (hS : Scr B l t s L) (hC : CW B l t s q N S X) (hq : q < 300) (hk : k < 1500) (ha : a < L) (hi : i < 30) (ho : B (s + 1) a = 26) (hc : c0 (236 + 9 * i) = 9) : One n m g B c0 l t s S x d dep a e i q N k X := by
  obtain ⟨hsc, hl, ht, h60, hL⟩ := hS
  have hxf : XF l t X (zu X l 0 (nI (q + 1))) := XF.rfl'.wr
  refine ⟨true, zu X l 0 (nI (q + 1)), N, q + 1, k, ⟨Nat.le_refl N, by omega, by omega, hC.next hsc hl ht hxf (hC.1.far (fun i hi => zu_far _ _ _ (life_town hl ht hi).1)) (by rw [zu_row, if_pos rfl]) (by omega) (by rw [zu_row, if_neg (by decide)]; exact hC.2.2.2.2), hxf, by rw [zu_row, if_neg (by decide)], .inl (by rw [zu_row, if_neg (by decide)]), fun z _ => by rw [zu_far _ _ _ (by omega)], fun J y => ⟨y, ?_⟩⟩, fun h => (by cases h), fun D Y JY h h35 => ?_⟩
  · rw [if_pos rfl, jb_id]
    exact it_stop hl hsc hk ha h60 (by rw [show X s = B s from hC.2.1 0 (by decide)]; exact hL) (by rw [hC.2.1 1 (by decide)]; exact ho) hq hC.2.2.1
  · refine ⟨zu (zu Y 143 37 (nI (q + 1))) 143 35 1, ?_, (h.set hl ht (by omega) _).y35, by rw [zu_row, if_pos rfl]; rfl, (YF.rfl'.wr (by decide) (by decide)).wr (by decide) (by decide)⟩
    rw [jy_id]
    exact v_one_stop hi hq (by rw [h.2.2.2.1, hC.2.2.1]) (by rw [h.rd (by omega)]; exact hc) _
theorem one_act {kd : Nat} (hS : Scr B l t s L) (hC : CW B l t s q N S X) (hq : q < 300) (hk : k < 1500) (ha : a < L) (hi : i < 30) (ho : B (s + 1) a ≠ 25) (ho2 : B (s + 1) a ≠ 26) (hm : B (s + 5) a = -1) (hkd : kd < 7) (hc : c0 (236 + 9 * i) = nI kd) (hA : ActOk n m g c0 l t N S (B (s + 1) a) (B (s + 2) a) (B (s + 3) a) (236 + 9 * i) (zu X l 0 (nI (q + 1)))) : One n m g B c0 l t s S x d dep a (a + 1) i q N k X := by
  obtain ⟨hsc, hl, ht, h60, hL⟩ := hS
  obtain ⟨lo, lo1⟩ := lif_out hl ht
  obtain ⟨bo, XA, N', a1, a2, a3, a4, a5, a6, a7, a8⟩ := hA
  have hX : ∀ r, r < 6 → X (s + r) = B (s + r) := hC.2.1
  have hxA : XF l t X XA := XF.trans XF.rfl'.wr a4
  have hX' : ∃ X', X' = (if bo = true then tSettle XA t N' else zu XA l 1 (XA l 1 + 1)) := ⟨_, rfl⟩
  obtain ⟨X', eX'⟩ := hX'
  have hxf : XF l t X X' := by
    rw [eX']
    split
    · exact hxA.settle
    · exact hxA.wr
  have hW' : WT X' t N' S 2999 := by
    rw [eX']
    split
    · exact a3.settle
    · exact a3.far (fun i hi => zu_far _ _ _ (life_town hl ht hi).1)
  have hl' : ∀ k, k ≠ 1 → X' l k = XA l k := by
    intro k hk
    rw [eX']
    split
    · rw [settle_l lo]
    · rw [zu_row, if_neg hk]
  have hX0 : ∀ k, k ≠ 0 → zu X l 0 (nI (q + 1)) l k = X l k := fun k hk => by rw [zu_row, if_neg hk]
  refine ⟨false, X', N', q + 1, k + 1, ⟨a1, by omega, ?_, hC.next hsc hl ht hxf hW' ?_ (by omega) (by rw [hl' 7 (by decide)]; exact a7), hxf, ?_, .inl ?_, fun z _ => ?_, fun J y => ⟨some (X (s + 1) a), ?_⟩⟩, fun _ => by omega, fun D Y JY h h35 => ?_⟩
  · have : q + 1 - q = 1 := by omega
    rw [this]
    omega
  · rw [hl' 0 (by decide), a6 0 (by decide), zu_row, if_pos rfl]
  · rw [hl' 6 (by decide), a6 6 (by decide), hX0 6 (by decide)]
  · rw [hl' 5 (by decide), a6 5 (by decide), hX0 5 (by decide)]
  · have h1 : X' (l + 1) = XA (l + 1) := by
      rw [eX']
      split
      · rw [settle_l lo1]
      · rw [zu_far _ _ _ (by omega)]
    rw [h1, a5, zu_far _ _ _ (by omega)]
  · rw [if_neg (by decide), eX']
    have hAct := a2 d J
    rw [← hX 1 (by decide), ← hX 2 (by decide), ← hX 3 (by decide)] at hAct
    refine it_act hl ht hsc hk ha h60 (by rw [show X s = B s from hX 0 (by decide)]; exact hL) (by rw [hX 1 (by decide)]; exact ho) (by rw [hX 1 (by decide)]; exact ho2) hq hC.2.2.1 (by rw [hX 5 (by decide)]; exact hm) rfl (fun r hr => ?_) hAct a3
    rw [zu_far _ _ _ (scr_off hsc hl ht hr).1]
  · obtain ⟨Y1, b1, b2, b3, b4⟩ := a8 (D + 2 * dep) (zu Y 143 37 (nI (q + 1))) JY (h.set hl ht (by omega) _)
    have h38 : Y 143 38 = X l 1 := h.2.2.2.2.1
    have hv := v_one_act (n := n) (m := m) (g := g) (JY := JY) hi hq (by rw [h.2.2.2.1, hC.2.2.1]) (by rw [h.rd (by omega)]; exact hc) hkd (D + 2 * dep + 8) b1
    refine ⟨zu Y1 143 38 (Y 143 38 + bI (!bo)), hv, ?_, ?_, ?_⟩
    · rw [eX']
      cases bo with
      | true =>
        rw [if_pos rfl] at b2 ⊢
        have e1 : Y1 143 38 = Y 143 38 + bI (!true) := by
          rw [b2.2.2.2.2.1, settle_l lo, a6 1 (by decide), hX0 1 (by decide), h38]
          exact (Int32.add_zero _).symm
        rw [zu_self _ _ _ _ e1]
        exact b2
      | false =>
        rw [if_neg (by decide)] at b2 ⊢
        have e1 : XA l 1 + 1 = Y 143 38 + bI (!false) := by
          rw [a6 1 (by decide), hX0 1 (by decide), h38]
          rfl
        rw [e1]
        exact b2.set hl ht (by omega) _
    · rw [zu_row, if_neg (by decide), b3, zu_row, if_neg (by decide), h35]
      rfl
    · exact (YF.trans (YF.rfl'.wr (by decide) (by decide)) b4).wr (by decide) (by decide)
/-- the reference's row of steps -/
theorem da_end {z : Int32} (h : Y 143 35 = 1) : zexec d 402 2 [some (.ref 143), some (.int z), some (.int (nI j)), some (.int (nI i))] [] (mk n m g Y JY) = some (none, mk n m g Y JY) := by
  rw [e_X12_doAll_2]
  by_cases hij : nI j ≤ nI i
  · simp only [e_X12_doAll_3, e_X12_doAll_4, e_X12_doAll_39, if_pos hij, Option.bind_some, Option.isSome_some, Option.toList, List.cons_append, List.nil_append, zclr_i, zclr_r, zclr_n, zfit_i, zfit_l, and_self, if_true, if_false]
  · simp only [e_X12_doAll_3, e_X12_doAll_4, e_X12_doAll_7, e_X12_doAll_8, e_X12_doAll_11, e_X12_doAll_39, if_neg hij, g_143_35, h, show ((1 : Int32) = 0) = False by decide, ne_eq, not_false_eq_true, Option.bind_some, Option.isSome_some, Option.toList, List.cons_append, List.nil_append, zclr_i, zclr_r, zclr_n, zfit_i, zfit_l, and_self, if_true, if_false]
theorem da_done {z : Int32} (hi : i < 2 ^ 31) : zexec d 402 2 [some (.ref 143), some (.int z), some (.int (nI i)), some (.int (nI i))] [] (mk n m g Y JY) = some (none, mk n m g Y JY) := by
  rw [e_X12_doAll_2]
  simp only [e_X12_doAll_3, e_X12_doAll_4, e_X12_doAll_39, if_pos (nI_le (Nat.le_refl i) hi), Option.bind_some, Option.isSome_some, Option.toList, List.cons_append, List.nil_append, zclr_i, zclr_r, zclr_n, zfit_i, zfit_l, and_self, if_true, if_false]
theorem da_step {z : Int32} {i1 : Nat} {J1 : Nat → Nat → Int64} (hij : i < j) (hj : j ≤ 30) (h0 : Y 143 35 = 0) (hd : zcall d 401 [.ref 143, .int (nI i)] (mk n m g Y JY) = some (none, mk n m g Y' J1)) (hc : Y' 148 (236 + 9 * i + 8) = nI i1) : zexec (d + 1) 402 2 [some (.ref 143), some (.int z), some (.int (nI j)), some (.int (nI i))] [] (mk n m g Y JY) = zexec (d + 1) 402 2 [some (.ref 143), some (.int z), some (.int (nI j)), some (.int (nI i1))] [] (mk n m g Y' J1) := by
  rw [e_X12_doAll_2]
  simp only [e_X12_doAll_3, e_X12_doAll_4, e_X12_doAll_7, e_X12_doAll_8, e_X12_doAll_11, e_X12_doAll_14, e_X12_doAll_15, e_X12_doAll_16, e_X12_doAll_19, e_X12_doAll_20, e_X12_doAll_23, e_X12_doAll_26, e_X12_doAll_28, e_X12_doAll_29, e_X12_doAll_30, e_X12_doAll_31, e_X12_doAll_33, e_X12_doAll_34, e_X12_doAll_35, e_X12_doAll_36, c_143, cA_6, cA_12, cA_18, cA_30, cA_42, cA_54, cA_66, cA_78, cA_90, cA_102, cA_114, cA_126, cA_138, cA_210, cA_222, lc_0, lc_1, lc_2, lc_3, lc_4, lc_5, g_143_20, q_148, nI_neg (show 236 + 9 * i + 8 < 2 ^ 31 by omega), nI_clamp (show 236 + 9 * i + 8 < 2 ^ 31 by omega), k_148 (show 236 + 9 * i + 8 < 2530 by omega), l_148 (show 236 + 9 * i + 8 < 2530 by omega), if_neg (nI_ge hij (show j < 2 ^ 31 by omega)), g_143_35, h0, ne_eq, not_true, hd, wI, nI_p8, hc, Option.bind_some, Option.isSome_some, Option.toList, List.cons_append, List.nil_append, zclr_i, zclr_r, zclr_n, zfit_i, zfit_l, and_self, if_true, if_false]
theorem run_nil (hC : CW B l t s q N S X) (hi : i ≤ 30) : Run n m g B c0 l t s S x d dep a a i i q N k X :=
  ⟨false, X, N, q, k, ⟨Nat.le_refl N, Nat.le_refl q, by omega, hC, XF.rfl', rfl, .inl rfl, fun _ _ => rfl, fun J y => ⟨y, by rw [if_neg (by decide), jb_id]⟩⟩, fun h => absurd h (Nat.lt_irrefl a), fun D z Y JY h h35 => ⟨Y, by rw [jy_id]; exact da_done (by omega), h, h35, YF.rfl'⟩⟩
theorem run_cons {a1 i1 : Nat} (hdep : dep ≤ 3) (hb : k + 4 * (300 - q) ≤ 1200) (ha : a < a1) (hae : a1 ≤ e) (hij : i < j) (hj : j ≤ 30) (hc : c0 (236 + 9 * i + 8) = nI i1) (h1 : One n m g B c0 l t s S x d dep a a1 i q N k X) (h2 : ∀ q' N' k' X', CW B l t s q' N' S X' → N ≤ N' → k' + 4 * (300 - q') ≤ 1200 → Run n m g B c0 l t s S x d dep a1 e i1 j q' N' k' X') : Run n m g B c0 l t s S x d dep a e i j q N k X := by
  obtain ⟨over, X1, N1, q1, k1, ⟨r1, r2, r3, r4, r5, r6, r7, r8, r9⟩, o1, o2⟩ := h1
  cases over with
  | true =>
    refine ⟨true, X1, N1, q1, k1, ⟨r1, r2, r3, r4, r5, r6, r7, fun z hz => r8 z (by omega), fun J y => ?_⟩, fun _ h => (by cases h), fun D z Y JY h h35 => ?_⟩
    · obtain ⟨y', e1⟩ := r9 J y
      rw [if_pos rfl] at e1
      exact ⟨y', by rw [if_pos rfl]; exact e1⟩
    · obtain ⟨Y', b1, b2, b3, b4⟩ := o2 D Y JY h h35
      refine ⟨Y', ?_, b2, b3, b4⟩
      exact (da_step hij hj h35 b1 (by rw [b2.rd (by omega)]; exact hc)).trans (da_end b3)
  | false =>
    obtain ⟨over, X2, N2, q2, k2, ⟨s1, s2, s3, s4, s5, s6, s7, s8, s9⟩, p1, p2⟩ := h2 q1 N1 k1 X1 r4 r1 (bud hdep hb r2 r4.2.2.2.1 r3)
    have hlt := o1 rfl
    refine ⟨over, X2, N2, q2, k2, ⟨by omega, by omega, ?_, s4, r5.trans s5, by rw [s6, r6], ?_, fun z hz => ?_, fun J y => ?_⟩, fun _ _ => by omega, fun D z Y JY h h35 => ?_⟩
    · have e1 : (1 + dep) * (q2 - q) = (1 + dep) * (q1 - q) + (1 + dep) * (q2 - q1) := by
        rw [← Nat.mul_add]
        congr 1
        omega
      omega
    · rcases s7 with h | h
      · rw [h]
        exact r7
      · exact .inr h
    · rw [s8 z (by omega), r8 z (by omega)]
    · obtain ⟨y1, e1⟩ := r9 J y
      obtain ⟨y2, e2⟩ := s9 (jb J t N N1) y1
      rw [if_neg (by decide)] at e1
      rw [jb_jb r1 s1] at e2
      exact ⟨y2, e1.trans e2⟩
    · obtain ⟨Y1, b1, b2, b3, b4⟩ := o2 D Y JY h h35
      obtain ⟨Y2, c1, c2, c3, c4⟩ := p2 D z Y1 (jy JY N N1) b2 b3
      rw [jy_jy r1 s1] at c1
      refine ⟨Y2, ?_, c2, c3, b4.trans c4⟩
      exact (da_step hij hj h35 b1 (by rw [b2.rd (by omega)]; exact hc)).trans c1
end LO
