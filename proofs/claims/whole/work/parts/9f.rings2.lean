/-! RINGS: the class -/
section RH
variable {I X A : Nat → Nat → Int32} {N S U b : Nat}
def farR (X I : Nat → Nat → Int32) : Prop := ∀ a, a ≠ 69 → a ≠ 70 → a ≠ 71 → X a = I a
theorem farR_t {i : Nat} (hb : isTown b) (h : farR X I) (hi : i < 17) : X (b + i) = I (b + i) := h _ (ring_town hb hi).1 (ring_town hb hi).2.1 (ring_town hb hi).2.2
def subR (A : Nat → Nat → Int32) (b N r : Nat) : Prop := ∀ q, r.testBit q = true → q < N ∧ A (b + 6) q = -1
theorem zfind_nI {c : Nat → Bool} {e : Int32} {a : Nat} : ∀ k p, zfind c some none p k = some a → zfind c nI e p k = nI a
  | 0, _, h => by cases h
  | k + 1, p, h => by
    rw [zfind] at h ⊢
    cases e : c p
    · rw [e] at h
      simp only [Bool.false_eq_true, if_false] at h ⊢
      exact zfind_nI k _ h
    · rw [e] at h
      simp only [if_true] at h ⊢
      rw [Option.some.inj h]
theorem tLeast_isS {x : Int32} {f : Nat → Bool} (h : isS x f) : tLeast x = zfind f nI 0 0 12 := by
  unfold tLeast
  refine zfind_congr _ _ (fun q _ hq => ?_)
  rw [bit_isS h (by omega)]
  cases f q <;> simp
theorem isS_cast {x : Int32} {f f' : Nat → Bool} (h : isS x f) (e : ∀ q, f q = f' q) : isS x f' := by
  obtain ⟨r, h1, h2, h3⟩ := h
  exact ⟨r, h1, h2, fun q => (h3 q).trans (e q)⟩
theorem rDear_eq {r p : Nat} (hb : isTown b) (h12 : N ≤ 12) (hX : farR X I) (h3 : X 69 3 = nI r) (hr : r < 4096) (hs : subR I b N r) : ∀ f k, rDear X b p N k f = nI (dr I b r p k f)
  | 0, _ => rfl
  | f + 1, k => by
    have e7 := farR_t (i := 7) hb hX (by decide)
    have e13 := farR_t (i := 13) hb hX (by decide)
    have e6 := farR_t (i := 6) hb hX (by decide)
    have hset : isS (sBear X b (I (b + 13) (p * 6 + k)) N &&& nI r) (fun q => r.testBit q && decide (I (b + 7) q = I (b + 13) (p * 6 + k))) := by
      refine isS_cast (isS_and (isS_bear (A := X) (b := b) h12) (isS_nI hr)) (fun q => ?_)
      rw [e6, e7]
      cases hq : r.testBit q
      · simp
      · simp [hs q hq]
    rw [rDear, dr, e7, e13, h3]
    by_cases e : I (b + 13) (p * 6 + k) = I (b + 7) p
    · rw [if_pos e, if_pos e]
    · rw [if_neg e, if_neg e]
      cases hz : zfind (fun q => r.testBit q && decide (I (b + 7) q = I (b + 13) (p * 6 + k))) some none 0 12 with
      | none =>
        rw [if_pos ((isS_zero hset).mpr (fun q hq => zfind_none_all 12 0 hz q (by omega) (by omega)))]
        exact rDear_eq hb h12 hX h3 hr hs f (k + 1)
      | some q =>
        obtain ⟨_, hq, hc⟩ := zfind_some _ _ hz
        have : ¬ sBear X b (I (b + 13) (p * 6 + k)) N &&& nI r = 0 := fun h => by
          rw [(isS_zero hset).mp h q (by omega)] at hc
          exact absurd hc (by decide)
        rw [if_neg this, tLeast_isS hset, zfind_nI 12 0 hz]
theorem rPoint_eq {r : Nat} (hb : isTown b) (h12 : N ≤ 12) (hX : farR X I) (h3 : X 69 3 = nI r) (hr : r < 4096) (hs : subR I b N r) : (∀ a, a ≠ 71 → zfor (rPoint b N) 0 N X a = X a) ∧ ∀ q, r.testBit q = true → zfor (rPoint b N) 0 N X 71 q = nI (ptr I b r q) := by
  have hz := zfor_inv (f := rPoint b N) (P := fun p Y => (∀ a, a ≠ 71 → Y a = X a) ∧ ∀ q, q < p → r.testBit q = true → Y 71 q = nI (ptr I b r q)) ?_ N 0 X ⟨fun _ _ => rfl, fun q hq => by omega⟩
  · exact ⟨hz.1, fun q hq => hz.2 q (by have := (hs q hq).1; omega) hq⟩
  · rintro p Y ⟨h1, h2⟩
    have hY : farR Y I := fun a a1 a2 a3 => (h1 a a3).trans (hX a a1 a2 a3)
    have hY3 : Y 69 3 = nI r := by rw [h1 69 (by decide)]; exact h3
    unfold rPoint
    rw [hY3]
    cases hp : r.testBit p
    · have : nI r >>> (nI p &&& 31) &&& 1 = 0 ∨ ¬ nI r >>> (nI p &&& 31) &&& 1 = 0 := Classical.em _
      rcases this with h | h
      · rw [if_pos h]
        refine ⟨h1, fun q hq hq2 => ?_⟩
        by_cases e : q = p
        · rw [e, hp] at hq2
          exact absurd hq2 (by decide)
        · exact h2 q (by omega) hq2
      · rw [if_neg h]
        refine ⟨fun a ha => by rw [zu_far _ _ _ ha]; exact h1 a ha, fun q hq hq2 => ?_⟩
        by_cases e : q = p
        · rw [e, hp] at hq2
          exact absurd hq2 (by decide)
        · rw [zu_row, if_neg e]
          exact h2 q (by omega) hq2
    · have hpN := (hs p hp).1
      rw [bit_isS (isS_nI hr) (show p < 12 by omega), hp, if_pos rfl, if_neg (by decide), rDear_eq hb h12 hY hY3 hr hs, farR_t (i := 12) hb hY (by decide)]
      refine ⟨fun a ha => by rw [zu_far _ _ _ ha]; exact h1 a ha, fun q hq hq2 => ?_⟩
      rw [zu_row]
      by_cases e : q = p
      · rw [if_pos e, e]
        unfold ptr
        rw [if_pos hp]
      · rw [if_neg e]
        exact h2 q (by omega) hq2
theorem rLen_eq {F : Nat → Nat} {r p : Nat} (hr : r < 4096) (hp : p < 12) (hF : ∀ q, r.testBit q = true → r.testBit (F q) = true) (hX : ∀ q, r.testBit q = true → X 71 q = nI (F q)) : ∀ f q k, r.testBit q = true → rLen X p q k f = nI (ln F p q k f)
  | 0, _, _, _ => rfl
  | f + 1, q, k, hq => by
    have h1 := bit_lt (N := 12) (by omega) (hF q hq)
    rw [rLen, ln, hX q hq, nI_clamp (show F q < 2 ^ 31 by omega)]
    by_cases e : F q = p
    · rw [if_pos (by rw [e]), if_pos e]
    · rw [if_neg (fun h => e (nI_inj (by omega) (by omega) h)), if_neg e]
      exact rLen_eq hr hp hF hX f (F q) (k + 1) (hF q hq)
theorem rTake_eq {F : Nat → Nat} {r : Nat} (hb : isTown b) (hr : r < 4096) (hF : ∀ q, r.testBit q = true → r.testBit (F q) = true) : ∀ L j q (Y : Nat → Nat → Int32) u, r.testBit q = true → (∀ q, r.testBit q = true → Y 71 q = nI (F q)) → Y 69 3 = nI u → u < 4096 → ∃ v, v < 4096 ∧ (∀ x, v.testBit x = (u.testBit x && !og F L q x)) ∧ (zfor (fun _ => rTake1 b) j L (q, Y)).2 69 3 = nI v ∧ (zfor (fun _ => rTake1 b) j L (q, Y)).2 69 1 = Y 69 1 ∧ (∀ x, (zfor (fun _ => rTake1 b) j L (q, Y)).2 70 x = if og F L q x = true then Y (b + 7) (F x) else Y 70 x) ∧ ∀ a, a ≠ 69 → a ≠ 70 → (zfor (fun _ => rTake1 b) j L (q, Y)).2 a = Y a
  | 0, _, q, Y, u, _, _, h3, hu => ⟨u, hu, fun x => by simp [og], h3, rfl, fun x => by simp [og]; rfl, fun _ _ _ => rfl⟩
  | L + 1, j, q, Y, u, hq, h71, h3, hu => by
    have hq12 := bit_lt (N := 12) (by omega) hq
    have hF12 := bit_lt (N := 12) (by omega) (hF q hq)
    rw [zfor]
    have e1 : rTake1 b (q, Y) = (F q, zu (zu Y 70 q (Y (b + 7) (F q))) 69 3 (nI (rm u q))) := by
      unfold rTake1
      dsimp only
      rw [h71 q hq, nI_clamp (show F q < 2 ^ 31 by omega), h3, rm_nI hu hq12]
    rw [e1]
    generalize hY : zu (zu Y 70 q (Y (b + 7) (F q))) 69 3 (nI (rm u q)) = Y1
    have y71 : Y1 71 = Y 71 := by rw [← hY, zu_far _ _ _ (by decide), zu_far _ _ _ (by decide)]
    have y3 : Y1 69 3 = nI (rm u q) := by rw [← hY, zu_row, if_pos rfl]
    have y1 : Y1 69 1 = Y 69 1 := by rw [← hY, zu_row, if_neg (by decide), zu_far _ _ _ (by decide)]
    have y70 : ∀ x, Y1 70 x = if x = q then Y (b + 7) (F q) else Y 70 x := fun x => by rw [← hY, zu_far _ _ _ (by decide), zu_row]
    have yfar : ∀ a, a ≠ 69 → a ≠ 70 → Y1 a = Y a := fun a a1 a2 => by rw [← hY, zu_far _ _ _ a1, zu_far _ _ _ a2]
    obtain ⟨v, v1, v2, v3, v4, v5, v6⟩ := rTake_eq hb hr hF L (j + 1) (F q) Y1 (rm u q) (hF q hq) (fun x hx => by rw [y71]; exact h71 x hx) y3 (Nat.lt_of_le_of_lt (rm_le _ _) hu)
    refine ⟨v, v1, fun x => ?_, v3, v4.trans y1, fun x => ?_, fun a a1 a2 => (v6 a a1 a2).trans (yfar a a1 a2)⟩
    · rw [v2 x, rm_bit hu hq12, og]
      by_cases e : q = x <;> simp [e]
    · rw [v5 x, yfar _ (ring_town hb (by decide)).1 (ring_town hb (by decide)).2.1, y70, og]
      by_cases e : q = x
      · subst e
        simp
      · have e2 : ¬ x = q := fun h => e h.symm
        simp [e, e2]
theorem zfind_cut {R : Type} {c : Nat → Bool} {r : Nat → R} {e : R} : ∀ k j p, (∀ q, p + k ≤ q → c q = false) → zfind c r e p (k + j) = zfind c r e p k
  | 0, j, p, h => by
    rw [Nat.zero_add]
    exact zfind_none j p (fun q h1 _ => h q (by omega))
  | k + 1, j, p, h => by
    rw [show k + 1 + j = (k + j) + 1 by omega, zfind, zfind, zfind_cut k j (p + 1) (fun q hq => h q (by omega))]
theorem rFirst_eq {F : Nat → Nat} {r : Nat} (hr : r < 4096) (hF : ∀ q, r.testBit q = true → r.testBit (F q) = true) (h3 : X 69 3 = nI r) (hX : ∀ q, r.testBit q = true → X 71 q = nI (F q)) : ∀ f p, p + f ≤ 12 → rFirst b X p f = match zfind (fun p => r.testBit p && decide (ln F p p 1 12 ≠ 0)) some none p f with
    | none => X
    | some p => rTake b p (ln F p p 1 12) X
  | 0, _, _ => rfl
  | f + 1, p, hp => by
    rw [rFirst, zfind, h3, bit_isS (isS_nI hr) (show p < 12 by omega), rFirst_eq hr hF h3 hX f (p + 1) (by omega)]
    cases hb : r.testBit p
    · simp
    · rw [rLen_eq hr (by omega) hF hX 12 p 1 hb]
      have hl : ln F p p 1 12 < 2 ^ 31 := by
        rcases ln_case (F := F) (p := p) 12 p 0 0 with h | ⟨j, h1, h2, _⟩
        · have := h.1
          simp only [Nat.zero_add] at this
          omega
        · simp only [Nat.zero_add] at h2
          omega
      by_cases e : ln F p p 1 12 = 0
      · rw [e]
        simp
        intro h
        exact absurd rfl h
      · have e2 : ¬ nI (ln F p p 1 12) = 0 := fun h => e (nI_inj hl (by decide) h)
        simp [e, e2, nI_clamp hl]
def Rst (X I : Nat → Nat → Int32) (z : RS) : Prop := farR X I ∧ X 69 3 = nI z.1 ∧ X 69 1 = nI z.2.2 ∧ (∀ q, q < 12 → X 70 q = z.2.1 q) ∧ pointOk X
theorem rRound_eq {z : RS} (hb : isTown b) (h12 : N ≤ 12) (hX : Rst X I z) (hr : z.1 < 4096) (h0 : z.1 ≠ 0) (hs : subR I b N z.1) : Rst (rFirst b (zfor (rPoint b N) 0 N X) 0 N) I (rs I b z) := by
  obtain ⟨x1, x2, x3, x4, x5⟩ := hX
  obtain ⟨p1, p2⟩ := rPoint_eq hb h12 x1 x2 hr hs
  have hpt : pointOk (zfor (rPoint b N) 0 N X) := by
    have hz := zfor_inv (f := rPoint b N) (P := fun p Y => p ≤ 12 → pointOk Y) ?_ N 0 X (fun _ => x5)
    · exact hz (by omega)
    · intro p Y ih hp
      have ih := ih (by omega)
      unfold rPoint
      split
      · exact ih
      · intro q hq
        rw [zu_row]
        split
        · exact rDear_case (by omega) _ _
        · exact ih q hq
  generalize zfor (rPoint b N) 0 N X = Y at p1 p2 hpt
  obtain ⟨p, L, R, hp, hbp, hz, hL, hL1, hL12, hRd, hR, hRo, hRp, hRs, e⟩ := rs_is (A := I) (b := b) hr h0
  have hF : ∀ q, z.1.testBit q = true → z.1.testBit (ptr I b z.1 q) = true := fun q h => ptr_in h
  have y3 : Y 69 3 = nI z.1 := by rw [p1 69 (by decide)]; exact x2
  have hz' : zfind (fun p => z.1.testBit p && decide (ln (ptr I b z.1) p p 1 12 ≠ 0)) some none 0 N = some p := by
    rw [← hz, show 12 = N + (12 - N) by omega]
    refine (zfind_cut N (12 - N) 0 (fun q hq => ?_)).symm
    cases e2 : z.1.testBit q
    · simp
    · have := (hs q e2).1
      omega
  have hY7 : Y (b + 7) = I (b + 7) := by rw [p1 _ (ring_town hb (by decide)).2.2]; exact farR_t hb x1 (by decide)
  rw [rFirst_eq hr hF y3 p2 N 0 (by omega), hz', e]
  dsimp only
  rw [hL]
  obtain ⟨v, v1, v2, v3, v4, v5, v6⟩ := rTake_eq hb hr hF L 0 p Y z.1 hbp p2 y3 hr
  have hv : v = z.1 &&& (4095 - R) := Nat.eq_of_testBit_eq (fun x => by rw [v2, sub_bit hr hR, hRo])
  have far2 : ∀ W : Nat → Nat → Int32, (∀ a, a ≠ 69 → a ≠ 70 → W a = Y a) → farR W I ∧ pointOk W := fun W hW => by
    refine ⟨fun a a1 a2 a3 => ?_, ?_⟩
    · rw [hW a a1 a2, p1 a a3]
      exact x1 a a1 a2 a3
    · intro q hq
      rw [hW 71 (by decide) (by decide)]
      exact hpt q hq
  have y1 : Y 69 1 = nI z.2.2 := by rw [p1 69 (by decide)]; exact x3
  have h70 : ∀ q, q < 12 → (if og (ptr I b z.1) L p q = true then Y (b + 7) (ptr I b z.1 q) else Y 70 q) = if R.testBit q = true then I (b + 7) (ptr I b z.1 q) else z.2.1 q := fun q hq => by
    rw [hRo, hY7, p1 70 (by decide), x4 q hq]
  unfold rTake
  by_cases h1 : 1 < L
  · rw [if_pos h1]
    obtain ⟨f1, f2⟩ := far2 (zu (zfor (fun _ => rTake1 b) 0 L (p, Y)).2 69 1 ((zfor (fun _ => rTake1 b) 0 L (p, Y)).2 69 1 + 1)) (fun a a1 a2 => by rw [zu_far _ _ _ a1]; exact v6 a a1 a2)
    refine ⟨f1, ?_, ?_, fun q hq => ?_, f2⟩
    · rw [zu_row, if_neg (by decide), v3, hv]
    · rw [zu_row, if_pos rfl, v4, y1, if_pos h1]
      exact nI_add _ 1
    · rw [zu_far _ _ _ (by decide), v5]
      exact h70 q hq
  · rw [if_neg h1]
    obtain ⟨f1, f2⟩ := far2 (zfor (fun _ => rTake1 b) 0 L (p, Y)).2 v6
    refine ⟨f1, ?_, ?_, fun q hq => ?_, f2⟩
    · rw [v3, hv]
    · rw [v4, y1, if_neg h1]
    · rw [v5]
      exact h70 q hq
theorem rRun_eq (hb : isTown b) (h12 : N ≤ 12) : ∀ f (X : Nat → Nat → Int32) (z : RS), Rst X I z → z.1 < 4096 → subR I b N z.1 → Rst (rRun b N f X) I (rrn I b f z)
  | 0, _, _, h, _, _ => h
  | f + 1, X, z, h, hr, hs => by
    rw [rRun, rrn]
    by_cases e : z.1 = 0
    · rw [if_pos e, if_pos (by rw [h.2.1, e]; rfl)]
      exact h
    · have e2 : ¬ X 69 3 = 0 := fun h9 => e (nI_inj (by omega) (by decide) (by rw [← h.2.1, h9]; rfl))
      rw [if_neg e, if_neg e2]
      have := rs_lt (A := I) (b := b) hr e
      exact rRun_eq hb h12 f _ _ (rRound_eq hb h12 h hr e hs) this.1 (fun q hq => hs q (this.2.2 q hq))
/-- those in the rings: who lives and has a surname -/
def r0F (A : Nat → Nat → Int32) (b N p : Nat) : Bool := decide (p < N) && decide (A (b + 6) p = -1 ∧ A (b + 7) p ≠ -1)
theorem rClose_eq (hb : isTown b) (h12 : N ≤ 12) (hp : pointOk I) : ∃ r, r < 4096 ∧ (∀ p, r.testBit p = r0F I b N p) ∧ Rst (rClose b N I) I (rrn I b 12 (r, fun _ => -1, 0)) := by
  have hz := zfor_inv (f := rIn b) (P := fun p Y => p ≤ 12 → farR Y I ∧ Y 69 1 = 0 ∧ Y 70 = (zu (zu (zr I 70 (fun j => if j < 12 then -1 else I 70 j)) 69 1 0) 69 3 0) 70 ∧ Y 71 = I 71 ∧ ∃ r, r < 4096 ∧ Y 69 3 = nI r ∧ ∀ q, r.testBit q = (decide (q < p) && decide (I (b + 6) q = -1 ∧ I (b + 7) q ≠ -1))) ?_ N 0 (zu (zu (zr I 70 (fun j => if j < 12 then -1 else I 70 j)) 69 1 0) 69 3 0) (fun _ => ⟨?_, ?_, rfl, ?_, 0, by decide, ?_, fun q => by simp⟩)
  · obtain ⟨h1, h2, h3, h4, r, h5, h6, h7⟩ := hz (by omega)
    rw [Nat.zero_add] at h7
    refine ⟨r, h5, h7, ?_⟩
    unfold rClose
    refine rRun_eq hb h12 12 _ _ ⟨h1, h6, h2, fun q hq => ?_, ?_⟩ h5 (fun q hq => ?_)
    · rw [h3, zu_far _ _ _ (by decide), zu_far _ _ _ (by decide), zr_same, if_pos hq]
    · intro q hq
      rw [h4]
      exact hp q hq
    · rw [h7] at hq
      simp at hq
      exact ⟨hq.1, hq.2.1⟩
  · intro p Y ih hp
    obtain ⟨h1, h2, h3, h4, r, h5, h6, h7⟩ := ih (by omega)
    have e6 := farR_t (i := 6) hb h1 (by decide)
    have e7 := farR_t (i := 7) hb h1 (by decide)
    unfold rIn
    rw [e6, e7]
    by_cases e : I (b + 6) p = -1 ∧ I (b + 7) p ≠ -1
    · rw [if_pos e]
      refine ⟨fun a a1 a2 a3 => by rw [zu_far _ _ _ a1]; exact h1 a a1 a2 a3, by rw [zu_row, if_neg (by decide)]; exact h2, by rw [zu_far _ _ _ (by decide)]; exact h3, by rw [zu_far _ _ _ (by decide)]; exact h4, r ||| 2 ^ p, Nat.or_lt_two_pow (n := 12) h5 (bt_lt (by omega)), ?_, fun q => ?_⟩
      · rw [zu_row, if_pos rfl, h6, bt_nI (by omega), nI_or]
      · rw [Nat.testBit_or, h7, Nat.testBit_two_pow]
        by_cases e3 : p = q
        · subst e3
          simp [e]
        · have : (q < p + 1) = (q < p) := by apply propext; omega
          simp [e3, this]
    · rw [if_neg e]
      refine ⟨h1, h2, h3, h4, r, h5, h6, fun q => ?_⟩
      rw [h7]
      by_cases e3 : p = q
      · subst e3
        simp [e]
      · have : (q < p + 1) = (q < p) := by apply propext; omega
        simp [this]
  · intro a a1 a2 a3
    rw [zu_far _ _ _ a1, zu_far _ _ _ a1, zr_far _ _ a2]
  · rw [zu_row, if_neg (by decide), zu_row, if_pos rfl]
  · rw [zu_far _ _ _ (by decide), zu_far _ _ _ (by decide), zr_far _ _ (by decide)]
  · rw [zu_row, if_pos rfl]
    rfl
end RH
