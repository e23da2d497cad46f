/-! CALLS: kin -/
section QR
variable {n m : Nat} {g : Nat → zC} {I A : Nat → Nat → Int32} {J : Nat → Nat → Int64} {N S U b : Nat}
def adj (A : Nat → Nat → Int32) (b p q : Nat) : Bool := kChild A b (nI q) p || kChild A b (nI p) q
/-- the next of those reached -/
def kG (A : Nat → Nat → Int32) (b N : Nat) (f : Nat → Bool) (q : Nat) : Bool := f q || (decide (q < N) && (List.range N).any (fun p => f p && adj A b p q))
theorem kG_infl : ∀ (f : Nat → Bool) p, f p = true → kG A b N f p = true := fun f p h => by simp [kG, h]
theorem kG_ext (h12 : N ≤ 12) : ∀ f f' : Nat → Bool, (∀ p, p < 12 → f p = f' p) → ∀ p, p < 12 → kG A b N f p = kG A b N f' p := by
  intro f f' h p hp
  unfold kG
  rw [h p hp]
  congr 2
  apply Bool.eq_iff_iff.mpr
  simp only [List.any_eq_true, List.mem_range]
  constructor
  · rintro ⟨q, hq, e⟩
    exact ⟨q, hq, by rw [← h q (by omega)]; exact e⟩
  · rintro ⟨q, hq, e⟩
    exact ⟨q, hq, by rw [h q (by omega)]; exact e⟩
theorem kChild_lt {p r : Nat} (hW : WT A b N S U) (hp : p < N) (hr : r < 12) (h : kChild A b (nI r) p = true) : r < N := by
  have h12 := hW.h12
  unfold kChild at h
  rcases of_decide_eq_true h with e | e
  · rcases hW.one p hp with e2 | ⟨q, hq, e2⟩
    · rw [e] at e2
      exact absurd e2 (nI_m1 (by omega))
    · rw [e, nI_eq (by omega) (by omega)] at e2
      omega
  · rcases hW.two p hp with e2 | ⟨q, hq, e2⟩
    · rw [e] at e2
      exact absurd e2 (nI_m1 (by omega))
    · rw [e, nI_eq (by omega) (by omega)] at e2
      omega
theorem any_eq {f f' : Nat → Bool} {K : Nat} (h : ∀ q, q < K → f q = f' q) : (List.range K).any f = (List.range K).any f' := by
  apply Bool.eq_iff_iff.mpr
  simp only [List.any_eq_true, List.mem_range]
  constructor
  · rintro ⟨q, hq, e⟩
    exact ⟨q, hq, by rw [← h q hq]; exact e⟩
  · rintro ⟨q, hq, e⟩
    exact ⟨q, hq, by rw [h q hq]; exact e⟩
theorem isS_around {s : Int32} {f : Nat → Bool} (hW : WT A b N S U) (hs : isS s f) : isS (s ||| kAround A b s N) (kG A b N f) := by
  have h12 := hW.h12
  have hz := zfor_inv (f := fun q (a : Int32) => if s >>> (nI q &&& 31) &&& 1 = 0 then a else a ||| (kPar A b q ||| sSet (kChild A b (nI q)) N)) (P := fun k a => k ≤ N → isS a (fun r => decide (r < N) && (List.range k).any (fun p => f p && adj A b p r))) ?_ N 0 0 (fun _ => isS_congr isS_0 (fun p _ => by simp) (fun p _ => by simp))
  · rw [Nat.zero_add] at hz
    refine isS_congr (isS_or hs (hz (Nat.le_refl N))) (fun p _ => rfl) (fun p hp => ?_)
    have h1 : ¬ p < N := by omega
    unfold kG
    rw [isS_12 hs hp]
    simp [h1]
  · intro k a ha hk
    have ha := ha (by omega)
    rw [bit_isS hs (by omega)]
    cases hf : f k
    · simp only [Bool.false_eq_true, if_false, if_true]
      refine isS_congr ha (fun r _ => ?_) (fun r hr => ?_)
      · rw [List.range_succ, List.any_append]
        simp [hf]
      · have h1 : ¬ r < N := by omega
        simp [h1]
    · simp only [if_true, show ((1 : Int32) = 0) = False by decide, if_false]
      refine isS_congr (isS_or ha (isS_or (isS_kPar hW (show k < N by omega)) (isS_sSet (kChild A b (nI k)) h12))) (fun r hr => ?_) (fun r hr => ?_)
      · rw [List.range_succ, List.any_append]
        by_cases h1 : r < N
        · simp [h1, hr, hf, adj]
        · have h2 : kChild A b (nI r) k = false := by
            cases e : kChild A b (nI r) k
            · rfl
            · exact absurd (kChild_lt hW (by omega) hr e) h1
          simp [h1, h2]
      · have h1 : ¬ r < N := by omega
        simp [h1]
theorem isS_reach {p : Nat} (hW : WT A b N S U) (hp : p < N) : ∀ k, isS (kReach A b N (nI p) k) (iter (kG A b N) (fun q => decide (p = q)) k)
  | 0 => by
    have h12 := hW.h12
    have : kReach A b N (nI p) 0 = bt p := by
      show kbit (nI p) = _
      unfold kbit
      rw [if_neg (nI_m1 (by omega))]
      rfl
    rw [this]
    exact isS_bt (by omega)
  | k + 1 => by
    have : kReach A b N (nI p) (k + 1) = kReach A b N (nI p) k ||| kAround A b (kReach A b N (nI p) k) N := by
      unfold kReach
      rw [zfor_succ]
    rw [this]
    exact isS_around hW (isS_reach hW hp k)
theorem bit_bt {s : Int32} {f : Nat → Bool} {q : Nat} (hs : isS s f) (hq : q < 12) : (¬ s &&& kbit (nI q) = 0) ↔ f q = true := by
  have hk : kbit (nI q) = bt q := by
    unfold kbit
    rw [if_neg (nI_m1 (by omega))]
    rfl
  rw [hk, isS_ne0 (isS_and hs (isS_bt hq))]
  constructor
  · rintro ⟨p, hp, e⟩
    simp only [Bool.and_eq_true, decide_eq_true_eq] at e
    rw [e.2]
    exact e.1
  · intro e
    exact ⟨q, hq, by simp [e]⟩
/-- the first of the steps at which one is reached -/
def kFirst (A : Nat → Nat → Int32) (b N p q K : Nat) : Int32 := zfind (fun k => iter (kG A b N) (fun r => decide (p = r)) k q) nI (-1) 0 K
theorem zfind_congr {R : Type} {c c' : Nat → Bool} {r : Nat → R} {e : R} : ∀ k p, (∀ q, p ≤ q → q < p + k → c q = c' q) → zfind c r e p k = zfind c' r e p k
  | 0, _, _ => rfl
  | k + 1, p, h => by
    rw [zfind, zfind, h p (by omega) (by omega), zfind_congr k (p + 1) (fun q h1 h2 => h q (by omega) (by omega))]
theorem zfind_none {R : Type} {c : Nat → Bool} {r : Nat → R} {e : R} : ∀ k p, (∀ q, p ≤ q → q < p + k → c q = false) → zfind c r e p k = e
  | 0, _, _ => rfl
  | k + 1, p, h => by
    rw [zfind, h p (by omega) (by omega), zfind_none k (p + 1) (fun q h1 h2 => h q (by omega) (by omega))]
    rfl
theorem zfind_last {R : Type} {c : Nat → Bool} {r : Nat → R} {e : R} : ∀ k p, (c (p + k) = true → ∃ q, p ≤ q ∧ q < p + k ∧ c q = true) → zfind c r e p (k + 1) = zfind c r e p k
  | 0, p, h => by
    rw [zfind, zfind, zfind]
    cases hc : c p
    · rfl
    · obtain ⟨q, h1, h2, _⟩ := h (by rw [Nat.add_zero]; exact hc)
      omega
  | k + 1, p, h => by
    rw [zfind, zfind.eq_def c r e p (k + 1)]
    dsimp only
    cases hc : c p
    · simp only [Bool.false_eq_true, if_false]
      refine zfind_last k (p + 1) (fun hk => ?_)
      obtain ⟨q, h1, h2, h3⟩ := h (by rw [show p + (k + 1) = p + 1 + k by omega]; exact hk)
      refine ⟨q, ?_, by omega, h3⟩
      by_cases e : q = p
      · rw [e, hc] at h3
        exact absurd h3 (by decide)
      · omega
    · rfl
theorem steps_first {p q : Nat} (hW : WT A b N S U) (hp : p < N) (hq : q < N) : kSteps A b N (nI p) (nI q) = kFirst A b N p q 12 := by
  have h12 := hW.h12
  unfold kSteps kFirst
  have e1 : zfind (fun k => decide (¬ kReach A b N (nI p) k &&& kbit (nI q) = 0)) nI (-1) 0 13 = zfind (fun k => iter (kG A b N) (fun r => decide (p = r)) k q) nI (-1) 0 13 := by
    refine zfind_congr 13 0 (fun k _ _ => ?_)
    apply Bool.eq_iff_iff.mpr
    rw [decide_eq_true_eq]
    exact bit_bt (isS_reach hW hp k) (by omega)
  rw [e1]
  refine zfind_last 12 0 (fun h => ⟨11, by omega, by omega, ?_⟩)
  rw [Nat.zero_add] at h
  rw [← stab11 kG_infl (kG_ext h12) ?_ q (by omega)]
  · exact h
  · have := cnt_more (f := fun _ => false) (f' := fun r => decide (p = r)) (p := p) (by omega) (fun _ _ h => by simp at h) rfl (by simp)
    omega
end QR
