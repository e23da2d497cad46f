/-! THE MOST COUPLES of a set, as a number -/
section MC
def rm (r a : Nat) : Nat := r &&& (4095 - 2 ^ a)
theorem rm_bit {r a p : Nat} (hr : r < 4096) (ha : a < 12) : (rm r a).testBit p = (r.testBit p && decide (a ≠ p)) := by
  unfold rm
  have hb := bt_lt ha
  have := Nat.testBit_two_pow_sub_succ (n := 12) (x := 2 ^ a) (by omega) p
  rw [show 2 ^ 12 - (2 ^ a + 1) = 4095 - 2 ^ a by omega] at this
  rw [Nat.testBit_and, this, Nat.testBit_two_pow]
  by_cases hp : p < 12
  · by_cases e : a = p <;> simp [hp, e]
  · have : r.testBit p = false := Nat.testBit_lt_two_pow (Nat.lt_of_lt_of_le (show r < 2 ^ 12 by omega) (Nat.pow_le_pow_right (show 0 < 2 by decide) (by omega)))
    simp [this]
theorem rm_le (r a : Nat) : rm r a ≤ r := Nat.and_le_left
theorem rm_lt {r a : Nat} (hr : r < 4096) (ha : a < 12) (h : r.testBit a = true) : rm r a < r := by
  have h1 := rm_le r a
  rcases Nat.lt_or_eq_of_le h1 with h2 | h2
  · exact h2
  · have := rm_bit (r := r) (p := a) hr ha
    rw [h2, h] at this
    simp at this
def lst (r : Nat) : Option Nat := zfind r.testBit some none 0 12
def stp (t : Nat → Nat) (can : Nat → Nat → Bool) (r : Nat) : Nat := match lst r with | none => 0 | some a => zfor (fun b acc => if ((rm r a).testBit b && can a b) = true then max acc (1 + t (rm (rm r a) b)) else acc) (a + 1) (11 - a) (t (rm r a))
theorem zfor_congr {α : Type} {f f' : Nat → α → α} : ∀ k p a, (∀ q x, p ≤ q → q < p + k → f q x = f' q x) → zfor f p k a = zfor f' p k a
  | 0, _, _, _ => rfl
  | k + 1, p, a, h => by
    rw [zfor, zfor, h p a (by omega) (by omega)]
    exact zfor_congr k (p + 1) _ (fun q x h1 h2 => h q x (by omega) (by omega))
theorem stp_congr {t t' : Nat → Nat} {can : Nat → Nat → Bool} {r : Nat} (hr : r < 4096) (h : ∀ q, q < r → t q = t' q) : stp t can r = stp t' can r := by
  unfold stp
  cases hl : lst r with
  | none => rfl
  | some a =>
    obtain ⟨_, ha, hb⟩ := zfind_some _ _ hl
    have h1 := rm_lt hr (by omega) hb
    dsimp only
    rw [h _ h1]
    refine zfor_congr _ _ _ (fun q x hq1 hq2 => ?_)
    rw [h (rm (rm r a) q) (Nat.lt_of_le_of_lt (rm_le _ _) h1)]
def tauF (can : Nat → Nat → Bool) : Nat → Nat → Nat
  | 0, _ => 0
  | f + 1, r => stp (tauF can f) can r
def tau (can : Nat → Nat → Bool) (r : Nat) : Nat := tauF can (r + 1) r
theorem tauF_eq {can : Nat → Nat → Bool} : ∀ r, r < 4096 → ∀ f, r < f → tauF can f r = tau can r := by
  intro r
  induction r using Nat.strongRecOn with
  | _ r ih =>
    intro hr f hf
    obtain ⟨g, rfl⟩ : ∃ g, f = g + 1 := ⟨f - 1, by omega⟩
    unfold tau
    rw [tauF, tauF]
    refine stp_congr hr (fun q hq => ?_)
    rw [ih q hq (by omega) g (by omega), ih q hq (by omega) r hq]
theorem tau_eq {can : Nat → Nat → Bool} {r : Nat} (hr : r < 4096) : tau can r = stp (tau can) can r := by
  show tauF can (r + 1) r = _
  rw [tauF]
  exact stp_congr hr (fun q hq => tauF_eq q (by omega) r hq)
theorem cnt_rm {r a : Nat} (hr : r < 4096) (ha : a < 12) (h : r.testBit a = true) : cnt (rm r a).testBit 12 + 1 ≤ cnt r.testBit 12 := by
  refine cnt_more ha (fun q _ e => ?_) ?_ h
  · rw [rm_bit hr ha] at e
    simp at e
    exact e.1
  · rw [rm_bit hr ha]
    simp
theorem tau_le {can : Nat → Nat → Bool} : ∀ r, r < 4096 → tau can r ≤ cnt r.testBit 12 := by
  intro r
  induction r using Nat.strongRecOn with
  | _ r ih =>
    intro hr
    rw [tau_eq hr]
    unfold stp
    cases hl : lst r with
    | none => exact Nat.zero_le _
    | some a =>
      obtain ⟨_, ha, hb⟩ := zfind_some _ _ hl
      have h1 := rm_lt hr (by omega) hb
      have c1 := cnt_rm hr (by omega) hb
      have t1 := ih (rm r a) h1 (by omega)
      dsimp only
      have hz := zfor_inv (f := fun b acc => if ((rm r a).testBit b && can a b) = true then max acc (1 + tau can (rm (rm r a) b)) else acc) (P := fun q acc => q ≤ 12 → acc ≤ cnt r.testBit 12) ?_ (11 - a) (a + 1) (tau can (rm r a)) (fun _ => by omega)
      · exact hz (by omega)
      · intro q acc hacc hq
        have hacc := hacc (by omega)
        split
        · rename_i hc
          simp only [Bool.and_eq_true] at hc
          have h2 := rm_lt (r := rm r a) (by omega) (show q < 12 by omega) hc.1
          have c2 := cnt_rm (r := rm r a) (by omega) (show q < 12 by omega) hc.1
          have t2 := ih (rm (rm r a) q) (by omega) (by omega)
          omega
        · exact hacc
theorem tau_12 {can : Nat → Nat → Bool} {r : Nat} (hr : r < 4096) : tau can r ≤ 12 := by
  have h1 := tau_le (can := can) r hr
  have h2 := cnt_le r.testBit 12 0 0
  unfold cnt at h1
  omega
theorem lst_none {r : Nat} (h : lst r = none) : ∀ p, p < 12 → r.testBit p = false := by
  have : ∀ k p, zfind r.testBit some none p k = none → ∀ q, p ≤ q → q < p + k → r.testBit q = false := by
    intro k
    induction k with
    | zero => intro p _ q h1 h2; omega
    | succ k ih =>
      intro p hz q h1 h2
      rw [zfind] at hz
      cases e : r.testBit p
      · rw [e] at hz
        by_cases e2 : q = p
        · rw [e2]; exact e
        · exact ih (p + 1) (by simpa using hz) q (by omega) (by omega)
      · rw [e] at hz
        simp at hz
  intro p hp
  exact this 12 0 h p (by omega) (by omega)
theorem lst_least {r a : Nat} (h : lst r = some a) : ∀ p, p < a → r.testBit p = false := by
  have : ∀ k p, zfind r.testBit some none p k = some a → ∀ q, p ≤ q → q < a → r.testBit q = false := by
    intro k
    induction k with
    | zero => intro p hz; simp [zfind] at hz
    | succ k ih =>
      intro p hz q h1 h2
      rw [zfind] at hz
      cases e : r.testBit p
      · rw [e] at hz
        by_cases e2 : q = p
        · rw [e2]; exact e
        · exact ih (p + 1) (by simpa using hz) q (by omega) h2
      · rw [e] at hz
        simp at hz
        omega
  intro p hp
  exact this 12 0 h p (by omega) hp
theorem lst_of {r a : Nat} (ha : a < 12) (hb : r.testBit a = true) (hl : ∀ p, p < a → r.testBit p = false) : lst r = some a := by
  cases h : lst r with
  | none =>
    rw [lst_none h a ha] at hb
    exact absurd hb (by decide)
  | some c =>
    obtain ⟨_, hc, hc2⟩ := zfind_some _ _ h
    rcases Nat.lt_trichotomy c a with q | q | q
    · rw [hl c q] at hc2
      exact absurd hc2 (by decide)
    · rw [q]
    · rw [lst_least h a q] at hb
      exact absurd hb (by decide)
/-- only those who can be wed at all count -/
theorem tau_all {can : Nat → Nat → Bool} {all : Nat} (hsym : ∀ a b, a < 12 → b < 12 → can a b = true → can b a = true) (hall : ∀ a b, a < 12 → b < 12 → can a b = true → all.testBit b = true) : ∀ r, r < 4096 → tau can r = tau can (r &&& all) := by
  intro r
  induction r using Nat.strongRecOn with
  | _ r ih =>
    intro hr
    have hra : r &&& all < 4096 := Nat.lt_of_le_of_lt Nat.and_le_left hr
    cases hl : lst r with
    | none =>
      have : r = 0 := Nat.eq_of_testBit_eq (fun p => by
        by_cases hp : p < 12
        · rw [lst_none hl p hp, Nat.zero_testBit]
        · rw [Nat.zero_testBit]
          exact Nat.testBit_lt_two_pow (Nat.lt_of_lt_of_le (show r < 2 ^ 12 by omega) (Nat.pow_le_pow_right (show 0 < 2 by decide) (by omega))))
      rw [this, Nat.zero_and]
    | some a =>
      obtain ⟨_, ha, hb⟩ := zfind_some _ _ hl
      have ha : a < 12 := by omega
      have hlt := rm_lt hr ha hb
      have hrm : rm r a < 4096 := by omega
      rw [tau_eq hr]
      unfold stp
      rw [hl]
      dsimp only
      cases hal : all.testBit a
      · -- nobody for a
        have hno : ∀ q, q < 12 → can a q = false := fun q hq => by
          cases e : can a q
          · rfl
          · have := hall q a hq ha (hsym a q ha hq e)
            rw [hal] at this
            exact absurd this (by decide)
        have e1 : r &&& all = rm r a &&& all := Nat.eq_of_testBit_eq (fun p => by
          rw [Nat.testBit_and, Nat.testBit_and, rm_bit hr ha]
          by_cases e : a = p
          · subst e
            simp [hal]
          · simp [e])
        rw [e1, ← ih (rm r a) hlt hrm]
        have hz := zfor_congr (f := fun b acc => if ((rm r a).testBit b && can a b) = true then max acc (1 + tau can (rm (rm r a) b)) else acc) (f' := fun _ (acc : Nat) => acc) (11 - a) (a + 1) (tau can (rm r a)) (fun q x h1 h2 => by
          have := hno q (by omega)
          simp [this])
        rw [hz]
        have : ∀ k p (x : Nat), zfor (fun _ (acc : Nat) => acc) p k x = x := by
          intro k
          induction k with
          | zero => intro p x; rfl
          | succ k ih => intro p x; rw [zfor, ih]
        exact this _ _ _
      · have hl2 : lst (r &&& all) = some a := lst_of ha (by rw [Nat.testBit_and, hb, hal]; rfl) (fun p hp => by rw [Nat.testBit_and, lst_least hl p hp]; rfl)
        rw [tau_eq hra]
        unfold stp
        rw [hl2]
        dsimp only
        have e1 : rm (r &&& all) a = rm r a &&& all := Nat.eq_of_testBit_eq (fun p => by
          rw [rm_bit hra ha, Nat.testBit_and, Nat.testBit_and, rm_bit hr ha]
          cases r.testBit p <;> cases all.testBit p <;> simp)
        rw [e1, ← ih (rm r a) hlt hrm]
        refine zfor_congr _ _ _ (fun q x h1 h2 => ?_)
        have hq : q < 12 := by omega
        have hrq : rm r a &&& all < 4096 := Nat.lt_of_le_of_lt Nat.and_le_left hrm
        cases hc : can a q
        · simp
        · have haq := hall a q ha hq hc
          have e2 : rm (rm r a &&& all) q = rm (rm r a) q &&& all := Nat.eq_of_testBit_eq (fun p => by
            rw [rm_bit hrq hq, Nat.testBit_and, Nat.testBit_and, rm_bit hrm hq]
            cases (rm r a).testBit p <;> cases all.testBit p <;> simp)
          have e3 : (rm r a &&& all).testBit q = (rm r a).testBit q := by rw [Nat.testBit_and, haq, Bool.and_true]
          rw [e3, e2, ← ih (rm (rm r a) q) (Nat.lt_of_le_of_lt (rm_le _ _) hlt) (Nat.lt_of_le_of_lt (rm_le _ _) hrm)]
end MC
