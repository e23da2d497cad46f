/-! LUCK: the numbers -/
section LK
def lL (k : Nat) : Int64 := Int64.ofNat k
theorem lL_toInt {a : Nat} (h : a < 2 ^ 63) : (lL a).toInt = a := Int64.toInt_ofNat_of_lt h
theorem lL_add (a b : Nat) : lL a + lL b = lL (a + b) := (Int64.ofNat_add a b).symm
theorem lL_mul (a b : Nat) : lL a * lL b = lL (a * b) := (Int64.ofNat_mul a b).symm
theorem lL_inj {a b : Nat} (ha : a < 2 ^ 63) (hb : b < 2 ^ 63) (h : lL a = lL b) : a = b := by
  have := congrArg Int64.toInt h
  rw [lL_toInt ha, lL_toInt hb] at this
  omega
theorem lL_0 {b : Nat} (hb : b < 2 ^ 63) : (lL b = 0) = (b = 0) := propext ⟨fun h => lL_inj hb (by decide) h, fun h => by rw [h]; rfl⟩
theorem lL_div {a b : Nat} (ha : a < 2 ^ 63) (hb : b < 2 ^ 63) : lL a / lL b = lL (a / b) := by
  apply Int64.toInt_inj.mp
  have h1 : lL b ≠ -1 := fun h => by
    have := congrArg Int64.toInt h
    rw [lL_toInt hb] at this
    have h2 : (-1 : Int64).toInt = -1 := rfl
    omega
  have h2 : a / b ≤ a := Nat.div_le_self a b
  rw [Int64.toInt_div_of_ne_right _ _ h1, lL_toInt ha, lL_toInt hb, lL_toInt (by omega)]
  rfl
theorem lL_mod {a b : Nat} (ha : a < 2 ^ 63) (hb : b < 2 ^ 63) : lL a - lL a / lL b * lL b = lL (a % b) := by
  rw [lL_div ha hb, lL_mul]
  have h1 : a / b * b ≤ a := Nat.div_mul_le_self a b
  have h2 := Int64.ofNat_sub a (a / b * b) h1
  unfold lL
  rw [← h2]
  congr 1
  have := Nat.div_add_mod a b
  rw [Nat.mul_comm] at this
  omega
theorem lL_pos {a : Nat} (h0 : a ≠ 0) (h : a < 2 ^ 63) : 0 < lL a := by
  apply Int64.lt_iff_toInt_lt.mpr
  rw [lL_toInt h]
  show (0 : Int) < a
  omega
theorem lL_neg {a : Nat} (h : a < 2 ^ 63) : ¬ lL a < 0 := fun h1 => by
  have := Int64.lt_iff_toInt_lt.mp h1
  rw [lL_toInt h] at this
  have h2 : (0 : Int64).toInt = 0 := rfl
  omega
/-- Euclid's steps come to the end -/
theorem euc_gcd : ∀ k f a b, b < 2 ^ k → 2 * k + 1 ≤ f → a < 2 ^ 63 → k ≤ 62 → euc f (lL a) (lL b) = lL (Nat.gcd a b) := by
  intro k
  induction k with
  | zero =>
    intro f a b hb hf ha _
    have : b = 0 := by omega
    subst this
    obtain ⟨f, rfl⟩ : ∃ f', f = f' + 1 := ⟨f - 1, by omega⟩
    rw [euc, if_pos (show lL 0 = 0 from rfl), Nat.gcd_zero_right]
  | succ k ih =>
    intro f a b hb hf ha hk
    have hp : 2 ^ (k + 1) ≤ 2 ^ 62 := Nat.pow_le_pow_right (by decide) hk
    have hb63 : b < 2 ^ 63 := by omega
    obtain ⟨f, rfl⟩ : ∃ f', f = f' + 2 := ⟨f - 2, by omega⟩
    rw [euc]
    by_cases h0 : b = 0
    · rw [if_pos (by rw [h0]; rfl), h0, Nat.gcd_zero_right]
    · rw [if_neg (by rw [lL_0 hb63]; exact h0), lL_mod ha hb63]
      have hr : a % b < b := Nat.mod_lt _ (by omega)
      rw [euc]
      have g1 : Nat.gcd a b = Nat.gcd b (a % b) := by
        rw [Nat.gcd_comm a b, Nat.gcd_rec b a, Nat.gcd_comm]
      by_cases h1 : a % b = 0
      · rw [if_pos (by rw [h1]; rfl), g1, h1, Nat.gcd_zero_right]
      · rw [if_neg (by rw [lL_0 (show a % b < 2 ^ 63 by omega)]; exact h1), lL_mod hb63 (show a % b < 2 ^ 63 by omega)]
        have g2 : Nat.gcd b (a % b) = Nat.gcd (a % b) (b % (a % b)) := by
          rw [Nat.gcd_comm b (a % b), Nat.gcd_rec (a % b) b, Nat.gcd_comm]
        rw [g1, g2]
        refine ih f _ _ ?_ (by omega) (by omega) (by omega)
        have h3 : b % (a % b) < a % b := Nat.mod_lt _ (by omega)
        have h4 : b % (a % b) ≤ b - a % b := by
          have h5 : b % (a % b) = (b - a % b) % (a % b) := Nat.mod_eq_sub_mod (by omega)
          rw [h5]
          exact Nat.mod_le _ _
        have : 2 ^ (k + 1) = 2 * 2 ^ k := by rw [Nat.pow_succ]; omega
        omega
/-- ways to choose -/
def binom : Nat → Nat → Nat
  | _, 0 => 1
  | 0, _ + 1 => 0
  | c + 1, j + 1 => binom c j + binom c (j + 1)
theorem binom_0 : ∀ c j, c < j → binom c j = 0
  | _, 0, h => absurd h (by omega)
  | 0, j + 1, _ => rfl
  | c + 1, j + 1, h => by rw [binom, binom_0 c j (by omega), binom_0 c (j + 1) (by omega)]
theorem choose_eq : ∀ c, c < 13 → ∀ j, j < 13 → j ≤ c → zfor (fun i (a : Int64) => a * (nI c - nI j + nI i).toInt64 / (nI i).toInt64) 1 j 1 = lL (binom c j) := by decide +kernel
theorem power_eq {o : Nat} (ho : o < 17) : ∀ e, zfor (fun _ (a : Int64) => a * (nI o).toInt64) 0 e 1 = lL (o ^ e)
  | 0 => rfl
  | e + 1 => by
    have h1 : ∀ o, o < 17 → (nI o).toInt64 = lL o := by decide +kernel
    rw [zfor_succ, power_eq ho e, h1 o ho, lL_mul, Nat.pow_succ]
theorem odds_eq : ∀ o, o < 17 → (16 : Int32) - nI o = nI (16 - o) := by decide +kernel
theorem odds_l : ∀ o, o < 17 → (nI o).toInt64 = lL o := by decide +kernel
/-- of c bearers j die -/
def tt (o c j : Nat) : Nat := binom c j * o ^ j * (16 - o) ^ (c - j)
theorem tt_0 {o c : Nat} : tt o (c + 1) 0 = tt o c 0 * (16 - o) := by
  unfold tt
  have : ∀ c, binom c 0 = 1 := fun c => by cases c <;> rfl
  rw [this, this, Nat.sub_zero, Nat.sub_zero, Nat.pow_succ, ← Nat.mul_assoc]
theorem tt_1 {o c j : Nat} : tt o (c + 1) (j + 1) = tt o c (j + 1) * (16 - o) + tt o c j * o := by
  unfold tt
  rw [binom, show c + 1 - (j + 1) = c - j by omega, Nat.add_mul, Nat.add_mul, Nat.add_comm]
  congr 1
  · by_cases h : j + 1 ≤ c
    · rw [show c - j = c - (j + 1) + 1 by omega, Nat.pow_succ (n := 16 - o), ← Nat.mul_assoc]
    · rw [binom_0 c (j + 1) (by omega)]
      simp
  · rw [Nat.pow_succ, ← Nat.mul_assoc, Nat.mul_assoc _ o _, Nat.mul_comm o, ← Nat.mul_assoc]
theorem tt_le {o : Nat} (ho : o < 17) : ∀ c j, tt o c j ≤ 16 ^ c
  | 0, 0 => by unfold tt; simp [binom]
  | 0, j + 1 => by unfold tt; simp [binom]
  | c + 1, 0 => by
    rw [tt_0, Nat.pow_succ]
    exact Nat.mul_le_mul (tt_le ho c 0) (by omega)
  | c + 1, j + 1 => by
    rw [tt_1, Nat.pow_succ]
    have h1 := Nat.mul_le_mul_right (16 - o) (tt_le ho c (j + 1))
    have h2 := Nat.mul_le_mul_right o (tt_le ho c j)
    have h3 : 16 ^ c * (16 - o) + 16 ^ c * o = 16 ^ c * 16 := by
      rw [← Nat.mul_add]
      congr 1
      omega
    omega
theorem tt_out {o c j : Nat} (h : c < j) : tt o c j = 0 := by
  unfold tt
  rw [binom_0 c j h]
  simp
def sm (o c k f : Nat) : Nat := zfor (fun j a => a + tt o c j) k f 0
theorem sm_le {o c k : Nat} (ho : o < 17) : ∀ f, sm o c k f ≤ f * 16 ^ c
  | 0 => by unfold sm; simp [zfor]
  | f + 1 => by
    have h := sm_le (c := c) (k := k) ho f
    have h2 := tt_le ho c (k + f)
    unfold sm at *
    rw [zfor_succ, Nat.add_mul]
    omega
theorem sm_eq {o c k : Nat} (hc : c ≤ 12) (hk : k ≤ 12) : sm o c k (13 - k) = sm o c k (c + 1 - k) := by
  unfold sm
  rw [show 13 - k = (c + 1 - k) + (13 - k - (c + 1 - k)) by omega, zfor_add]
  refine zfor_same _ _ _ (fun q x h1 h2 => ?_)
  rw [tt_out (by omega)]
  rfl
theorem sm_l {o c k : Nat} (F : Nat → Int64 → Int64) : ∀ f, (∀ j a, k ≤ j → j < k + f → F j a = a + lL (tt o c j)) → zfor F k f 0 = lL (sm o c k f)
  | 0, _ => rfl
  | f + 1, h => by
    rw [zfor_succ, sm_l F f (fun j a h1 h2 => h j a h1 (by omega)), h (k + f) _ (by omega) (by omega), lL_add]
    unfold sm
    rw [zfor_succ]
theorem wh_lt {c : Nat} (hc : c ≤ 12) : 16 ^ c ≤ 2 ^ 48 := by
  have : 16 ^ c ≤ 16 ^ 12 := Nat.pow_le_pow_right (by decide) hc
  have h : 16 ^ 12 = 2 ^ 48 := by decide
  omega
end LK
