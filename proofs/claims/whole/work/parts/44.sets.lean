/-! SETS of the twelve by what they hold; sizes; the constants of the reference -/
theorem nI_andn (a b : Nat) : nI a &&& nI b = nI (a &&& b) := by
  apply Int32.toBitVec_inj.mp
  show BitVec.ofNat 32 a &&& BitVec.ofNat 32 b = BitVec.ofNat 32 (a &&& b)
  apply BitVec.eq_of_toNat_eq
  simp [BitVec.toNat_and, Nat.and_mod_two_pow]
theorem bt_lt {q : Nat} (h : q < 12) : 2 ^ q < 4096 := Nat.pow_lt_pow_right (by decide) h
theorem nI_inj {a b : Nat} (ha : a < 2 ^ 31) (hb : b < 2 ^ 31) (h : nI a = nI b) : a = b := by
  have : (nI a).toBitVec.toNat = (nI b).toBitVec.toNat := by rw [h]
  simp only [nI, Int32.toBitVec_ofNat', BitVec.toNat_ofNat] at this
  omega
theorem nI_andNot {a b : Nat} (ha : a < 4096) (hb : b < 4096) : nI a &&& (nI b ^^^ -1) = nI (a &&& (4095 - b)) := by
  apply Int32.toBitVec_inj.mp
  apply BitVec.eq_of_getLsbD_eq
  intro i hi
  have e : (nI b ^^^ -1 : Int32).toBitVec = ~~~ (BitVec.ofNat 32 b) := by
    rw [Int32.toBitVec_xor, show ((-1 : Int32)).toBitVec = BitVec.allOnes 32 from rfl, BitVec.xor_allOnes]
    rfl
  have h95 : (4095 - b).testBit i = (decide (i < 12) && !b.testBit i) := by
    have := Nat.testBit_two_pow_sub_succ (n := 12) (x := b) (by omega) i
    rw [show 2 ^ 12 - (b + 1) = 4095 - b by omega] at this
    exact this
  rw [Int32.toBitVec_and, e, BitVec.getLsbD_and, BitVec.getLsbD_not]
  show ((BitVec.ofNat 32 a).getLsbD i && _) = (BitVec.ofNat 32 (a &&& (4095 - b))).getLsbD i
  rw [BitVec.getLsbD_ofNat, BitVec.getLsbD_ofNat, BitVec.getLsbD_ofNat, Nat.testBit_and, h95]
  by_cases h12 : i < 12
  · simp [hi, h12]
  · have : a.testBit i = false := Nat.testBit_lt_two_pow (Nat.lt_of_lt_of_le (show a < 2 ^ 12 by omega) (Nat.pow_le_pow_right (show 0 < 2 by decide) (show 12 ≤ i by omega)))
    simp [this]
theorem shr_nI {r p : Nat} (hr : r < 2 ^ 31) (hp : p < 12) : nI r >>> (nI p &&& 31) = nI (r >>> p) := by
  apply Int32.toBitVec_inj.mp
  rw [Int32.toBitVec_shiftRight]
  have hm : (nI r).toBitVec.msb = false := by
    rw [BitVec.msb_eq_decide]
    simp [nI, Nat.mod_eq_of_lt (show r < 4294967296 by omega)]
    omega
  have e : ((nI p &&& 31).toBitVec.smod 32).toNat = p := by
    have : p = 0 ∨ p = 1 ∨ p = 2 ∨ p = 3 ∨ p = 4 ∨ p = 5 ∨ p = 6 ∨ p = 7 ∨ p = 8 ∨ p = 9 ∨ p = 10 ∨ p = 11 := by omega
    rcases this with rfl | rfl | rfl | rfl | rfl | rfl | rfl | rfl | rfl | rfl | rfl | rfl <;> decide
  rw [BitVec.sshiftRight', e, BitVec.sshiftRight_eq_of_msb_false hm]
  apply BitVec.eq_of_toNat_eq
  have : r >>> p ≤ r := Nat.shiftRight_le r p
  simp [nI, BitVec.toNat_ushiftRight]
  rw [Nat.mod_eq_of_lt (show r < 4294967296 by omega), Nat.mod_eq_of_lt (show r >>> p < 4294967296 by omega)]
/-- x is the set of the p at which f holds -/
def isS (x : Int32) (f : Nat → Bool) : Prop := ∃ r, r < 4096 ∧ x = nI r ∧ ∀ p, r.testBit p = f p
theorem isS_12 {x : Int32} {f : Nat → Bool} (h : isS x f) {p : Nat} (hp : 12 ≤ p) : f p = false := by
  obtain ⟨r, hr, _, hf⟩ := h
  rw [← hf]
  exact Nat.testBit_lt_two_pow (Nat.lt_of_lt_of_le (show r < 2 ^ 12 by omega) (Nat.pow_le_pow_right (show 0 < 2 by decide) hp))
theorem isS_eq {x y : Int32} {f f' : Nat → Bool} (hx : isS x f) (hy : isS y f') (h : ∀ p, p < 12 → f p = f' p) : x = y := by
  have hh : ∀ p, f p = f' p := fun p => by
    by_cases hp : p < 12
    · exact h p hp
    · rw [isS_12 hx (by omega), isS_12 hy (by omega)]
  obtain ⟨r, _, rfl, hf⟩ := hx
  obtain ⟨s, _, rfl, hg⟩ := hy
  have : r = s := Nat.eq_of_testBit_eq (fun p => by rw [hf, hg, hh])
  rw [this]
theorem isS_or {x y : Int32} {f f' : Nat → Bool} (hx : isS x f) (hy : isS y f') : isS (x ||| y) (fun p => f p || f' p) := by
  obtain ⟨r, hr, rfl, hf⟩ := hx
  obtain ⟨s, hs, rfl, hg⟩ := hy
  exact ⟨r ||| s, Nat.or_lt_two_pow (n := 12) hr hs, nI_or r s, fun p => by rw [Nat.testBit_or, hf, hg]⟩
theorem isS_and {x y : Int32} {f f' : Nat → Bool} (hx : isS x f) (hy : isS y f') : isS (x &&& y) (fun p => f p && f' p) := by
  obtain ⟨r, hr, rfl, hf⟩ := hx
  obtain ⟨s, hs, rfl, hg⟩ := hy
  exact ⟨r &&& s, Nat.lt_of_le_of_lt Nat.and_le_left hr, nI_andn r s, fun p => by rw [Nat.testBit_and, hf, hg]⟩
theorem isS_sub {x y : Int32} {f f' : Nat → Bool} (hx : isS x f) (hy : isS y f') : isS (x &&& (y ^^^ -1)) (fun p => f p && !f' p) := by
  obtain ⟨r, hr, rfl, hf⟩ := hx
  obtain ⟨s, hs, rfl, hg⟩ := hy
  refine ⟨r &&& (4095 - s), Nat.lt_of_le_of_lt Nat.and_le_left hr, nI_andNot hr hs, fun p => ?_⟩
  have := Nat.testBit_two_pow_sub_succ (n := 12) (x := s) (by omega) p
  rw [show 2 ^ 12 - (s + 1) = 4095 - s by omega] at this
  rw [Nat.testBit_and, this, hf, hg]
  by_cases h12 : p < 12
  · simp [h12]
  · have : f p = false := by
      rw [← hf]
      exact Nat.testBit_lt_two_pow (Nat.lt_of_lt_of_le (show r < 2 ^ 12 by omega) (Nat.pow_le_pow_right (show 0 < 2 by decide) (show 12 ≤ p by omega)))
    simp [this]
theorem isS_0 : isS 0 (fun _ => false) := ⟨0, by decide, rfl, fun p => Nat.zero_testBit p⟩
theorem isS_bt {q : Nat} (h : q < 12) : isS (bt q) (fun p => decide (q = p)) := ⟨2 ^ q, bt_lt h, bt_nI h, fun p => Nat.testBit_two_pow⟩
theorem isS_zfor (c : Nat → Bool) : ∀ k p (a : Int32) (f : Nat → Bool), p + k ≤ 12 → isS a f → isS (zfor (fun p (a : Int32) => if c p = true then a ||| bt p else a) p k a) (fun q => f q || (decide (p ≤ q) && decide (q < p + k) && c q))
  | 0, p, a, f, _, h => by
    obtain ⟨r, hr, rfl, hf⟩ := h
    exact ⟨r, hr, rfl, fun q => by rw [hf]; by_cases h1 : p ≤ q <;> simp [h1]; omega⟩
  | k + 1, p, a, f, hp, h => by
    rw [zfor]
    have h1 : isS (if c p = true then a ||| bt p else a) (fun q => f q || (decide (p = q) && c q)) := by
      split
      · rename_i hc
        obtain ⟨r, hr, e, hf⟩ := isS_or h (isS_bt (show p < 12 by omega))
        refine ⟨r, hr, e, fun q => ?_⟩
        rw [hf]
        by_cases e : p = q
        · subst e; simp [hc]
        · simp [e]
      · rename_i hc
        obtain ⟨r, hr, e, hf⟩ := h
        refine ⟨r, hr, e, fun q => ?_⟩
        rw [hf]
        by_cases e : p = q
        · subst e; simp [hc]
        · simp [e]
    obtain ⟨r, hr, e, hf⟩ := isS_zfor c k (p + 1) _ _ (by omega) h1
    refine ⟨r, hr, e, fun q => ?_⟩
    rw [hf]
    by_cases e : p = q
    · subst e
      have e1 : decide (p + 1 ≤ p) = false := by simp
      simp [e1]
    · have e1 : decide (p + 1 ≤ q) = decide (p ≤ q) := by
        by_cases h1 : p ≤ q <;> simp <;> omega
      have e2 : decide (q < p + 1 + k) = decide (q < p + (k + 1)) := by congr 1; simp; omega
      simp [e, e1, e2]
theorem isS_sSet (c : Nat → Bool) {N : Nat} (h : N ≤ 12) : isS (sSet c N) (fun p => decide (p < N) && c p) := by
  obtain ⟨r, hr, e, hf⟩ := isS_zfor c N 0 0 _ (by omega) isS_0
  exact ⟨r, hr, e, fun p => by rw [hf]; simp⟩
theorem isS_full {N : Nat} (h : N ≤ 12) : isS (1 <<< (nI N &&& 31) - 1) (fun p => decide (p < N)) := by
  refine ⟨2 ^ N - 1, ?_, ?_, fun p => Nat.testBit_two_pow_sub_one N p⟩
  · have : 2 ^ N ≤ 2 ^ 12 := Nat.pow_le_pow_right (by decide) h
    omega
  · have : N = 0 ∨ N = 1 ∨ N = 2 ∨ N = 3 ∨ N = 4 ∨ N = 5 ∨ N = 6 ∨ N = 7 ∨ N = 8 ∨ N = 9 ∨ N = 10 ∨ N = 11 ∨ N = 12 := by omega
    rcases this with rfl | rfl | rfl | rfl | rfl | rfl | rfl | rfl | rfl | rfl | rfl | rfl | rfl <;> rfl
theorem bit_isS {x : Int32} {f : Nat → Bool} (h : isS x f) {p : Nat} (hp : p < 12) : x >>> (nI p &&& 31) &&& 1 = if f p = true then 1 else 0 := by
  obtain ⟨r, hr, rfl, hf⟩ := h
  rw [shr_nI (by omega) hp, show (1 : Int32) = nI 1 from rfl, nI_andn, Nat.and_comm, Nat.one_and_eq_mod_two, ← hf]
  rw [Nat.testBit, Nat.and_comm, Nat.and_one_is_mod]
  rcases Nat.mod_two_eq_zero_or_one (r >>> p) with e | e <;> rw [e] <;> rfl
theorem isS_zero {x : Int32} {f : Nat → Bool} (h : isS x f) : x = 0 ↔ ∀ p, p < 12 → f p = false := by
  constructor
  · intro e p hp
    obtain ⟨r, hr, rfl, hf⟩ := h
    have : r = 0 := nI_inj (by omega) (by decide) e
    rw [← hf, this, Nat.zero_testBit]
  · intro e
    exact isS_eq h isS_0 e
def cnt (f : Nat → Bool) (N : Nat) : Nat := zfor (fun p a => if f p = true then a + 1 else a) 0 N 0
def jbcOk (r : Nat) : Bool := jbc (nI r) == nI (cnt r.testBit 12)
def allBelow (f : Nat → Bool) : Nat → Nat → Bool
  | _, 0 => true
  | p, k + 1 => f p && allBelow f (p + 1) k
theorem allBelow_at {f : Nat → Bool} : ∀ k p, allBelow f p k = true → ∀ q, p ≤ q → q < p + k → f q = true
  | 0, p, _, q, h1, h2 => by omega
  | k + 1, p, h, q, h1, h2 => by
    rw [allBelow, Bool.and_eq_true] at h
    by_cases e : q = p
    · subst e; exact h.1
    · exact allBelow_at k (p + 1) h.2 q (by omega) (by omega)
theorem jbc_all : allBelow jbcOk 0 4096 = true := by decide +kernel
theorem isS_jbc {x : Int32} {f : Nat → Bool} (h : isS x f) : jbc x = nI (cnt f 12) := by
  obtain ⟨r, hr, rfl, hf⟩ := h
  have := allBelow_at 4096 0 jbc_all r (by omega) (by omega)
  rw [jbcOk, beq_iff_eq] at this
  rw [this]
  have : r.testBit = f := funext hf
  rw [this]
theorem cA_6 (p : Nat) : (6 : Int32) + nI p = nI (6 + p) := nI_add 6 p
theorem cA_12 (p : Nat) : (12 : Int32) + nI p = nI (12 + p) := nI_add 12 p
theorem cA_18 (p : Nat) : (18 : Int32) + nI p = nI (18 + p) := nI_add 18 p
theorem cA_30 (p : Nat) : (30 : Int32) + nI p = nI (30 + p) := nI_add 30 p
theorem cA_42 (p : Nat) : (42 : Int32) + nI p = nI (42 + p) := nI_add 42 p
theorem cA_54 (p : Nat) : (54 : Int32) + nI p = nI (54 + p) := nI_add 54 p
theorem cA_66 (p : Nat) : (66 : Int32) + nI p = nI (66 + p) := nI_add 66 p
theorem cA_78 (p : Nat) : (78 : Int32) + nI p = nI (78 + p) := nI_add 78 p
theorem cA_90 (p : Nat) : (90 : Int32) + nI p = nI (90 + p) := nI_add 90 p
theorem cA_102 (p : Nat) : (102 : Int32) + nI p = nI (102 + p) := nI_add 102 p
theorem cA_114 (p : Nat) : (114 : Int32) + nI p = nI (114 + p) := nI_add 114 p
theorem cA_126 (p : Nat) : (126 : Int32) + nI p = nI (126 + p) := nI_add 126 p
theorem cA_138 (p : Nat) : (138 : Int32) + nI p = nI (138 + p) := nI_add 138 p
theorem cA_210 (p : Nat) : (210 : Int32) + nI p = nI (210 + p) := nI_add 210 p
theorem cA_222 (p : Nat) : (222 : Int32) + nI p = nI (222 + p) := nI_add 222 p
theorem cA_2024 (p : Nat) : (2024 : Int32) + nI p = nI (2024 + p) := nI_add 2024 p
theorem cA_2030 (p : Nat) : (2030 : Int32) + nI p = nI (2030 + p) := nI_add 2030 p
theorem cA_2036 (p : Nat) : (2036 : Int32) + nI p = nI (2036 + p) := nI_add 2036 p
theorem cA_2042 (p : Nat) : (2042 : Int32) + nI p = nI (2042 + p) := nI_add 2042 p
theorem cA_2054 (p : Nat) : (2054 : Int32) + nI p = nI (2054 + p) := nI_add 2054 p
theorem cA_2066 (p : Nat) : (2066 : Int32) + nI p = nI (2066 + p) := nI_add 2066 p
theorem cA_2078 (p : Nat) : (2078 : Int32) + nI p = nI (2078 + p) := nI_add 2078 p
theorem cA_2090 (p : Nat) : (2090 : Int32) + nI p = nI (2090 + p) := nI_add 2090 p
theorem cA_2102 (p : Nat) : (2102 : Int32) + nI p = nI (2102 + p) := nI_add 2102 p
theorem cA_2114 (p : Nat) : (2114 : Int32) + nI p = nI (2114 + p) := nI_add 2114 p
theorem cA_2126 (p : Nat) : (2126 : Int32) + nI p = nI (2126 + p) := nI_add 2126 p
theorem cA_2138 (p : Nat) : (2138 : Int32) + nI p = nI (2138 + p) := nI_add 2138 p
theorem cA_2150 (p : Nat) : (2150 : Int32) + nI p = nI (2150 + p) := nI_add 2150 p
theorem cA_2162 (p : Nat) : (2162 : Int32) + nI p = nI (2162 + p) := nI_add 2162 p
theorem cA_2234 (p : Nat) : (2234 : Int32) + nI p = nI (2234 + p) := nI_add 2234 p
theorem cA_2246 (p : Nat) : (2246 : Int32) + nI p = nI (2246 + p) := nI_add 2246 p
theorem cA_236 (p : Nat) : (236 : Int32) + nI p = nI (236 + p) := nI_add 236 p
theorem cA_2260 (p : Nat) : (2260 : Int32) + nI p = nI (2260 + p) := nI_add 2260 p
theorem ltc_0 : ((0 : Int32) < 0) = False := by decide
theorem clc_0 : (0 : Int32).toNatClampNeg = 0 := by decide
theorem ltc_1 : ((1 : Int32) < 0) = False := by decide
theorem clc_1 : (1 : Int32).toNatClampNeg = 1 := by decide
theorem ltc_2 : ((2 : Int32) < 0) = False := by decide
theorem clc_2 : (2 : Int32).toNatClampNeg = 2 := by decide
theorem ltc_3 : ((3 : Int32) < 0) = False := by decide
theorem clc_3 : (3 : Int32).toNatClampNeg = 3 := by decide
theorem ltc_4 : ((4 : Int32) < 0) = False := by decide
theorem clc_4 : (4 : Int32).toNatClampNeg = 4 := by decide
theorem ltc_5 : ((5 : Int32) < 0) = False := by decide
theorem clc_5 : (5 : Int32).toNatClampNeg = 5 := by decide
theorem ltc_234 : ((234 : Int32) < 0) = False := by decide
theorem clc_234 : (234 : Int32).toNatClampNeg = 234 := by decide
theorem ltc_235 : ((235 : Int32) < 0) = False := by decide
theorem clc_235 : (235 : Int32).toNatClampNeg = 235 := by decide
theorem ltc_2024 : ((2024 : Int32) < 0) = False := by decide
theorem clc_2024 : (2024 : Int32).toNatClampNeg = 2024 := by decide
theorem ltc_2025 : ((2025 : Int32) < 0) = False := by decide
theorem clc_2025 : (2025 : Int32).toNatClampNeg = 2025 := by decide
theorem ltc_2026 : ((2026 : Int32) < 0) = False := by decide
theorem clc_2026 : (2026 : Int32).toNatClampNeg = 2026 := by decide
theorem ltc_2027 : ((2027 : Int32) < 0) = False := by decide
theorem clc_2027 : (2027 : Int32).toNatClampNeg = 2027 := by decide
theorem ltc_2028 : ((2028 : Int32) < 0) = False := by decide
theorem clc_2028 : (2028 : Int32).toNatClampNeg = 2028 := by decide
theorem ltc_2029 : ((2029 : Int32) < 0) = False := by decide
theorem clc_2029 : (2029 : Int32).toNatClampNeg = 2029 := by decide
section SE
variable {n m : Nat} {g : Nat → zC} {I : Nat → Nat → Int32} {J : Nat → Nat → Int64}
theorem lc_0 : zld (mk n m g I J) 148 0 = some (I 148 0) := l_148 (k := 0) (by decide)
theorem lc_1 : zld (mk n m g I J) 148 1 = some (I 148 1) := l_148 (k := 1) (by decide)
theorem lc_2 : zld (mk n m g I J) 148 2 = some (I 148 2) := l_148 (k := 2) (by decide)
theorem lc_3 : zld (mk n m g I J) 148 3 = some (I 148 3) := l_148 (k := 3) (by decide)
theorem lc_4 : zld (mk n m g I J) 148 4 = some (I 148 4) := l_148 (k := 4) (by decide)
theorem lc_5 : zld (mk n m g I J) 148 5 = some (I 148 5) := l_148 (k := 5) (by decide)
theorem lc_234 : zld (mk n m g I J) 148 234 = some (I 148 234) := l_148 (k := 234) (by decide)
theorem lc_235 : zld (mk n m g I J) 148 235 = some (I 148 235) := l_148 (k := 235) (by decide)
theorem lc_2024 : zld (mk n m g I J) 148 2024 = some (I 148 2024) := l_148 (k := 2024) (by decide)
theorem lc_2025 : zld (mk n m g I J) 148 2025 = some (I 148 2025) := l_148 (k := 2025) (by decide)
theorem lc_2026 : zld (mk n m g I J) 148 2026 = some (I 148 2026) := l_148 (k := 2026) (by decide)
theorem lc_2027 : zld (mk n m g I J) 148 2027 = some (I 148 2027) := l_148 (k := 2027) (by decide)
theorem lc_2028 : zld (mk n m g I J) 148 2028 = some (I 148 2028) := l_148 (k := 2028) (by decide)
theorem lc_2029 : zld (mk n m g I J) 148 2029 = some (I 148 2029) := l_148 (k := 2029) (by decide)
end SE
