/-! LOOPS: f at p, p + 1, .. , k times -/
def zfor {α : Type} (f : Nat → α → α) : Nat → Nat → α → α
  | _, 0, a => a
  | p, k + 1, a => zfor f (p + 1) k (f p a)
theorem zloop {α R : Type} (X : Nat → α → R) (f : Nat → α → α) (N : Nat) (hs : ∀ p a, p < N → X p a = X (p + 1) (f p a)) : ∀ k p a, p + k = N → X p a = X N (zfor f p k a)
  | 0, p, a, h => by
    rw [show p = N by omega]
    rfl
  | k + 1, p, a, h => by
    rw [hs p a (by omega)]
    exact zloop X f N hs k (p + 1) (f p a) (by omega)
theorem zfit_i (x : Int32) : zfit .int (.int x) = true := rfl
theorem zfit_l (x : Int64) : zfit .long (.long x) = true := rfl
theorem zfit_b0 : zfit .boolean (.int 0) = true := rfl
theorem zfit_b1 : zfit .boolean (.int 1) = true := rfl
theorem zclr_i (x : Int32) : zclr (some (.int x)) = some (.int x) := rfl
theorem zclr_r (x : Nat) : zclr (some (.ref x)) = some (.ref x) := rfl
theorem zclr_n : zclr none = none := rfl
theorem zclr_l (x : Int64) : zclr (some (.long x)) = none := rfl
/-- a loop with an invariant -/
theorem zloopI {α R : Type} (X : Nat → α → R) (f : Nat → α → α) (P : Nat → α → Prop) (N : Nat) (hs : ∀ p a, p < N → P p a → X p a = X (p + 1) (f p a) ∧ P (p + 1) (f p a)) : ∀ k p a, p + k = N → P p a → X p a = X N (zfor f p k a) ∧ P N (zfor f p k a)
  | 0, p, a, h, hp => by
    have : p = N := by omega
    subst this
    exact ⟨rfl, hp⟩
  | k + 1, p, a, h, hp => by
    have h1 := hs p a (by omega) hp
    rw [h1.1]
    exact zloopI X f P N hs k (p + 1) (f p a) (by omega) h1.2
/-- the first of p, p + 1, .. (k of them) at which c holds gives r, else e -/
def zfind {R : Type} (c : Nat → Bool) (r : Nat → R) (e : R) : Nat → Nat → R
  | _, 0 => e
  | p, k + 1 => if c p = true then r p else zfind c r e (p + 1) k
theorem zsearch {R : Type} (X : Nat → R) (c : Nat → Bool) (r : Nat → R) (N : Nat) (hs : ∀ p, p < N → X p = if c p = true then r p else X (p + 1)) : ∀ k p, p + k = N → X p = zfind c r (X N) p k
  | 0, p, h => by
    rw [show p = N by omega]
    rfl
  | k + 1, p, h => by
    rw [hs p (by omega), zfind, zsearch X c r N hs k (p + 1) (by omega)]
/-- the bit of a number, and sets of numbers below N -/
def bt (p : Nat) : Int32 := 1 <<< (nI p &&& 31)
def sSet (c : Nat → Bool) (N : Nat) : Int32 := zfor (fun p (a : Int32) => if c p = true then a ||| bt p else a) 0 N 0
theorem nI_6 (p k : Nat) : nI p * 6 + nI k = nI (p * 6 + k) := by
  rw [show (6 : Int32) = nI 6 from rfl, pk_mul, nI_add]
theorem nI_2 (p : Nat) : 2 * nI p = nI (2 * p) := by
  rw [show (2 : Int32) = nI 2 from rfl, pk_mul]
theorem nI_m1 {p : Nat} (h : p < 2 ^ 31) : nI p ≠ -1 := fun e => by
  have h0 := nI_pos h
  rw [e] at h0
  exact h0 (by decide)
/-! the JDK's own: max, min, abs, bitCount -/
theorem j_max (d : Nat) (x y : Int32) (h : zH) : zcall d 418 [.int x, .int y] h = some (some (.int (if x < y then y else x)), h) := by
  rw [m_J9_max_7cf53]
  simp only [e_J9_max_7cf53_0, e_J9_max_7cf53_1, e_J9_max_7cf53_2, e_J9_max_7cf53_5, e_J9_max_7cf53_6, e_J9_max_7cf53_9, e_J9_max_7cf53_10]
  by_cases h1 : x < y <;> simp [h1]
theorem j_min (d : Nat) (x y : Int32) (h : zH) : zcall d 419 [.int x, .int y] h = some (some (.int (if y < x then y else x)), h) := by
  rw [m_J9_min_7cf53]
  simp only [e_J9_min_7cf53_0, e_J9_min_7cf53_1, e_J9_min_7cf53_2, e_J9_min_7cf53_5, e_J9_min_7cf53_6, e_J9_min_7cf53_9, e_J9_min_7cf53_10]
  by_cases h1 : y < x <;> simp [h1]
theorem j_abs (d : Nat) (x : Int64) (h : zH) : zcall d 417 [.long x] h = some (some (.long (if x < 0 then -x else x)), h) := by
  rw [m_J9_abs_067f4]
  simp only [e_J9_abs_067f4_0, e_J9_abs_067f4_1, e_J9_abs_067f4_2, e_J9_abs_067f4_3, e_J9_abs_067f4_6, e_J9_abs_067f4_7, e_J9_abs_067f4_8, e_J9_abs_067f4_11, e_J9_abs_067f4_12]
  by_cases h1 : x < 0
  · have : lg_cmp x 0 = -1 := by
      unfold lg_cmp
      rw [if_neg (show ¬ x > 0 from Int64.lt_asymm h1), if_neg (fun e => by rw [e] at h1; exact absurd h1 (by decide))]
    rw [this, if_neg (by decide), if_pos h1]
  · by_cases h2 : x = 0
    · subst h2
      rfl
    · have : lg_cmp x 0 = 1 := by
        unfold lg_cmp
        rw [if_pos]
        rcases Int64.lt_or_lt_of_ne h2 with q | q
        · exact absurd q h1
        · exact q
      rw [this, if_pos (by decide), if_neg h1]
def jus (x : Int32) (k : Int32) : Int32 := (x.toUInt32 >>> (k.toUInt32 &&& Int32.toUInt32 31)).toInt32
def jb1 (x : Int32) : Int32 := x - (jus x 1 &&& 1431655765)
def jb2 (x : Int32) : Int32 := (x &&& 858993459) + (jus x 2 &&& 858993459)
def jb3 (x : Int32) : Int32 := (x + jus x 4) &&& 252645135
def jb4 (x : Int32) : Int32 := x + jus x 8
def jb5 (x : Int32) : Int32 := x + jus x 16
/-- Integer.bitCount -/
def jbc (x : Int32) : Int32 := jb5 (jb4 (jb3 (jb2 (jb1 x)))) &&& 63
theorem j_bitCount (d : Nat) (x : Int32) (h : zH) : zcall d 416 [.int x] h = some (some (.int (jbc x)), h) := by
  rw [m_J6_bitCount_0f7a4]
  simp only [e_J6_bitCount_0f7a4_0, e_J6_bitCount_0f7a4_1, e_J6_bitCount_0f7a4_2, e_J6_bitCount_0f7a4_3, e_J6_bitCount_0f7a4_4, e_J6_bitCount_0f7a4_7, e_J6_bitCount_0f7a4_8, e_J6_bitCount_0f7a4_9, e_J6_bitCount_0f7a4_10, e_J6_bitCount_0f7a4_11, e_J6_bitCount_0f7a4_14, e_J6_bitCount_0f7a4_15, e_J6_bitCount_0f7a4_16, e_J6_bitCount_0f7a4_17, e_J6_bitCount_0f7a4_18, e_J6_bitCount_0f7a4_21, e_J6_bitCount_0f7a4_22, e_J6_bitCount_0f7a4_23, e_J6_bitCount_0f7a4_24, e_J6_bitCount_0f7a4_25, e_J6_bitCount_0f7a4_26, e_J6_bitCount_0f7a4_27, e_J6_bitCount_0f7a4_28, e_J6_bitCount_0f7a4_29, e_J6_bitCount_0f7a4_32, e_J6_bitCount_0f7a4_33, e_J6_bitCount_0f7a4_34, e_J6_bitCount_0f7a4_35, e_J6_bitCount_0f7a4_36, e_J6_bitCount_0f7a4_38, e_J6_bitCount_0f7a4_39, e_J6_bitCount_0f7a4_40, e_J6_bitCount_0f7a4_41, e_J6_bitCount_0f7a4_42, e_J6_bitCount_0f7a4_43, e_J6_bitCount_0f7a4_45, e_J6_bitCount_0f7a4_46, e_J6_bitCount_0f7a4_47, e_J6_bitCount_0f7a4_48, e_J6_bitCount_0f7a4_49, e_J6_bitCount_0f7a4_51, e_J6_bitCount_0f7a4_52]
  rfl
theorem zfind_app {R S : Type} (F : R → S) (c : Nat → Bool) (r : Nat → R) (e : R) : ∀ k p, zfind c (fun p => F (r p)) (F e) p k = F (zfind c r e p k)
  | 0, _ => rfl
  | k + 1, p => by
    rw [zfind, zfind, zfind_app F c r e k (p + 1)]
    split <;> rfl
def bI (p : Bool) : Int32 := if p then 1 else 0
theorem zfit_bI (p : Bool) : zfit .boolean (.int (bI p)) = true := by cases p <;> rfl
theorem bI_t {p : Prop} [Decidable p] (h : p) : bI (decide p) = 1 := by simp [bI, h]
theorem bI_f {p : Prop} [Decidable p] (h : ¬ p) : bI (decide p) = 0 := by simp [bI, h]
theorem zu_oo {α : Type} {I : Nat → Nat → α} {b i j k : Nat} {x : α} (h : i ≠ j) : zu I (b + i) k x (b + j) = I (b + j) := zu_far I k x (by omega)
theorem zu_o0 {α : Type} {I : Nat → Nat → α} {b i k : Nat} {x : α} (h : i ≠ 0) : zu I (b + i) k x b = I b := zu_far I k x (by omega)
theorem zu_0o {α : Type} {I : Nat → Nat → α} {b j k : Nat} {x : α} (h : j ≠ 0) : zu I b k x (b + j) = I (b + j) := zu_far I k x (by omega)
theorem nI_neg {p : Nat} (h : p < 2 ^ 31) : (nI p < 0) = False := eq_false (nI_pos h)
/-- a row put in place of another -/
def zr {α : Type} (I : Nat → Nat → α) (a : Nat) (r : Nat → α) : Nat → Nat → α := fun b => if b = a then r else I b
theorem zr_same {α : Type} (I : Nat → Nat → α) (a : Nat) (r : Nat → α) : zr I a r a = r := by simp [zr]
theorem zr_far {α : Type} (I : Nat → Nat → α) {a b : Nat} (r : Nat → α) (h : b ≠ a) : zr I a r b = I b := by simp [zr, h]
def cpR {α : Type} (f g : Nat → α) (len : Nat) : Nat → α := fun k => if k < len then f k else g k
theorem cpR_eq {α : Type} (f g : Nat → α) (len : Nat) : va_cpy f g 0 0 len = cpR f g len := by
  funext k
  simp [va_cpy, cpR]
section ACP
variable {n m : Nat} {g : Nat → zC} {I : Nat → Nat → Int32} {J : Nat → Nat → Int64}
theorem acp_i {a0 a len0 len1 : Nat} (h30 : 3 ≤ a0) (h0 : a0 < 158) (h3 : 3 ≤ a) (h : a < 158) (hs0 : ∀ i j, sh a0 i j = .inl (.int, len0, .inl i)) (hs : ∀ i j, sh a i j = .inl (.int, len1, .inl i)) (k : Nat) (hk0 : k ≤ len0) (hk1 : k ≤ len1) (hk : k < 2 ^ 31) : zacp (mk n m g I J) a0 0 a 0 (nI k) = some (mk n m g (zr I a (cpR (I a0) (I a) k)) J) := by
  have hc0 : (mk n m g I J).2.2 a0 = .inl (.int, len0, .inl (I a0)) := (mk_at h30 h0).trans (hs0 _ _)
  have hc : (mk n m g I J).2.2 a = .inl (.int, len1, .inl (I a)) := (mk_at h3 h).trans (hs _ _)
  unfold zacp
  rw [if_neg (by rintro (q | q | q); exact absurd q (by decide); exact absurd q (by decide); exact nI_pos hk q), hc0, hc]
  dsimp only
  rw [nI_clamp hk, show (0 : Int32).toNatClampNeg = 0 from rfl, if_pos ⟨by omega, by omega⟩]
  have e : zcpi (mk n m g I J) a0 a 0 0 k = ((mk n m g I J).1, (mk n m g I J).2.1, zup (mk n m g I J).2.2 a (.inl (.int, len1, .inl (cpR (I a0) (I a) k)))) := by simp [zcpi, hc0, hc, cpR_eq]
  rw [e]
  exact congrArg some (mk_up h3 h _ _ _ (fun b hb => zr_far I _ hb) (fun _ _ => rfl) (by rw [hs, zr_same]))
theorem acp_l {a0 a len0 len1 : Nat} (h30 : 3 ≤ a0) (h0 : a0 < 158) (h3 : 3 ≤ a) (h : a < 158) (hs0 : ∀ i j, sh a0 i j = .inl (.long, len0, .inr (.inl j))) (hs : ∀ i j, sh a i j = .inl (.long, len1, .inr (.inl j))) (k : Nat) (hk0 : k ≤ len0) (hk1 : k ≤ len1) (hk : k < 2 ^ 31) : zacp (mk n m g I J) a0 0 a 0 (nI k) = some (mk n m g I (zr J a (cpR (J a0) (J a) k))) := by
  have hc0 : (mk n m g I J).2.2 a0 = .inl (.long, len0, .inr (.inl (J a0))) := (mk_at h30 h0).trans (hs0 _ _)
  have hc : (mk n m g I J).2.2 a = .inl (.long, len1, .inr (.inl (J a))) := (mk_at h3 h).trans (hs _ _)
  unfold zacp
  rw [if_neg (by rintro (q | q | q); exact absurd q (by decide); exact absurd q (by decide); exact nI_pos hk q), hc0, hc]
  dsimp only
  rw [nI_clamp hk, show (0 : Int32).toNatClampNeg = 0 from rfl, if_pos ⟨by omega, by omega⟩]
  have e : zcpl (mk n m g I J) a0 a 0 0 k = ((mk n m g I J).1, (mk n m g I J).2.1, zup (mk n m g I J).2.2 a (.inl (.long, len1, .inr (.inl (cpR (J a0) (J a) k))))) := by simp [zcpl, hc0, hc, cpR_eq]
  rw [e]
  exact congrArg some (mk_up h3 h _ _ _ (fun _ _ => rfl) (fun b hb => zr_far J _ hb) (by rw [hs, zr_same]))
end ACP
