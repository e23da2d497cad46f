/-! WHAT ALWAYS HOLDS of both memories between two calls -/
section IN
variable {n m : Nat} {g : Nat → zC} {I I2 A : Nat → Nat → Int32} {J J2 : Nat → Nat → Int64} {b s N S N' S' U : Nat} {c c' : Nat → Int32}
/-- a step without a block: its line a in the script at s, its number i in the row c -/
def Sim (I : Nat → Nat → Int32) (s : Nat) (c : Nat → Int32) (N a i : Nat) : Prop := I (s + 5) a = -1 ∧ c (236 + 9 * i + 8) = nI (i + 1) ∧ ((I (s + 1) a = 0 ∧ c (236 + 9 * i) = 0 ∧ ∃ k, 1 ≤ k ∧ k ≤ 20 ∧ I (s + 2) a = nI k ∧ c (236 + 9 * i + 1) = nI k) ∨ (I (s + 1) a = 15 ∧ c (236 + 9 * i) = 1 ∧ ∃ p, p < N ∧ I (s + 2) a = nI p ∧ c (236 + 9 * i + 1) = nI p) ∨ (∃ o k, (o, k) ∈ ([(16, 2), (11, 3), (17, 4), (18, 5)] : List (Int32 × Int32)) ∧ I (s + 1) a = o ∧ c (236 + 9 * i) = k ∧ ∃ p q, p < N ∧ q < N ∧ I (s + 2) a = nI p ∧ c (236 + 9 * i + 1) = nI p ∧ I (s + 3) a = nI q ∧ c (236 + 9 * i + 2) = nI q) ∨ (I (s + 1) a = 19 ∧ c (236 + 9 * i) = 6) ∨ (I (s + 1) a = 26 ∧ c (236 + 9 * i) = 9))
/-- a step with a block: its line a, its end's line e, its number i, the number j behind the block -/
def Hea (I : Nat → Nat → Int32) (s : Nat) (c : Nat → Int32) (N S a e i j : Nat) : Prop := I (s + 5) a = nI e ∧ I (s + 1) e = 25 ∧ I (s + 5) e = nI a ∧ c (236 + 9 * i + 8) = nI j ∧ ((I (s + 1) a = 24 ∧ c (236 + 9 * i) = 8 ∧ ∃ k, 1 ≤ k ∧ k ≤ 99 ∧ I (s + 2) a = nI k ∧ c (236 + 9 * i + 1) = nI k) ∨ (I (s + 1) a = 21 ∧ c (236 + 9 * i) = 7 ∧ c (236 + 9 * i + 6) = 0 ∧ ∃ p t, p < N ∧ t < S ∧ I (s + 2) a = nI p ∧ c (236 + 9 * i + 1) = nI p ∧ I (s + 3) a = nI t ∧ c (236 + 9 * i + 2) = nI t) ∨ (I (s + 1) a = 22 ∧ c (236 + 9 * i) = 7 ∧ c (236 + 9 * i + 6) = 1 ∧ ∃ p, p < N ∧ I (s + 2) a = nI p ∧ c (236 + 9 * i + 1) = nI p) ∨ (I (s + 1) a = 23 ∧ c (236 + 9 * i) = 7 ∧ c (236 + 9 * i + 6) = 2 ∧ I (s + 4) a = c (236 + 9 * i + 7) ∧ ∃ t v, t < S ∧ v ≤ 9 ∧ I (s + 2) a = nI t ∧ c (236 + 9 * i + 1) = nI t ∧ I (s + 3) a = nI v ∧ c (236 + 9 * i + 2) = nI v))
/-- lines a to e of the script are steps i to j, in blocks at most d deep -/
def Blk (I : Nat → Nat → Int32) (s : Nat) (c : Nat → Int32) (N S : Nat) : Nat → Nat → Nat → Nat → Nat → Nat → Prop
  | 0, _, a, e, i, j => a = e ∧ i = j
  | f + 1, d, a, e, i, j => (a = e ∧ i = j) ∨ (a < e ∧ i < j ∧ Sim I s c N a i ∧ Blk I s c N S f d (a + 1) e (i + 1) j) ∨ (∃ d', d = d' + 1 ∧ ∃ x k, a < x ∧ x < e ∧ i < k ∧ k ≤ j ∧ Hea I s c N S a x i k ∧ Blk I s c N S f d' (a + 1) x (i + 1) k ∧ Blk I s c N S f d (x + 1) e k j)
def CS (I : Nat → Nat → Int32) (s : Nat) (c : Nat → Int32) (N S : Nat) : Prop := I s 0 = c 234 ∧ (c 234 = 0 ∨ (c 234 = 1 ∧ ∃ L k, L ≤ 60 ∧ k ≤ 30 ∧ I s 1 = nI k ∧ c 235 = nI k ∧ I s 2 = nI L ∧ Blk I s c N S 60 3 0 L 0 k))
/-- words: of those born the class has -1, the reference 0 -/
def JW (J : Nat → Nat → Int64) (b : Nat) (w : Nat → Int64) (N S : Nat) : Prop := (∀ s, s < S → J (b + 1) s = w s ∧ 0 < w s) ∧ ∀ p, p < N → (J (b + 4) p = w (6 + p) ∧ 0 < w (6 + p)) ∨ (J (b + 4) p = -1 ∧ w (6 + p) = 0)
def lifeOk (I : Nat → Nat → Int32) : Prop := I 62 6 = I 143 34 ∧ (I 62 6 = 0 ∨ I 62 6 = 1) ∧ (I 62 5 = 0 ∨ I 62 5 = 1) ∧ (I 62 6 = 1 → I 157 0 = I 62 1 ∧ I 157 1 = I 62 2 ∧ I 157 2 = I 62 3 ∧ I 157 3 = I 62 4 ∧ I 157 4 = I 62 5)
def markOk (I : Nat → Nat → Int32) (J : Nat → Nat → Int64) (k : Nat) : Prop := ∃ N S, WT I (74 + 23 * k) N S 2999 ∧ RT I (74 + 23 * k) (fun j => I 148 (506 * (k + 1) + j)) N S ∧ JW J (74 + 23 * k) (fun j => J 151 (18 * (k + 1) + j)) N S ∧ CS I (91 + 23 * k) (fun j => I 148 (506 * (k + 1) + j)) N S
def marksOk (I : Nat → Nat → Int32) (J : Nat → Nat → Int64) : Prop := ∃ K, K ≤ 3 ∧ I 3 17 = nI K ∧ I 143 24 = nI K ∧ ∀ k, k < K → markOk I J k
def trayOk (I : Nat → Nat → Int32) (J : Nat → Nat → Int64) : Prop := yWellT I ∧ (∀ t, t < 4 → I 5 t = I 144 t ∧ I 6 t = I 145 t) ∧ ∀ t k, t < 4 → k < 60 → nI k < I 6 t → J (8 + t) k = J 146 (60 * t + k)
def isB (v : Int32) : Prop := v.toInt8.toInt32 = v
def tapeOk (I : Nat → Nat → Int32) : Prop := (∀ k, k < 900 → I 12 k = I 147 k) ∧ (∀ k, k < 900 → isB (I 12 k)) ∧ ∃ T, T ≤ 900 ∧ I 3 5 = nI T ∧ I 143 8 = nI T
/-- the reserved words, packed -/
def resL : List Int64 := [824370, 441972, 402629, 460197, 24627848, 542723566, 81486, 486, 3646931, 13946034, 3417476, 23716, 12889267, 24159891, 6642, 4389, 2411144, 628108, 646192, 1497, 762030, 2262611, 132712, 215205, 409072, 5572, 643568]
def readOk (I : Nat → Nat → Int32) (J : Nat → Nat → Int64) : Prop := I 13 10 = I 143 10 ∧ I 13 11 = I 143 11 ∧ ∀ k, k < 27 → J 14 k = (resL[k]?).getD 0
/-- all of it -/
def Inv (I : Nat → Nat → Int32) (J : Nat → Nat → Int64) (N S : Nat) : Prop := WT I 16 N S 2999 ∧ RT I 16 (I 148) N S ∧ JW J 16 (J 151) N S ∧ CS I 50 (I 148) N S ∧ I 3 0 = I 143 0 ∧ (J 3 1 = J 143 2 ∧ J 3 2 = J 143 3) ∧ trayOk I J ∧ tapeOk I ∧ readOk I J ∧ pointOk I ∧ lifeOk I ∧ marksOk I J
/-- the rows that most calls leave as they are -/
def keepI (a : Nat) : Bool := a == 5 || a == 6 || a == 12 || a == 13 || (50 ≤ a && a < 56) || a == 62 || (74 ≤ a && a < 143) || a == 144 || a == 145 || a == 147 || a == 157
def keepJ (a : Nat) : Bool := a == 3 || a == 8 || a == 9 || a == 10 || a == 11 || a == 14 || (74 ≤ a && a < 143) || a == 143 || a == 146
theorem keepI_ne {a r : Nat} (ha : keepI a = true) (hr : keepI r = false) : a ≠ r := fun e => by rw [e, hr] at ha; exact absurd ha (by decide)
theorem keepJ_ne {a r : Nat} (ha : keepJ a = true) (hr : keepJ r = false) : a ≠ r := fun e => by rw [e, hr] at ha; exact absurd ha (by decide)
theorem Sim.mono {a i : Nat} (h : N ≤ N') (hs : Sim I s c N a i) : Sim I s c N' a i := by
  obtain ⟨h1, h2, h3⟩ := hs
  refine ⟨h1, h2, ?_⟩
  rcases h3 with h3 | ⟨e1, e2, p, hp, e3⟩ | ⟨o, k, hm, e1, e2, p, q, hp, hq, e3⟩ | h3 | h3
  · exact Or.inl h3
  · exact Or.inr (Or.inl ⟨e1, e2, p, by omega, e3⟩)
  · exact Or.inr (Or.inr (Or.inl ⟨o, k, hm, e1, e2, p, q, by omega, by omega, e3⟩))
  · exact Or.inr (Or.inr (Or.inr (Or.inl h3)))
  · exact Or.inr (Or.inr (Or.inr (Or.inr h3)))
theorem Hea.mono {a e i j : Nat} (h : N ≤ N') (hs : Hea I s c N S a e i j) : Hea I s c N' S a e i j := by
  obtain ⟨h1, h2, h3, h4, h5⟩ := hs
  refine ⟨h1, h2, h3, h4, ?_⟩
  rcases h5 with h5 | ⟨e1, e2, e3, p, t, hp, ht, e4⟩ | ⟨e1, e2, e3, p, hp, e4⟩ | h5
  · exact Or.inl h5
  · exact Or.inr (Or.inl ⟨e1, e2, e3, p, t, by omega, ht, e4⟩)
  · exact Or.inr (Or.inr (Or.inl ⟨e1, e2, e3, p, by omega, e4⟩))
  · exact Or.inr (Or.inr (Or.inr h5))
theorem Blk.mono (h : N ≤ N') : ∀ f d a e i j, Blk I s c N S f d a e i j → Blk I s c N' S f d a e i j
  | 0, d, a, e, i, j, hb => hb
  | f + 1, d, a, e, i, j, hb => by
    rcases hb with hb | ⟨h1, h2, h3, h4⟩ | ⟨d', h1, x, k, h2, h3, h4, h5, h6, h7, h8⟩
    · exact Or.inl hb
    · exact Or.inr (Or.inl ⟨h1, h2, h3.mono h, Blk.mono h f d _ _ _ _ h4⟩)
    · exact Or.inr (Or.inr ⟨d', h1, x, k, h2, h3, h4, h5, h6.mono h, Blk.mono h f d' _ _ _ _ h7, Blk.mono h f d _ _ _ _ h8⟩)
theorem Blk.in : ∀ f d a e i j, Blk I s c N S f d a e i j → a ≤ e ∧ i ≤ j
  | 0, d, a, e, i, j, hb => by
    obtain ⟨h1, h2⟩ := hb
    omega
  | f + 1, d, a, e, i, j, hb => by
    rcases hb with hb | ⟨h1, h2, h3, h4⟩ | ⟨d', h1, x, k, h2, h3, h4, h5, h6, h7, h8⟩
    · omega
    · omega
    · omega
theorem Blk.far (hI : ∀ r, r < 6 → I2 (s + r) = I (s + r)) (hc : ∀ k, 234 ≤ k → k < 506 → c' k = c k) : ∀ f d a e i j, j ≤ 30 → Blk I s c N S f d a e i j → Blk I2 s c' N S f d a e i j
  | 0, d, a, e, i, j, _, hb => hb
  | f + 1, d, a, e, i, j, hj, hb => by
    have g1 := hI 1 (by decide)
    have g2 := hI 2 (by decide)
    have g3 := hI 3 (by decide)
    have g4 := hI 4 (by decide)
    have g5 := hI 5 (by decide)
    rcases hb with hb | ⟨h1, h2, h3, h4⟩ | ⟨d', h1, x, k, h2, h3, h4, h5, h6, h7, h8⟩
    · exact Or.inl hb
    · refine Or.inr (Or.inl ⟨h1, h2, ?_, Blk.far hI hc f d _ _ _ _ hj h4⟩)
      unfold Sim
      rw [g1, g2, g3, g5, hc _ (by omega) (by omega), hc _ (by omega) (by omega), hc _ (by omega) (by omega), hc _ (by omega) (by omega)]
      exact h3
    · refine Or.inr (Or.inr ⟨d', h1, x, k, h2, h3, h4, h5, ?_, Blk.far hI hc f d' _ _ _ _ (by omega) h7, Blk.far hI hc f d _ _ _ _ hj h8⟩)
      unfold Hea
      rw [g1, g2, g3, g4, g5, hc _ (by omega) (by omega), hc _ (by omega) (by omega), hc _ (by omega) (by omega), hc _ (by omega) (by omega), hc _ (by omega) (by omega), hc _ (by omega) (by omega)]
      exact h6
theorem CS.far (h : CS I s c N S) (hI : ∀ r, r < 6 → I2 (s + r) = I (s + r)) (hc : ∀ k, 234 ≤ k → k < 506 → c' k = c k) : CS I2 s c' N S := by
  obtain ⟨h1, h2⟩ := h
  have g0 : I2 s = I s := hI 0 (by decide)
  unfold CS
  rw [g0, hc 234 (by decide) (by decide), hc 235 (by decide) (by decide)]
  refine ⟨h1, ?_⟩
  rcases h2 with h2 | ⟨h2, L, k, a1, a2, a3, a4, a5, a6⟩
  · exact Or.inl h2
  · exact Or.inr ⟨h2, L, k, a1, a2, a3, a4, a5, Blk.far hI hc 60 3 _ _ _ _ a2 a6⟩
theorem CS.mono (h : CS I s c N S) (hN : N ≤ N') : CS I s c N' S := by
  obtain ⟨h1, h2⟩ := h
  refine ⟨h1, ?_⟩
  rcases h2 with h2 | ⟨h2, L, k, a1, a2, a3, a4, a5, a6⟩
  · exact Or.inl h2
  · exact Or.inr ⟨h2, L, k, a1, a2, a3, a4, a5, Blk.mono hN 60 3 _ _ _ _ a6⟩
theorem Inv.keep (h : Inv I J N S) (hN : N ≤ N') (hW : WT I2 16 N' S 2999) (hR : RT I2 16 (I2 148) N' S) (hJ : JW J2 16 (J2 151) N' S) (hst : I2 3 0 = I2 143 0) (hI : ∀ a, keepI a = true → I2 a = I a) (h3 : ∀ k, k ≠ 0 → I2 3 k = I 3 k) (h143 : ∀ k, k = 8 ∨ k = 10 ∨ k = 11 ∨ k = 24 ∨ k = 34 → I2 143 k = I 143 k) (hc : ∀ j, 234 ≤ j → I2 148 j = I 148 j) (hp : pointOk I2) (hJJ : ∀ a, keepJ a = true → J2 a = J a) (hw : ∀ k, 18 ≤ k → J2 151 k = J 151 k) : Inv I2 J2 N' S := by
  obtain ⟨_, _, _, i4, _, i6, i7, i8, i9, _, i11, i12⟩ := h
  refine ⟨hW, hR, hJ, ?_, hst, ?_, ?_, ?_, ?_, hp, ?_, ?_⟩
  · refine (i4.far (fun r hr => hI _ ?_) (fun k h1 _ => hc k h1)).mono hN
    have : r = 0 ∨ r = 1 ∨ r = 2 ∨ r = 3 ∨ r = 4 ∨ r = 5 := by omega
    rcases this with rfl | rfl | rfl | rfl | rfl | rfl <;> rfl
  · rw [hJJ 3 rfl, hJJ 143 rfl]
    exact i6
  · obtain ⟨a1, a2, a3⟩ := i7
    unfold trayOk yWellT
    rw [hI 5 rfl, hI 6 rfl, hI 144 rfl, hI 145 rfl, hJJ 146 rfl]
    refine ⟨a1, a2, fun t k h1 h2 h4 => ?_⟩
    rw [hJJ (8 + t) (by
      have : t = 0 ∨ t = 1 ∨ t = 2 ∨ t = 3 := by omega
      rcases this with rfl | rfl | rfl | rfl <;> rfl)]
    exact a3 t k h1 h2 h4
  · unfold tapeOk
    rw [hI 12 rfl, hI 147 rfl, h3 5 (by decide), h143 8 (by decide)]
    exact i8
  · unfold readOk
    rw [hI 13 rfl, h143 10 (by decide), h143 11 (by decide), hJJ 14 rfl]
    exact i9
  · unfold lifeOk
    rw [hI 62 rfl, h143 34 (by decide), hI 157 rfl]
    exact i11
  · obtain ⟨K, k1, k2, k3, k4⟩ := i12
    refine ⟨K, k1, by rw [h3 17 (by decide)]; exact k2, by rw [h143 24 (by decide)]; exact k3, fun k hk => ?_⟩
    obtain ⟨N1, S1, w1, r1, j1, c1⟩ := k4 k hk
    have k3 : k = 0 ∨ k = 1 ∨ k = 2 := by omega
    have hk1 : ∀ r, r < 17 → keepI (74 + 23 * k + r) = true ∧ keepJ (74 + 23 * k + r) = true := by
      intro r hr
      unfold keepI keepJ
      constructor <;> simp <;> omega
    have hk2 : ∀ r, r < 6 → keepI (91 + 23 * k + r) = true := by
      intro r hr
      unfold keepI
      simp
      omega
    have hcc : (fun j => I2 148 (506 * (k + 1) + j)) = fun j => I 148 (506 * (k + 1) + j) := funext (fun j => hc _ (by omega))
    have hww : (fun j => J2 151 (18 * (k + 1) + j)) = fun j => J 151 (18 * (k + 1) + j) := funext (fun j => hw _ (by omega))
    refine ⟨N1, S1, w1.far (fun i hi => hI _ (hk1 i hi).1), ?_, ?_, ?_⟩
    · rw [hcc]
      exact r1.far (fun i hi => hI _ (hk1 i hi).1)
    · rw [hww]
      unfold JW
      rw [hJJ _ (hk1 1 (by decide)).2, hJJ _ (hk1 4 (by decide)).2]
      exact j1
    · rw [hcc]
      exact c1.far (fun r hr => hI _ (hk2 r hr)) (fun _ _ _ => rfl)
end IN
