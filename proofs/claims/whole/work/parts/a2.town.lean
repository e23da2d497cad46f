/-! READING A TOWN: what holds between two parts of the text -/
section TA
variable {n m : Nat} {g : Nat → zC} {X Y A : Nat → Nat → Int32} {JX JY J : Nat → Nat → Int64} {L p p' q N S : Nat} {t : Int32} {c : Nat → Int32} {X' Y' X2 Y2 : Nat → Nat → Int32} {JX' JY' JX2 JY2 : Nat → Nat → Int64}
theorem RDS.same (h : RDS L p X JX Y JY) (h12 : X' 12 = X 12) (h13 : X' 13 = X 13) (j13 : JX' 13 = JX 13) (j14 : JX' 14 = JX 14) (y : ∀ k, 9 ≤ k → k ≤ 18 → Y' 143 k = Y 143 k) (y147 : Y' 147 = Y 147) (jy : JY' 143 19 = JY 143 19) : RDS L p X' JX' Y' JY' := by
  unfold RDS dWell TX TK wPlace
  rw [h12, h13, j13, j14, y147, jy, y 9 (by decide) (by decide), y 12 (by decide) (by decide), y 14 (by decide) (by decide), y 15 (by decide) (by decide), y 16 (by decide) (by decide), y 17 (by decide) (by decide), y 18 (by decide) (by decide)]
  exact h
def nb (Y : Nat → Nat → Int32) : Nat → Int32 := fun j => Y 148 (2024 + j)
def nw (JY : Nat → Nat → Int64) : Nat → Int64 := fun j => JY 151 (72 + j)
theorem nb_zu {j : Nat} {v : Int32} : nb (zu Y 148 (2024 + j) v) = fu (nb Y) j v := by
  funext k
  unfold nb fu
  rw [zu_row]
  by_cases e : k = j
  · rw [if_pos e, if_pos (by omega)]
  · rw [if_neg e, if_neg (by omega)]
theorem nw_zu {j : Nat} {v : Int64} : nw (zu JY 151 (72 + j) v) = fu (nw JY) j v := by
  funext k
  unfold nw fu
  rw [zu_row]
  by_cases e : k = j
  · rw [if_pos e, if_pos (by omega)]
  · rw [if_neg e, if_neg (by omega)]
/-- what is laid of those who are not yet told -/
def NB (c : Nat → Int32) (N S : Nat) : Prop := (∀ s, S ≤ s → s < 6 → c (6 + s) = 10 ∧ c (12 + s) = 0) ∧ ∀ p, N ≤ p → p < 12 → c (30 + p) = -1 ∧ c (42 + p) = 0 ∧ c (54 + p) = 0 ∧ c (66 + p) = 0 ∧ c (78 + p) = -1 ∧ c (90 + p) = -1 ∧ c (102 + p) = -1 ∧ c (114 + p) = 0 ∧ c (126 + p) = 0
def TQ (L p : Nat) (t : Int32) (N S : Nat) (c : Nat → Int32) (X : Nat → Nat → Int32) (JX : Nat → Nat → Int64) (Y : Nat → Nat → Int32) (JY : Nat → Nat → Int64) : Prop := RDS L p X JX Y JY ∧ WT X 33 N S 2999 ∧ RT X 33 c N S ∧ JW JX 33 (nw JY) N S ∧ NB c N S ∧ (∀ p, p < N → X (33 + 6) p = -1) ∧ c 234 = 0 ∧ Y 143 25 = t
def TS (L p : Nat) (t : Int32) (N S : Nat) (X : Nat → Nat → Int32) (JX : Nat → Nat → Int64) (Y : Nat → Nat → Int32) (JY : Nat → Nat → Int64) : Prop := TQ L p t N S (nb Y) X JX Y JY
theorem TQ.rs (h : TQ L p t N S c X JX Y JY) : RDS L p X JX Y JY := h.1
theorem TQ.W (h : TQ L p t N S c X JX Y JY) : WT X 33 N S 2999 := h.2.1
theorem TQ.R (h : TQ L p t N S c X JX Y JY) : RT X 33 c N S := h.2.2.1
theorem TQ.jw (h : TQ L p t N S c X JX Y JY) : JW JX 33 (nw JY) N S := h.2.2.2.1
theorem TQ.nbq (h : TQ L p t N S c X JX Y JY) : NB c N S := h.2.2.2.2.1
theorem TQ.alive (h : TQ L p t N S c X JX Y JY) : ∀ p, p < N → X (33 + 6) p = -1 := h.2.2.2.2.2.1
theorem TQ.c0 (h : TQ L p t N S c X JX Y JY) : c 234 = 0 := h.2.2.2.2.2.2.1
theorem TQ.told (h : TQ L p t N S c X JX Y JY) : Y 143 25 = t := h.2.2.2.2.2.2.2
theorem TQ.move (h : TQ L p t N S c X JX Y JY) (hr : RDS L p' X' JX' Y' JY') (hf : FX X JX X' JX') (hg : YG Y JY Y' JY') : TQ L p' t N S c X' JX' Y' JY' := by
  obtain ⟨h1, h2, h3, h4, h5, h6, h7, h8⟩ := h
  refine ⟨hr, h2.far (fun i hi => hf.1 _ (by omega)), h3.far (fun i hi => hf.1 _ (by omega)), ?_, h5, fun p hp => ?_, h7, ?_⟩
  · unfold JW nw
    rw [hf.2 (33 + 1) (by decide), hf.2 (33 + 4) (by decide), hg.2.2.1 151 (by decide)]
    exact h4
  · rw [hf.1 (33 + 6) (by decide)]
    exact h6 p hp
  · rw [hg.2.1 25 (by decide)]
    exact h8
theorem YG.blk (hg : YG Y JY Y' JY') : nb Y' = nb Y := by
  unfold nb
  rw [hg.1 148 (by decide)]
theorem TS.move (h : TS L p t N S X JX Y JY) (hr : RDS L p' X' JX' Y' JY') (hf : FX X JX X' JX') (hg : YG Y JY Y' JY') : TS L p' t N S X' JX' Y' JY' := by
  unfold TS
  rw [hg.blk]
  exact TQ.move h hr hf hg
theorem JW.wp {b : Nat} {w : Nat → Int64} (h : JW J b w N S) {k : Nat} (hk : k < N) {v : Int64} (hv : 0 < v) : (J (b + 4) k = v) = (w (6 + k) = v) := by
  rcases h.2 k hk with ⟨e, _⟩ | ⟨e1, e2⟩
  · rw [e]
  · rw [e1, e2]
    exact propext ⟨fun q => by rw [← q] at hv; exact absurd hv (by decide), fun q => by rw [← q] at hv; exact absurd hv (by decide)⟩
theorem JW.wsn {b : Nat} {w : Nat → Int64} (h : JW J b w N S) {k : Nat} (hk : k < S) {v : Int64} : (J (b + 1) k = v) = (w k = v) := by rw [(h.1 k hk).1]
theorem TQ.wp (h : TQ L p t N S c X JX Y JY) : WR JX (33 + 4) JY (18 * 4 + 6 * 1) N := fun k hk w hw => by
  rw [h.jw.wp hk hw]
  unfold nw
  rw [show 72 + (6 + k) = 18 * 4 + 6 * 1 + k by omega]
theorem TQ.ws (h : TQ L p t N S c X JX Y JY) : WR JX (33 + 1) JY (18 * 4 + 6 * 0) S := fun k hk w hw => by
  rw [h.jw.wsn hk]
  rfl
theorem TS.pers (h : TS L p t N S X JX Y JY) : (∃ k, k < N ∧ dName X JX = true ∧ dPlace X JX (33 + 4) N = (nI k, X) ∧ Ca 4 294 [.ref 143, .int 4, .int 1] Y JY (some (.int (nI k))) Y JY) ∨ ∃ X' Y', dPlace X JX (33 + 4) N = (-1, X') ∧ Ca 4 294 [.ref 143, .int 4, .int 1] Y JY (some (.int 0)) Y' JY ∧ BAD X' Y' ∧ FX X JX X' JX ∧ YG Y JY Y' JY :=
  r_told (B := 4) (s := 1) h.rs (by decide) (by decide) h.W.h12 (h.R.n1.trans h.W.hN) h.wp
theorem TS.surn (h : TS L p t N S X JX Y JY) : (∃ k, k < S ∧ dName X JX = true ∧ dPlace X JX (33 + 1) S = (nI k, X) ∧ Ca 4 294 [.ref 143, .int 4, .int 0] Y JY (some (.int (nI k))) Y JY) ∨ ∃ X' Y', dPlace X JX (33 + 1) S = (-1, X') ∧ Ca 4 294 [.ref 143, .int 4, .int 0] Y JY (some (.int 0)) Y' JY ∧ BAD X' Y' ∧ FX X JX X' JX ∧ YG Y JY Y' JY :=
  r_told (B := 4) (s := 0) h.rs (by decide) (by decide) (by have := h.W.h6; omega) (h.R.n0.trans h.W.hS) h.ws
/-! what may change, in the class and in the reference -/
def GX (X : Nat → Nat → Int32) (JX : Nat → Nat → Int64) (X' : Nat → Nat → Int32) (JX' : Nat → Nat → Int64) : Prop := (∀ a, a ≠ 13 → ¬ (33 ≤ a ∧ a < 50) → X' a = X a) ∧ ∀ a, a ≠ 13 → ¬ (33 ≤ a ∧ a < 50) → JX' a = JX a
def GY (Y : Nat → Nat → Int32) (JY : Nat → Nat → Int64) (Y' : Nat → Nat → Int32) (JY' : Nat → Nat → Int64) : Prop := (∀ a, a ≠ 143 → a ≠ 148 → Y' a = Y a) ∧ (∀ k, k < 12 → Y' 143 k = Y 143 k) ∧ (∀ k, 18 < k → k ≠ 25 → k ≠ 26 → Y' 143 k = Y 143 k) ∧ (∀ j, j < 2024 → Y' 148 j = Y 148 j) ∧ (∀ a, a ≠ 143 → a ≠ 151 → JY' a = JY a) ∧ (∀ k, k ≠ 19 → JY' 143 k = JY 143 k) ∧ ∀ j, j < 72 → JY' 151 j = JY 151 j
theorem FX.gx (h : FX X JX X' JX') : GX X JX X' JX' := ⟨fun a ha _ => h.1 a ha, fun a ha _ => h.2 a ha⟩
theorem YG.gy (h : YG Y JY Y' JY') : GY Y JY Y' JY' := ⟨fun a ha _ => h.1 a ha, fun k hk => h.2.1 k (.inl hk), fun k hk _ _ => h.2.1 k (.inr hk), fun j _ => by rw [h.1 148 (by decide)], fun a ha _ => h.2.2.1 a ha, h.2.2.2, fun j _ => by rw [h.2.2.1 151 (by decide)]⟩
theorem GX.trans (h : GX X JX X' JX') (h2 : GX X' JX' X2 JX2) : GX X JX X2 JX2 := ⟨fun a ha hb => (h2.1 a ha hb).trans (h.1 a ha hb), fun a ha hb => (h2.2 a ha hb).trans (h.2 a ha hb)⟩
theorem GY.trans (h : GY Y JY Y' JY') (h2 : GY Y' JY' Y2 JY2) : GY Y JY Y2 JY2 := ⟨fun a ha hb => (h2.1 a ha hb).trans (h.1 a ha hb), fun k hk => (h2.2.1 k hk).trans (h.2.1 k hk), fun k hk ha hb => (h2.2.2.1 k hk ha hb).trans (h.2.2.1 k hk ha hb), fun j hj => (h2.2.2.2.1 j hj).trans (h.2.2.2.1 j hj), fun a ha hb => (h2.2.2.2.2.1 a ha hb).trans (h.2.2.2.2.1 a ha hb), fun k hk => (h2.2.2.2.2.2.1 k hk).trans (h.2.2.2.2.2.1 k hk), fun j hj => (h2.2.2.2.2.2.2 j hj).trans (h.2.2.2.2.2.2 j hj)⟩
theorem GX.rfl' : GX X JX X JX := ⟨fun _ _ _ => rfl, fun _ _ _ => rfl⟩
theorem GY.rfl' : GY Y JY Y JY := ⟨fun _ _ _ => rfl, fun _ _ => rfl, fun _ _ _ _ => rfl, fun _ _ => rfl, fun _ _ _ => rfl, fun _ _ => rfl, fun _ _ => rfl⟩
theorem GX.wr {a k : Nat} {v : Int32} (h : GX X JX X' JX') (h1 : 33 ≤ a) (h2 : a < 50) : GX X JX (zu X' a k v) JX' := ⟨fun r hr hb => by rw [zu_far _ _ _ (by omega), h.1 r hr hb], h.2⟩
theorem GX.wj {a k : Nat} {v : Int64} (h : GX X JX X' JX') (h1 : 33 ≤ a) (h2 : a < 50) : GX X JX X' (zu JX' a k v) := ⟨h.1, fun r hr hb => by rw [zu_far _ _ _ (by omega), h.2 r hr hb]⟩
theorem GY.cc {j : Nat} {v : Int32} (h : GY Y JY Y' JY') : GY Y JY (zu Y' 148 (2024 + j) v) JY' := ⟨fun a ha hb => by rw [zu_far _ _ _ hb, h.1 a ha hb], fun k hk => by rw [zu_far _ _ _ (by decide), h.2.1 k hk], fun k hk ha hb => by rw [zu_far _ _ _ (by decide), h.2.2.1 k hk ha hb], fun i hi => by rw [zu_row, if_neg (by omega), h.2.2.2.1 i hi], h.2.2.2.2.1, h.2.2.2.2.2.1, h.2.2.2.2.2.2⟩
theorem GY.w {j : Nat} {v : Int64} (h : GY Y JY Y' JY') : GY Y JY Y' (zu JY' 151 (72 + j) v) := ⟨h.1, h.2.1, h.2.2.1, h.2.2.2.1, fun a ha hb => by rw [zu_far _ _ _ hb, h.2.2.2.2.1 a ha hb], fun k hk => by rw [zu_far _ _ _ (by decide), h.2.2.2.2.2.1 k hk], fun i hi => by rw [zu_row, if_neg (by omega), h.2.2.2.2.2.2 i hi]⟩
theorem GY.f {k : Nat} {v : Int32} (h : GY Y JY Y' JY') (hk : k = 25 ∨ k = 26) : GY Y JY (zu Y' 143 k v) JY' := ⟨fun a ha hb => by rw [zu_far _ _ _ ha, h.1 a ha hb], fun j hj => by rw [zu_row, if_neg (by omega), h.2.1 j hj], fun j hj ha hb => by rw [zu_row, if_neg (by omega), h.2.2.1 j hj ha hb], fun i hi => by rw [zu_far _ _ _ (by decide), h.2.2.2.1 i hi], h.2.2.2.2.1, h.2.2.2.2.2.1, h.2.2.2.2.2.2⟩
theorem BAD.cc {j : Nat} {v : Int32} (h : BAD X Y) : BAD X (zu Y 148 j v) := by
  unfold BAD
  rw [zu_far _ _ _ (by decide)]
  exact h
theorem BAD.x {a k : Nat} {v : Int32} (h : BAD X Y) (ha : a ≠ 13) : BAD (zu X a k v) Y := by
  unfold BAD
  rw [zu_far _ _ _ (Ne.symm ha)]
  exact h
theorem RDS.cc {j : Nat} {v : Int32} (h : RDS L p X JX Y JY) : RDS L p X JX (zu Y 148 j v) JY := h.same rfl rfl rfl rfl (fun k _ _ => by rw [zu_far _ _ _ (by decide)]) (by rw [zu_far _ _ _ (by decide)]) rfl
theorem RDS.f {k : Nat} {v : Int32} (h : RDS L p X JX Y JY) (hk : 18 < k) : RDS L p X JX (zu Y 143 k v) JY := h.same rfl rfl rfl rfl (fun j _ _ => by rw [zu_row, if_neg (by omega)]) (by rw [zu_far _ _ _ (by decide)]) rfl
theorem RDS.w {j : Nat} {v : Int64} (h : RDS L p X JX Y JY) : RDS L p X JX Y (zu JY 151 j v) := h.same rfl rfl rfl rfl (fun k _ _ => rfl) rfl (by rw [zu_far _ _ _ (by decide)])
theorem RDS.x {a k : Nat} {v : Int32} (h : RDS L p X JX Y JY) (ha : 13 < a) : RDS L p (zu X a k v) JX Y JY := h.same (zu_far _ _ _ (by omega)) (zu_far _ _ _ (by omega)) rfl rfl (fun k _ _ => rfl) rfl rfl
theorem RDS.xj {a k : Nat} {v : Int64} (h : RDS L p X JX Y JY) (ha : 14 < a) : RDS L p X (zu JX a k v) Y JY := h.same rfl rfl (zu_far _ _ _ (by omega)) (zu_far _ _ _ (by omega)) (fun k _ _ => rfl) rfl rfl
/-! the class's own object, far from all others -/
def tto (t : Int32) : zC := .inr (8, [.ref 13, .ref 33, .int t])
abbrev Ct (t : Int32) (k y : Nat) (as : List Value) (X : Nat → Nat → Int32) (JX : Nat → Nat → Int64) (v : Option Value) (X' : Nat → Nat → Int32) (JX' : Nat → Nat → Int64) : Prop := ∀ (n m : Nat) (g : Nat → zC) (d a : Nat), 158 ≤ a → g a = tto t → zcall (d + k) y (.ref a :: as) (mk n m g X JX) = some (v, mk n m g X' JX')
theorem mk_out {I : Nat → Nat → Int32} {a : Nat} (ha : 158 ≤ a) : (mk n m g I J).2.2 a = g a := by
  show (if a < 3 then _ else if a < 158 then _ else _) = _
  rw [if_neg (by omega), if_neg (by omega)]
section TTT
variable {I : Nat → Nat → Int32} {a : Nat}
theorem c_tt (ha : 158 ≤ a) (hg : g a = tto t) : zcls (mk n m g I J) a = 8 := by simp [zcls, mk_out ha, hg, tto]
theorem g_tt_0 (ha : 158 ≤ a) (hg : g a = tto t) : zgf (mk n m g I J) a 8 0 = some (.ref 13) := by simp [zgf, mk_out ha, hg, tto]
theorem g_tt_1 (ha : 158 ≤ a) (hg : g a = tto t) : zgf (mk n m g I J) a 8 1 = some (.ref 33) := by simp [zgf, mk_out ha, hg, tto]
theorem g_tt_2 (ha : 158 ≤ a) (hg : g a = tto t) : zgf (mk n m g I J) a 8 2 = some (.int t) := by simp [zgf, mk_out ha, hg, tto]
theorem p_tt_2 {x : Int32} (ha : 158 ≤ a) (hg : g a = tto t) : zpf (mk n m g I J) a 2 (.int x) = mk n m (zup g a (tto x)) I J := by
  have e : zpf (mk n m g I J) a 2 (.int x) = (n, m, zup (mk n m g I J).2.2 a (tto x)) := by
    simp [zpf, mk_out ha, hg, tto]
    exact ⟨rfl, rfl⟩
  rw [e]
  unfold mk
  refine Prod.ext rfl (Prod.ext rfl (funext fun b => ?_))
  show (if b = a then tto x else if b < 3 then g b else if b < 158 then sh b (I b) (J b) else g b) = if b < 3 then (if b = a then tto x else g b) else if b < 158 then sh b (I b) (J b) else (if b = a then tto x else g b)
  by_cases h : b = a
  · subst h
    rw [if_pos rfl, if_neg (by omega), if_neg (by omega), if_pos rfl]
  · rw [if_neg h, if_neg h]
theorem zup_self (hg : g a = tto t) : zup g a (tto t) = g := by
  funext b
  unfold zup
  by_cases h : b = a
  · rw [if_pos h, h, hg]
  · rw [if_neg h]
theorem zup_at {x : zC} : zup g a x a = x := by simp [zup]
end TTT
/-! others and singles -/
theorem t_other_no {x y : Int32} (hN : X 33 4 = nI N) (h12 : N ≤ 12) (hp : dPlace X JX (33 + 4) N = (-1, X')) : Ct t 4 130 [.int x, .int y] X JX (some (.int (-1))) X' JX := by
  intro n m g d a ha hg
  rw [m_X8_otherHere]
  simp only [e_X8_otherHere_0, e_X8_otherHere_1, e_X8_otherHere_4, e_X8_otherHere_5, e_X8_otherHere_8, e_X8_otherHere_11, e_X8_otherHere_12, e_X8_otherHere_13, e_X8_otherHere_14, e_X8_otherHere_17, e_X8_otherHere_18, e_X8_otherHere_19, e_X8_otherHere_20, e_X8_otherHere_21, e_X8_otherHere_24, e_X8_otherHere_25, e_X8_otherHere_26, e_X8_otherHere_29, e_X8_otherHere_30, e_X8_otherHere_33, e_X8_otherHere_34, e_X8_otherHere_37, e_X8_otherHere_38, e_X8_otherHere_39, e_X8_otherHere_40, e_X8_otherHere_41, e_X8_otherHere_44, e_X8_otherHere_47, e_X8_otherHere_48, c_13, g_tt_0 ha hg, g_tt_1 ha hg, d_personHere t33 hN h12, hp, Option.bind_some, Option.isSome_some, Option.toList, List.cons_append, List.nil_append, zclr_i, zclr_r, zclr_n, zfit_i, zfit_l, and_self, if_true, if_false]
theorem t_other_eq {x y : Int32} {k : Nat} (hN : X 33 4 = nI N) (h12 : N ≤ 12) (hk : k < N) (hp : dPlace X JX (33 + 4) N = (nI k, X)) (he : nI k = x ∨ nI k = y) : Ct t 4 130 [.int x, .int y] X JX (some (.int (-1))) (dFail 5 X) JX := by
  intro n m g d a ha hg
  have hm : (nI k = -1) = False := eq_false (nI_m1 (show k < 2 ^ 31 by omega))
  rw [m_X8_otherHere]
  rcases he with e | e
  · simp only [e_X8_otherHere_0, e_X8_otherHere_1, e_X8_otherHere_4, e_X8_otherHere_5, e_X8_otherHere_8, e_X8_otherHere_11, e_X8_otherHere_12, e_X8_otherHere_13, e_X8_otherHere_14, e_X8_otherHere_17, e_X8_otherHere_18, e_X8_otherHere_19, e_X8_otherHere_20, e_X8_otherHere_21, e_X8_otherHere_24, e_X8_otherHere_25, e_X8_otherHere_26, e_X8_otherHere_29, e_X8_otherHere_30, e_X8_otherHere_33, e_X8_otherHere_34, e_X8_otherHere_37, e_X8_otherHere_38, e_X8_otherHere_39, e_X8_otherHere_40, e_X8_otherHere_41, e_X8_otherHere_44, e_X8_otherHere_47, e_X8_otherHere_48, c_13, g_tt_0 ha hg, g_tt_1 ha hg, d_personHere t33 hN h12, hp, hm, ← e, d_fail, Option.bind_some, Option.isSome_some, Option.toList, List.cons_append, List.nil_append, zclr_i, zclr_r, zclr_n, zfit_i, zfit_l, and_self, if_true, if_false]
  · by_cases e2 : nI k = x
    · simp only [e_X8_otherHere_0, e_X8_otherHere_1, e_X8_otherHere_4, e_X8_otherHere_5, e_X8_otherHere_8, e_X8_otherHere_11, e_X8_otherHere_12, e_X8_otherHere_13, e_X8_otherHere_14, e_X8_otherHere_17, e_X8_otherHere_18, e_X8_otherHere_19, e_X8_otherHere_20, e_X8_otherHere_21, e_X8_otherHere_24, e_X8_otherHere_25, e_X8_otherHere_26, e_X8_otherHere_29, e_X8_otherHere_30, e_X8_otherHere_33, e_X8_otherHere_34, e_X8_otherHere_37, e_X8_otherHere_38, e_X8_otherHere_39, e_X8_otherHere_40, e_X8_otherHere_41, e_X8_otherHere_44, e_X8_otherHere_47, e_X8_otherHere_48, c_13, g_tt_0 ha hg, g_tt_1 ha hg, d_personHere t33 hN h12, hp, hm, ← e2, d_fail, Option.bind_some, Option.isSome_some, Option.toList, List.cons_append, List.nil_append, zclr_i, zclr_r, zclr_n, zfit_i, zfit_l, and_self, if_true, if_false]
    · simp only [e_X8_otherHere_0, e_X8_otherHere_1, e_X8_otherHere_4, e_X8_otherHere_5, e_X8_otherHere_8, e_X8_otherHere_11, e_X8_otherHere_12, e_X8_otherHere_13, e_X8_otherHere_14, e_X8_otherHere_17, e_X8_otherHere_18, e_X8_otherHere_19, e_X8_otherHere_20, e_X8_otherHere_21, e_X8_otherHere_24, e_X8_otherHere_25, e_X8_otherHere_26, e_X8_otherHere_29, e_X8_otherHere_30, e_X8_otherHere_33, e_X8_otherHere_34, e_X8_otherHere_37, e_X8_otherHere_38, e_X8_otherHere_39, e_X8_otherHere_40, e_X8_otherHere_41, e_X8_otherHere_44, e_X8_otherHere_47, e_X8_otherHere_48, c_13, g_tt_0 ha hg, g_tt_1 ha hg, d_personHere t33 hN h12, hp, hm, ← e, e2, d_fail, Option.bind_some, Option.isSome_some, Option.toList, List.cons_append, List.nil_append, zclr_i, zclr_r, zclr_n, zfit_i, zfit_l, and_self, if_true, if_false]
theorem t_other_ok {x y : Int32} {k : Nat} (hN : X 33 4 = nI N) (h12 : N ≤ 12) (hk : k < N) (hp : dPlace X JX (33 + 4) N = (nI k, X)) (h1 : nI k ≠ x) (h2 : nI k ≠ y) (hA : Ca 1 45 [.ref 13] X JX none X' JX') : Ct t 4 130 [.int x, .int y] X JX (some (.int (nI k))) X' JX' := by
  intro n m g d a ha hg
  have hm : (nI k = -1) = False := eq_false (nI_m1 (show k < 2 ^ 31 by omega))
  rw [m_X8_otherHere]
  simp only [e_X8_otherHere_0, e_X8_otherHere_1, e_X8_otherHere_4, e_X8_otherHere_5, e_X8_otherHere_8, e_X8_otherHere_11, e_X8_otherHere_12, e_X8_otherHere_13, e_X8_otherHere_14, e_X8_otherHere_17, e_X8_otherHere_18, e_X8_otherHere_19, e_X8_otherHere_20, e_X8_otherHere_21, e_X8_otherHere_24, e_X8_otherHere_25, e_X8_otherHere_26, e_X8_otherHere_29, e_X8_otherHere_30, e_X8_otherHere_33, e_X8_otherHere_34, e_X8_otherHere_37, e_X8_otherHere_38, e_X8_otherHere_39, e_X8_otherHere_40, e_X8_otherHere_41, e_X8_otherHere_44, e_X8_otherHere_47, e_X8_otherHere_48, c_13, g_tt_0 ha hg, g_tt_1 ha hg, d_personHere t33 hN h12, hp, hm, eq_false h1, eq_false h2, hA, Option.bind_some, Option.isSome_some, Option.toList, List.cons_append, List.nil_append, zclr_i, zclr_r, zclr_n, zfit_i, zfit_l, and_self, if_true, if_false]
theorem t_single_no {x : Int32} (hN : X 33 4 = nI N) (h12 : N ≤ 12) (hp : dPlace X JX (33 + 4) N = (-1, X')) : Ct t 4 133 [.int x] X JX (some (.int (-1))) X' JX := by
  intro n m g d a ha hg
  rw [m_X8_singleHere]
  simp only [e_X8_singleHere_0, e_X8_singleHere_1, e_X8_singleHere_4, e_X8_singleHere_5, e_X8_singleHere_8, e_X8_singleHere_11, e_X8_singleHere_12, e_X8_singleHere_13, e_X8_singleHere_14, e_X8_singleHere_17, e_X8_singleHere_18, e_X8_singleHere_19, e_X8_singleHere_20, e_X8_singleHere_21, e_X8_singleHere_24, e_X8_singleHere_25, e_X8_singleHere_28, e_X8_singleHere_31, e_X8_singleHere_32, e_X8_singleHere_33, e_X8_singleHere_34, e_X8_singleHere_37, e_X8_singleHere_38, e_X8_singleHere_41, e_X8_singleHere_42, e_X8_singleHere_45, e_X8_singleHere_46, e_X8_singleHere_47, e_X8_singleHere_48, e_X8_singleHere_49, e_X8_singleHere_52, e_X8_singleHere_55, e_X8_singleHere_56, c_13, g_tt_0 ha hg, g_tt_1 ha hg, d_personHere t33 hN h12, hp, Option.bind_some, Option.isSome_some, Option.toList, List.cons_append, List.nil_append, zclr_i, zclr_r, zclr_n, zfit_i, zfit_l, and_self, if_true, if_false]
theorem t_single_eq {x : Int32} {k : Nat} (hN : X 33 4 = nI N) (h12 : N ≤ 12) (hk : k < N) (hp : dPlace X JX (33 + 4) N = (nI k, X)) (he : nI k = x ∨ X (33 + 9) k ≠ -1) : Ct t 4 133 [.int x] X JX (some (.int (-1))) (dFail 5 X) JX := by
  intro n m g d a ha hg
  have hm : (nI k = -1) = False := eq_false (nI_m1 (show k < 2 ^ 31 by omega))
  rw [m_X8_singleHere]
  by_cases e2 : nI k = x
  · simp only [e_X8_singleHere_0, e_X8_singleHere_1, e_X8_singleHere_4, e_X8_singleHere_5, e_X8_singleHere_8, e_X8_singleHere_11, e_X8_singleHere_12, e_X8_singleHere_13, e_X8_singleHere_14, e_X8_singleHere_17, e_X8_singleHere_18, e_X8_singleHere_19, e_X8_singleHere_20, e_X8_singleHere_21, e_X8_singleHere_24, e_X8_singleHere_25, e_X8_singleHere_28, e_X8_singleHere_31, e_X8_singleHere_32, e_X8_singleHere_33, e_X8_singleHere_34, e_X8_singleHere_37, e_X8_singleHere_38, e_X8_singleHere_41, e_X8_singleHere_42, e_X8_singleHere_45, e_X8_singleHere_46, e_X8_singleHere_47, e_X8_singleHere_48, e_X8_singleHere_49, e_X8_singleHere_52, e_X8_singleHere_55, e_X8_singleHere_56, c_13, g_tt_0 ha hg, g_tt_1 ha hg, d_personHere t33 hN h12, hp, hm, ← e2, d_fail, Option.bind_some, Option.isSome_some, Option.toList, List.cons_append, List.nil_append, zclr_i, zclr_r, zclr_n, zfit_i, zfit_l, and_self, if_true, if_false]
  · have e := he.resolve_left e2
    simp only [e_X8_singleHere_0, e_X8_singleHere_1, e_X8_singleHere_4, e_X8_singleHere_5, e_X8_singleHere_8, e_X8_singleHere_11, e_X8_singleHere_12, e_X8_singleHere_13, e_X8_singleHere_14, e_X8_singleHere_17, e_X8_singleHere_18, e_X8_singleHere_19, e_X8_singleHere_20, e_X8_singleHere_21, e_X8_singleHere_24, e_X8_singleHere_25, e_X8_singleHere_28, e_X8_singleHere_31, e_X8_singleHere_32, e_X8_singleHere_33, e_X8_singleHere_34, e_X8_singleHere_37, e_X8_singleHere_38, e_X8_singleHere_41, e_X8_singleHere_42, e_X8_singleHere_45, e_X8_singleHere_46, e_X8_singleHere_47, e_X8_singleHere_48, e_X8_singleHere_49, e_X8_singleHere_52, e_X8_singleHere_55, e_X8_singleHere_56, c_13, g_tt_0 ha hg, g_tt_1 ha hg, g_T0_14 t33, l_T9 t33 (show k < 12 by omega), d_personHere t33 hN h12, hp, hm, e2, e, d_fail, Option.bind_some, Option.isSome_some, Option.toList, List.cons_append, List.nil_append, zclr_i, zclr_r, zclr_n, zfit_i, zfit_l, and_self, if_true, if_false]
theorem t_single_ok {x : Int32} {k : Nat} (hN : X 33 4 = nI N) (h12 : N ≤ 12) (hk : k < N) (hp : dPlace X JX (33 + 4) N = (nI k, X)) (h1 : nI k ≠ x) (h2 : X (33 + 9) k = -1) (hA : Ca 1 45 [.ref 13] X JX none X' JX') : Ct t 4 133 [.int x] X JX (some (.int (nI k))) X' JX' := by
  intro n m g d a ha hg
  have hm : (nI k = -1) = False := eq_false (nI_m1 (show k < 2 ^ 31 by omega))
  rw [m_X8_singleHere]
  simp only [e_X8_singleHere_0, e_X8_singleHere_1, e_X8_singleHere_4, e_X8_singleHere_5, e_X8_singleHere_8, e_X8_singleHere_11, e_X8_singleHere_12, e_X8_singleHere_13, e_X8_singleHere_14, e_X8_singleHere_17, e_X8_singleHere_18, e_X8_singleHere_19, e_X8_singleHere_20, e_X8_singleHere_21, e_X8_singleHere_24, e_X8_singleHere_25, e_X8_singleHere_28, e_X8_singleHere_31, e_X8_singleHere_32, e_X8_singleHere_33, e_X8_singleHere_34, e_X8_singleHere_37, e_X8_singleHere_38, e_X8_singleHere_41, e_X8_singleHere_42, e_X8_singleHere_45, e_X8_singleHere_46, e_X8_singleHere_47, e_X8_singleHere_48, e_X8_singleHere_49, e_X8_singleHere_52, e_X8_singleHere_55, e_X8_singleHere_56, c_13, g_tt_0 ha hg, g_tt_1 ha hg, g_T0_14 t33, l_T9 t33 (show k < 12 by omega), d_personHere t33 hN h12, hp, hm, eq_false h1, h2, hA, Option.bind_some, Option.isSome_some, Option.toList, List.cons_append, List.nil_append, zclr_i, zclr_r, zclr_n, zfit_i, zfit_l, and_self, if_true, if_false]
/-- one part of the text, read by both -/
def Out (L p : Nat) (t : Int32) (yc yr : Nat) (X : Nat → Nat → Int32) (JX : Nat → Nat → Int64) (Y : Nat → Nat → Int32) (JY : Nat → Nat → Int64) : Prop := ∃ X' JX' Y' JY', ((Ct t 20 yc [] X JX (some (.int 0)) X' JX' ∧ BAD X' Y') ∨ (Ct t 20 yc [] X JX (some (.int 1)) X' JX' ∧ ∃ p' N' S', p ≤ p' ∧ TS L p' t N' S' X' JX' Y' JY') ∨ (Ct t 20 yc [] X JX (some (.int 1)) X' JX' ∧ X' 13 5 ≠ 4 ∧ BAD (dHere X') Y')) ∧ Ca 20 yr [.ref 143] Y JY none Y' JY' ∧ GX X JX X' JX' ∧ GY Y JY Y' JY'
theorem Out.f {yc yr : Nat} (hr : Ca 20 yr [.ref 143] Y JY none Y' JY') (hc : Ct t 20 yc [] X JX (some (.int 0)) X' JX') (hb : BAD X' Y') (gx : GX X JX X' JX') (gy : GY Y JY Y' JY') : Out L p t yc yr X JX Y JY := ⟨X', JX', Y', JY', .inl ⟨hc, hb⟩, hr, gx, gy⟩
theorem Out.tr {yc yr N' S' : Nat} (hr : Ca 20 yr [.ref 143] Y JY none Y' JY') (hc : Ct t 20 yc [] X JX (some (.int 1)) X' JX') (hp : p ≤ p') (hb : TS L p' t N' S' X' JX' Y' JY') (gx : GX X JX X' JX') (gy : GY Y JY Y' JY') : Out L p t yc yr X JX Y JY := ⟨X', JX', Y', JY', .inr (.inl ⟨hc, p', N', S', hp, hb⟩), hr, gx, gy⟩
/-- what comes behind 'of', 'for', .. -/
theorem d_key_no {w : Int32} (h : RDS L p X JX Y JY) (hk : X 13 9 ≠ w) (d : Nat) : zcall (d + 2) 55 [.ref 13, .int w] (mk n m g X JX) = some (some (.int 0), mk n m g (dHere X) JX) := by
  have := d_takeKey (n := n) (m := m) (g := g) (J := JX) (w := w) h.1 d
  rw [decide_eq_false hk, if_neg hk, if_neg hk] at this
  exact this
theorem d_key_yes {w : Int32} (h : RDS L p X JX Y JY) (hk : X 13 9 = w) (hA : Ca 1 45 [.ref 13] X JX none X' JX') (d : Nat) : zcall (d + 2) 55 [.ref 13, .int w] (mk n m g X JX) = some (some (.int 1), mk n m g X' JX') := by
  rw [m_X4_takeKey]
  simp only [e_X4_takeKey_0, e_X4_takeKey_1, e_X4_takeKey_4, e_X4_takeKey_5, e_X4_takeKey_8, e_X4_takeKey_9, e_X4_takeKey_12, e_X4_takeKey_13, e_X4_takeKey_14, e_X4_takeKey_17, e_X4_takeKey_18, c_13, g_13_9, hk, hA, zfit_b1, Option.bind_some, Option.isSome_some, Option.toList, List.cons_append, List.nil_append, zclr_i, zclr_r, zclr_n, zfit_i, zfit_l, and_self, if_true, if_false]
end TA
