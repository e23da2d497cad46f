/-! READING A TOWN: both whole runs -/
section TM
variable {n m : Nat} {g g' : Nat → zC} {I A B C X Y K : Nat → Nat → Int32} {J JA JB JC JX JY JK : Nat → Nat → Int64} {L p q N S N' S' : Nat} {t x : Int32} {X' Y' : Nat → Nat → Int32} {JX' JY' : Nat → Nat → Int64}
def mix {α : Type} (A B : Nat → Nat → α) : Nat → Nat → α := fun a => if a < 143 then A a else B a
theorem mix_l {α : Type} {A B : Nat → Nat → α} {a : Nat} (h : a < 143) : mix A B a = A a := if_pos h
theorem mix_r {α : Type} {A B : Nat → Nat → α} {a : Nat} (h : 143 ≤ a) : mix A B a = B a := if_neg (by omega)
theorem mk_mix (h : mk n m g A JA = mk n m g' B JB) (hc : ∀ a, a < 143 → C a = A a ∧ JC a = JA a) : mk n m g C JC = mk n m g (mix B C) (mix JB JC) := by
  have h2 : ∀ a, (mk n m g A JA).2.2 a = (mk n m g' B JB).2.2 a := fun a => by rw [h]
  unfold mk
  refine Prod.ext rfl (Prod.ext rfl (funext fun a => ?_))
  show (if a < 3 then g a else if a < 158 then sh a (C a) (JC a) else g a) = if a < 3 then g a else if a < 158 then sh a (mix B C a) (mix JB JC a) else g a
  by_cases c1 : a < 3
  · rw [if_pos c1, if_pos c1]
  · rw [if_neg c1, if_neg c1]
    by_cases c2 : a < 158
    · rw [if_pos c2, if_pos c2]
      by_cases c3 : a < 143
      · rw [mix_l c3, mix_l c3, (hc a c3).1, (hc a c3).2]
        have := h2 a
        rw [mk_at (by omega) c2, mk_at (by omega) c2] at this
        exact this
      · rw [mix_r (by omega), mix_r (by omega)]
    · rw [if_neg c2, if_neg c2]
/-- what both come to, a call that may make new cells -/
def Eqw (d y y' : Nat) (as : List Value) (n m : Nat) (g : Nat → zC) (I : Nat → Nat → Int32) (J : Nat → Nat → Int64) : Prop := ∃ v M1 n' m' g' I2 J2 N' S', zcall d y (.ref 3 :: as) (mk n m g I J) = some (some v, M1) ∧ zcall d y' (.ref 143 :: as) M1 = some (some v, mk n' m' g' I2 J2) ∧ Inv I2 J2 N' S' ∧ n ≤ n' ∧ n' ≤ n + 2 ∧ m' ≤ m + 8 ∧ (∀ a, a < 3 → g' a = g a) ∧ (∀ a, a < 3 → M1.2.2 a = g a) ∧ zcls M1 143 = 12
theorem Eqv.w {d y y' : Nat} {as : List Value} (h : Eqv d y y' as n m g I J) : Eqw d y y' as n m g I J := by
  obtain ⟨v, I', J', I2, J2, N', S', h1, h2, h3⟩ := h
  exact ⟨v, mk n m g I' J', n, m, g, I2, J2, N', S', h1, h2, h3, Nat.le_refl n, by omega, by omega, fun _ _ => rfl, fun a ha => if_pos ha, c_143⟩
theorem mk_new {ci : Nat} (hn : 158 ≤ n) : znew (mk n m g I J) ci = mk (n + 1) (m + zfN ci) (zup g n (.inr (ci, zdef ci))) I J := by
  unfold znew
  show ((mk n m g I J).1 + 1, (mk n m g I J).2.1 + zfN ci, zup (mk n m g I J).2.2 (mk n m g I J).1 (.inr (ci, zdef ci))) = _
  unfold mk
  refine Prod.ext rfl (Prod.ext rfl (funext fun b => ?_))
  show (if b = n then _ else if b < 3 then g b else if b < 158 then sh b (I b) (J b) else g b) = if b < 3 then (if b = n then _ else g b) else if b < 158 then sh b (I b) (J b) else (if b = n then _ else g b)
  by_cases h : b = n
  · subst h
    rw [if_pos rfl, if_neg (by omega), if_neg (by omega), if_pos rfl]
  · rw [if_neg h, if_neg h]
theorem mk_1 : (mk n m g I J).1 = n := rfl
theorem zpf_out {a ci k : Nat} {fs : List Value} {v : Value} (ha : 158 ≤ a) (hg : g a = .inr (ci, fs)) : zpf (mk n m g I J) a k v = mk n m (zup g a (.inr (ci, fs.set k v))) I J := by
  have e : zpf (mk n m g I J) a k v = (n, m, zup (mk n m g I J).2.2 a (.inr (ci, fs.set k v))) := by
    simp [zpf, mk_out ha, hg]
    exact ⟨rfl, rfl⟩
  rw [e]
  unfold mk
  refine Prod.ext rfl (Prod.ext rfl (funext fun b => ?_))
  show (if b = a then _ else if b < 3 then g b else if b < 158 then sh b (I b) (J b) else g b) = if b < 3 then (if b = a then _ else g b) else if b < 158 then sh b (I b) (J b) else (if b = a then _ else g b)
  by_cases h : b = a
  · subst h
    rw [if_pos rfl, if_neg (by omega), if_neg (by omega), if_pos rfl]
  · rw [if_neg h, if_neg h]
theorem zgf_out {a ci k : Nat} {fs : List Value} (ha : 158 ≤ a) (hg : g a = .inr (ci, fs)) : zgf (mk n m g I J) a ci k = fs[k]? := by simp [zgf, mk_out ha, hg]
theorem zdef_8 : zdef 8 = [.null, .null, .int 0] := by decide +kernel
theorem zfN_8 : zfN 8 = 3 := by decide +kernel
theorem t_init {a : Nat} (ha : 158 ≤ a) (hg : g a = .inr (8, zdef 8)) (d : Nat) : zcall d 120 [.ref a, .ref 13, .ref 33] (mk n m g I J) = some (none, mk n m (zup g a (tto 0)) I J) := by
  rw [zdef_8] at hg
  have hg2 : zup g a (.inr (8, [.ref 13, .null, .int 0])) a = .inr (8, [.ref 13, .null, .int 0]) := zup_at
  rw [m_X8_init]
  simp only [e_X8_init_0, e_X8_init_1, e_X8_init_4, e_X8_init_5, e_X8_init_6, e_X8_init_9, e_X8_init_10, e_X8_init_11, e_X8_init_14, zgf_out ha hg, zpf_out ha hg, List.set, zgf_out ha hg2, zpf_out ha hg2, zup_zup, show ([Value.null, Value.null, Value.int 0] : List Value)[0]? = some .null from rfl, show ([Value.ref 13, Value.null, Value.int 0] : List Value)[1]? = some .null from rfl, show zfit (zfT 8 0) (.ref 13) = true from rfl, show zfit (zfT 8 1) (.ref 33) = true from rfl, Option.bind_some, Option.isSome_some, Option.toList, List.cons_append, List.nil_append, zclr_i, zclr_r, zclr_n, zfit_i, zfit_l, and_self, if_true, if_false]
  rfl
def clX (X : Nat → Nat → Int32) : Nat → Nat → Int32 := zu (zu (zu (zu (zu (zu (zu X 33 0 1800) 33 1 9) 33 2 80) 33 3 0) 33 4 0) 33 5 0) (33 + 14) 2 0
theorem clX_far {a : Nat} (h0 : a ≠ 33) (h14 : a ≠ 33 + 14) : clX X a = X a := by
  unfold clX
  rw [zu_far _ _ _ h14, zu_far _ _ _ h0, zu_far _ _ _ h0, zu_far _ _ _ h0, zu_far _ _ _ h0, zu_far _ _ _ h0, zu_far _ _ _ h0]
theorem nb_emp {v : Int32} {j : Nat} (hj : j < 506) : nb (zu (zr Y 148 (emp 2024 (Y 148))) 143 25 v) j = emp0 j := by
  unfold nb
  rw [zu_far _ _ _ (by decide), zr_same]
  unfold emp
  rw [if_pos (by omega), show 2024 + j - 2024 = j by omega]
theorem TS.start (h : RDS L p X JX Y JY) : TS L p 0 0 0 (clX X) JX (zu (zr Y 148 (emp 2024 (Y 148))) 143 25 0) JY := by
  have c0 : ∀ k, clX X 33 k = if k = 5 then 0 else if k = 4 then 0 else if k = 3 then 0 else if k = 2 then 80 else if k = 1 then 9 else if k = 0 then 1800 else X 33 k := fun k => by
    unfold clX
    rw [zu_far _ _ _ (by decide)]
    simp only [zu_row]
  have c14 : clX X (33 + 14) 2 = 0 := by
    unfold clX
    rw [zu_row, if_pos rfl]
  have q0 : qN (clX X) 33 = 0 := by
    unfold qN
    rw [c14]
    rfl
  refine ⟨?_, ?_, ?_, ⟨fun s hs => absurd hs (by omega), fun q hq => absurd hq (by omega)⟩, ⟨fun s _ hs => ?_, fun q _ hq => ?_⟩, fun q hq => absurd hq (by omega), ?_, ?_⟩
  · refine (h.same (clX_far (by decide) (by decide)) (clX_far (by decide) (by decide)) rfl rfl (fun k k1 k2 => ?_) ?_ rfl)
    · rw [zu_row, if_neg (by omega), zr_far _ _ (by decide)]
    · rw [zu_far _ _ _ (by decide), zr_far _ _ (by decide)]
  · apply WT.intro
    · rw [c0]; rfl
    · decide
    · decide
    · rw [c0]; rfl
    · decide
    · exact ⟨1800, by decide, by decide, by rw [c0]; rfl⟩
    · exact ⟨9, by decide, by decide, by rw [c0]; rfl⟩
    · exact ⟨80, by decide, by decide, by rw [c0]; rfl⟩
    · intro q _ hq
      rw [c0]
      have : ∀ q, q < 12 → ((0 : Int32) >>> (nI q &&& 31) &&& 1) = 0 := by decide +kernel
      exact this q hq
    · intro s hs; omega
    · intro s hs; omega
    · intro s hs; omega
    · intro s hs; omega
    · intro s hs; omega
    · intro s hs; omega
    · intro s hs; omega
    · intro s hs; omega
    · intro s hs; omega
    · intro s hs; omega
    · intro s hs; omega
    · intro s hs; omega
    · intro s j hs; omega
    · rw [q0, c14]; exact ⟨rfl, by decide⟩
    · rw [q0]; intro k hk; omega
    · rw [q0]; intro k hk; omega
    · rw [q0]; intro i j hij hk; omega
  · apply RT.intro
    · rw [nb_emp (by decide), c0]; rfl
    · rw [nb_emp (by decide), c0]; rfl
    · rw [nb_emp (by decide), c0]; rfl
    · rw [nb_emp (by decide), c0]; rfl
    · rw [nb_emp (by decide), c0]; rfl
    · rw [nb_emp (by decide), c14]; rfl
    · intro s hs; omega
    · intro s hs; omega
    · intro s hs; omega
    · intro s hs; omega
    · intro s hs; omega
    · intro s hs; omega
    · intro s hs; omega
    · intro s hs; omega
    · intro s hs; omega
    · intro s hs; omega
    · intro s hs; omega
    · intro s hs; omega
    · intro s j hs; omega
    · rw [q0]; intro k hk; omega
    · rw [q0]; intro k hk; omega
  · rw [nb_emp (by omega), nb_emp (by omega)]
    revert s
    have : ∀ s, s < 6 → emp0 (6 + s) = 10 ∧ emp0 (12 + s) = 0 := by decide +kernel
    exact fun s _ hs => this s hs
  · rw [nb_emp (by omega), nb_emp (by omega), nb_emp (by omega), nb_emp (by omega), nb_emp (by omega), nb_emp (by omega), nb_emp (by omega), nb_emp (by omega), nb_emp (by omega)]
    have : ∀ q, q < 12 → emp0 (30 + q) = -1 ∧ emp0 (42 + q) = 0 ∧ emp0 (54 + q) = 0 ∧ emp0 (66 + q) = 0 ∧ emp0 (78 + q) = -1 ∧ emp0 (90 + q) = -1 ∧ emp0 (102 + q) = -1 ∧ emp0 (114 + q) = 0 ∧ emp0 (126 + q) = 0 := by decide +kernel
    exact this q hq
  · rw [nb_emp (by decide)]
    rfl
  · rw [zu_row, if_pos rfl]
theorem town_core {Y0 : Nat → Nat → Int32} {JY0 : Nat → Nat → Int64} (hL : L ≤ 900) (ht : ∀ k, k < 900 → I 12 k = Y0 147 k ∧ isB (I 12 k)) (hr : ∀ k, k < 27 → J 14 k = (resL[k]?).getD 0) : ∃ X1 JX1 Y1 JY1, Ca 1 45 [.ref 13] (bgX L I) J none X1 JX1 ∧ Ca 1 257 [.ref 143] (bgY L Y0) JY0 none Y1 JY1 ∧ FX (bgX L I) J X1 JX1 ∧ YA (bgY L Y0) JY0 Y1 JY1 ∧ ∃ t' X' JX' Y' JY', ((TLc 0 t' 0 (clX (zu X1 3 5 0)) JX1 0 X' JX' ∧ BAD X' Y') ∨ (TLc 0 t' 0 (clX (zu X1 3 5 0)) JX1 1 X' JX' ∧ ∃ p' N' S', TS L p' t' N' S' X' JX' Y' JY')) ∧ TLr (zu (zr Y1 148 (emp 2024 (Y1 148))) 143 25 0) JY1 Y' JY' ∧ GX (clX (zu X1 3 5 0)) JX1 X' JX' ∧ GY (zu (zr Y1 148 (emp 2024 (Y1 148))) 143 25 0) JY1 Y' JY' := by
  obtain ⟨X1, JX1, Y1, JY1, p1, a1, a2, a3, _, a4, a5, a6⟩ := r_begin (JY0 := JY0) hL ht hr
  have a3' : RDS L p1 (zu X1 3 5 0) JX1 Y1 JY1 := a3.same (zu_far _ _ _ (by decide)) (zu_far _ _ _ (by decide)) rfl rfl (fun _ _ _ => rfl) rfl rfl
  have T := TS.start a3'
  have e13 : clX (zu X1 3 5 0) 13 = X1 13 := by rw [clX_far (by decide) (by decide), zu_far _ _ _ (by decide)]
  have h : TL L 0 0 (clX (zu X1 3 5 0)) JX1 (zu (zr Y1 148 (emp 2024 (Y1 148))) 143 25 0) JY1 := by
    by_cases c : X1 13 5 = 0
    · exact TL.end (by decide) T (by rw [e13]; exact c)
    · have := a4 c
      exact town_loop hL (L + 1) 0 p1 0 0 0 _ _ _ _ (by omega) (by omega) (by rw [e13]; exact c) T
  obtain ⟨t', X', JX', Y', JY', h1, h2, h3, h4⟩ := h
  exact ⟨X1, JX1, Y1, JY1, a1, a2, a5, a6, t', X', JX', Y', JY', h1, h2, h3, h4⟩
/-- Inv behind a reading -/
theorem Inv.rdg (h : Inv I J N S) (hW : WT K 16 N' S' 2999) (hR : RT K 16 (K 148) N' S') (hj : JW JK 16 (JK 151) N' S') (hcs : CS K 50 (K 148) N' S') (hst : K 3 0 = K 143 0) (hK : ∀ a, (a = 5 ∨ a = 6 ∨ a = 12 ∨ a = 62 ∨ a = 71 ∨ a = 144 ∨ a = 145 ∨ a = 147 ∨ a = 157 ∨ (74 ≤ a ∧ a < 143)) → K a = I a) (h35 : K 3 5 = 0) (h317 : K 3 17 = I 3 17) (h8 : K 143 8 = 0) (h24 : K 143 24 = I 143 24) (h34 : K 143 34 = I 143 34) (f1 : K 13 10 = K 143 10) (f2 : K 13 11 = K 143 11) (hc : ∀ j, 506 ≤ j → j < 2024 → K 148 j = I 148 j) (hJ : ∀ a, (a = 8 ∨ a = 9 ∨ a = 10 ∨ a = 11 ∨ a = 14 ∨ a = 146 ∨ (74 ≤ a ∧ a < 143)) → JK a = J a) (hJ3 : JK 3 = J 3) (hJ143 : ∀ k, k ≠ 19 → JK 143 k = J 143 k) (hw : ∀ j, 18 ≤ j → j < 72 → JK 151 j = J 151 j) : Inv K JK N' S' := by
  refine ⟨hW, hR, hj, hcs, hst, ?_, ?_, ?_, ?_, ?_, ?_, ?_⟩
  · rw [hJ3, hJ143 2 (by decide), hJ143 3 (by decide)]; exact h.tb
  · obtain ⟨a1, a2, a3⟩ := h.tray
    unfold trayOk yWellT
    rw [hK 5 (by decide), hK 6 (by decide), hK 144 (by decide), hK 145 (by decide), hJ 146 (by decide)]
    refine ⟨a1, a2, fun t k h1 h2 h4 => ?_⟩
    rw [hJ (8 + t) (by omega)]
    exact a3 t k h1 h2 h4
  · obtain ⟨a1, a2, _⟩ := h.tape
    unfold tapeOk
    rw [hK 12 (by decide), hK 147 (by decide)]
    exact ⟨a1, a2, 0, by decide, h35, h8⟩
  · unfold readOk
    rw [hJ 14 (by decide)]
    exact ⟨f1, f2, h.rd.2.2⟩
  · have := h.pt
    unfold pointOk at *
    rw [hK 71 (by decide)]
    exact this
  · have := h.life
    unfold lifeOk at *
    rw [hK 62 (by decide), h34, hK 157 (by decide)]
    exact this
  · obtain ⟨Q, k1, k2, k3, k4⟩ := h.marks
    refine ⟨Q, k1, by rw [h317]; exact k2, by rw [h24]; exact k3, fun k hk => ?_⟩
    obtain ⟨N1, S1, w1, r1, j1, c1⟩ := k4 k hk
    have hcc : ∀ j, j < 506 → K 148 (506 * (k + 1) + j) = I 148 (506 * (k + 1) + j) := fun j hj => hc _ (by omega) (by omega)
    have hww : ∀ j, j < 18 → JK 151 (18 * (k + 1) + j) = J 151 (18 * (k + 1) + j) := fun j hj => hw _ (by omega) (by omega)
    have rk : ∀ i, i < 17 → K (74 + 23 * k + i) = I (74 + 23 * k + i) := fun i hi => hK _ (by omega)
    refine ⟨N1, S1, w1.far rk, ?_, ?_, ?_⟩
    · exact (r1.far rk).cells (w1.far rk) (fun j hj => hcc j (by omega))
    · exact j1.cells w1.h12 w1.h6 (fun j hj => hww j hj) (fun s _ => by rw [hJ _ (by omega)]) (fun p _ => by rw [hJ _ (by omega)])
    · exact c1.far (fun r hr => hK _ (by omega)) (fun j _ hj => hcc j hj)
end TM
