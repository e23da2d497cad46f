/-! READING CENTURIES: what holds between two lines -/
section CA
variable {n m : Nat} {g : Nat → zC} {I X Y X' Y' X2 Y2 : Nat → Nat → Int32} {J JX JY JX' JY' JX2 JY2 : Nat → Nat → Int64} {L p p' N S st ln dp a k : Nat} {f f' c c' : Nat → Int32}
def ctc (a : Nat) (dp : Int32) : zC := .inr (0, [.ref 13, .ref 16, .ref 56, .ref (a + 1), .int dp])
def cto (f : Nat → Int32) : zC := .inl (.int, 3, .inl f)
def GC (g : Nat → zC) (a dp : Nat) (f : Nat → Int32) : Nat → zC := zup (zup g a (ctc a (nI dp))) (a + 1) (cto f)
theorem GC_a : GC g a dp f a = ctc a (nI dp) := by simp [GC, zup]
theorem GC_o : GC g a dp f (a + 1) = cto f := by simp [GC, zup]
theorem c_ct (ha : 158 ≤ a) : zcls (mk n m (GC g a dp f) I J) a = 0 := by simp [zcls, mk_out ha, GC_a, ctc]
theorem g_ct_0 (ha : 158 ≤ a) : zgf (mk n m (GC g a dp f) I J) a 0 0 = some (.ref 13) := by simp [zgf, mk_out ha, GC_a, ctc]
theorem g_ct_1 (ha : 158 ≤ a) : zgf (mk n m (GC g a dp f) I J) a 0 1 = some (.ref 16) := by simp [zgf, mk_out ha, GC_a, ctc]
theorem g_ct_2 (ha : 158 ≤ a) : zgf (mk n m (GC g a dp f) I J) a 0 2 = some (.ref 56) := by simp [zgf, mk_out ha, GC_a, ctc]
theorem g_ct_3 (ha : 158 ≤ a) : zgf (mk n m (GC g a dp f) I J) a 0 3 = some (.ref (a + 1)) := by simp [zgf, mk_out ha, GC_a, ctc]
theorem g_ct_4 (ha : 158 ≤ a) : zgf (mk n m (GC g a dp f) I J) a 0 4 = some (.int (nI dp)) := by simp [zgf, mk_out ha, GC_a, ctc]
theorem k_co (ha : 158 ≤ a) (hk : k < 3) : zig (mk n m (GC g a dp f) I J) (a + 1) k = some (f k) := zig_c (len := 3) (by rw [mk_out (by omega), GC_o]; rfl) hk
theorem l_co (ha : 158 ≤ a) (hk : k < 3) : zld (mk n m (GC g a dp f) I J) (a + 1) (nI k) = some (f k) := zld_c (by omega) (k_co ha hk)
theorem mk_g {g' : Nat → zC} (h : ∀ b, (b < 3 ∨ 158 ≤ b) → g b = g' b) : mk n m g I J = mk n m g' I J := by
  unfold mk
  refine Prod.ext rfl (Prod.ext rfl (funext fun b => ?_))
  show (if b < 3 then g b else if b < 158 then sh b (I b) (J b) else g b) = if b < 3 then g' b else if b < 158 then sh b (I b) (J b) else g' b
  by_cases c1 : b < 3
  · rw [if_pos c1, if_pos c1, h b (.inl c1)]
  · rw [if_neg c1, if_neg c1]
    by_cases c2 : b < 158
    · rw [if_pos c2, if_pos c2]
    · rw [if_neg c2, if_neg c2, h b (.inr (by omega))]
theorem p_ct_4 {dp' : Nat} (ha : 158 ≤ a) : zpf (mk n m (GC g a dp f) I J) a 4 (.int (nI dp')) = mk n m (GC g a dp' f) I J := by
  rw [zpf_out ha (GC_a (g := g) (a := a) (dp := dp) (f := f))]
  refine mk_g (fun b _ => ?_)
  unfold GC zup ctc
  by_cases h1 : b = a
  · rw [if_pos h1, if_neg (by omega), if_pos h1]
    rfl
  · rw [if_neg h1]
    by_cases h2 : b = a + 1
    · rw [if_pos h2, if_pos h2]
    · rw [if_neg h2, if_neg h1, if_neg h2, if_neg h1]
theorem q_co {x : Int32} (ha : 158 ≤ a) : zqi (mk n m (GC g a dp f) I J) (a + 1) k x = mk n m (GC g a dp (upd f k x)) I J := by
  have hc : (mk n m (GC g a dp f) I J).2.2 (a + 1) = .inl (.int, 3, .inl f) := by rw [mk_out (by omega), GC_o]; rfl
  have e : zqi (mk n m (GC g a dp f) I J) (a + 1) k x = (n, m, zup (mk n m (GC g a dp f) I J).2.2 (a + 1) (.inl (.int, 3, .inl (upd f k x)))) := by
    simp [zqi, hc]
    exact ⟨rfl, rfl⟩
  rw [e]
  unfold mk
  refine Prod.ext rfl (Prod.ext rfl (funext fun b => ?_))
  show (if b = a + 1 then _ else if b < 3 then GC g a dp f b else if b < 158 then sh b (I b) (J b) else GC g a dp f b) = if b < 3 then GC g a dp (upd f k x) b else if b < 158 then sh b (I b) (J b) else GC g a dp (upd f k x) b
  by_cases h : b = a + 1
  · subst h
    rw [if_pos rfl, if_neg (by omega), if_neg (by omega), GC_o]
    rfl
  · have : GC g a dp f b = GC g a dp (upd f k x) b := by
      unfold GC zup
      rw [if_neg h, if_neg h]
    rw [if_neg h, this]
abbrev Cc (dp : Nat) (f : Nat → Int32) (dp' : Nat) (f' : Nat → Int32) (k y : Nat) (as : List Value) (X : Nat → Nat → Int32) (JX : Nat → Nat → Int64) (v : Option Value) (X' : Nat → Nat → Int32) (JX' : Nat → Nat → Int64) : Prop := ∀ (n m : Nat) (g : Nat → zC) (d a : Nat), 158 ≤ a → zcall (d + k) y (.ref a :: as) (mk n m (GC g a dp f) X JX) = some (v, mk n m (GC g a dp' f') X' JX')
/-- what holds at the head of a line -/
def CR (L p N S st ln dp : Nat) (X : Nat → Nat → Int32) (JX : Nat → Nat → Int64) (Y : Nat → Nat → Int32) (JY : Nat → Nat → Int64) : Prop := RDS L p X JX Y JY ∧ WT X 16 N S 2999 ∧ JW JX 16 (JY 151) N S ∧ (Y 148 0 = nI S ∧ Y 148 1 = nI N) ∧ (X 56 1 = nI st ∧ X 56 2 = nI ln ∧ Y 143 26 = nI st) ∧ st ≤ 30 ∧ ln + dp ≤ 2 * st
theorem CR.rs (h : CR L p N S st ln dp X JX Y JY) : RDS L p X JX Y JY := h.1
theorem CR.W (h : CR L p N S st ln dp X JX Y JY) : WT X 16 N S 2999 := h.2.1
theorem CR.jw (h : CR L p N S st ln dp X JX Y JY) : JW JX 16 (JY 151) N S := h.2.2.1
theorem CR.yS (h : CR L p N S st ln dp X JX Y JY) : Y 148 0 = nI S := h.2.2.2.1.1
theorem CR.yN (h : CR L p N S st ln dp X JX Y JY) : Y 148 1 = nI N := h.2.2.2.1.2
theorem CR.xs (h : CR L p N S st ln dp X JX Y JY) : X 56 1 = nI st := h.2.2.2.2.1.1
theorem CR.xl (h : CR L p N S st ln dp X JX Y JY) : X 56 2 = nI ln := h.2.2.2.2.1.2.1
theorem CR.ys (h : CR L p N S st ln dp X JX Y JY) : Y 143 26 = nI st := h.2.2.2.2.1.2.2
theorem CR.h30 (h : CR L p N S st ln dp X JX Y JY) : st ≤ 30 := h.2.2.2.2.2.1
theorem CR.hln (h : CR L p N S st ln dp X JX Y JY) : ln + dp ≤ 2 * st := h.2.2.2.2.2.2
theorem CR.move (h : CR L p N S st ln dp X JX Y JY) (hr : RDS L p' X' JX' Y' JY') (hf : FX X JX X' JX') (hg : YG Y JY Y' JY') : CR L p' N S st ln dp X' JX' Y' JY' := by
  obtain ⟨h1, h2, h3, ⟨h4, h5⟩, ⟨h6, h7, h8⟩, h9, h10⟩ := h
  refine ⟨hr, h2.far (fun i hi => hf.1 _ (by omega)), ?_, ⟨?_, ?_⟩, ⟨?_, ?_, ?_⟩, h9, h10⟩
  · unfold JW
    rw [hf.2 (16 + 1) (by decide), hf.2 (16 + 4) (by decide), hg.2.2.1 151 (by decide)]
    exact h3
  · rw [hg.1 148 (by decide)]; exact h4
  · rw [hg.1 148 (by decide)]; exact h5
  · rw [hf.1 56 (by decide)]; exact h6
  · rw [hf.1 56 (by decide)]; exact h7
  · rw [hg.2.1 26 (by decide)]; exact h8
theorem s56 : isScript 56 := Or.inr (Or.inl rfl)
theorem CR.wp (h : CR L p N S st ln dp X JX Y JY) : WR JX (16 + 4) JY (18 * 0 + 6 * 1) N := fun k hk w hw => by
  rw [h.jw.wp hk hw]
theorem CR.ws (h : CR L p N S st ln dp X JX Y JY) : WR JX (16 + 1) JY (18 * 0 + 6 * 0) S := fun k hk w hw => by
  rw [h.jw.wsn hk, show 18 * 0 + 6 * 0 + k = k by omega]
/-- a person, a surname, read past -/
theorem r_tp (h : CR L p N S st ln dp X JX Y JY) : (∃ k X' JX' Y' JY' p', k < N ∧ (∀ dp f, Cc dp f dp f 5 9 [] X JX (some (.int (nI k))) X' JX') ∧ Ca 5 295 [.ref 143, .int 0, .int 1] Y JY (some (.int (nI k))) Y' JY' ∧ RDS L p' X' JX' Y' JY' ∧ p ≤ p' ∧ FX X JX X' JX' ∧ YG Y JY Y' JY') ∨ ∃ X' Y', (∀ dp f, Cc dp f dp f 5 9 [] X JX (some (.int (-1))) X' JX) ∧ Ca 5 295 [.ref 143, .int 0, .int 1] Y JY (some (.int 0)) Y' JY ∧ BAD X' Y' ∧ FX X JX X' JX ∧ YG Y JY Y' JY := by
  have h12 := h.W.h12
  have hp := fun n m g d => d_placeHere (n := n) (m := m) (g := g) (I := X) (J := JX) (a := 16 + 4) (K := N) (by omega) (fun k hk => k_T4 t16 (show k < 12 by omega)) d
  rcases r_told (B := 0) (s := 1) (K := N) (a := 16 + 4) h.rs (by decide) (by decide) h12 h.yN h.wp with ⟨k, hk, _, hpk, tk⟩ | ⟨X', Y', hpk, tk, hB, fx, yg⟩
  · rw [hpk] at hp
    have tk' : Ca 4 294 [.ref 143, .int 0, .int 1] Y JY (some (.int (nI k))) Y JY := tk
    obtain ⟨X1, JX1, Y1, JY1, p1, a1, a2, a3, a4, _, a5, a6⟩ := r_adv h.rs
    have kmf : (nI k = -1) = False := eq_false (nI_m1 (by omega))
    refine .inl ⟨k, X1, JX1, Y1, JY1, p1, hk, fun dp f n m g d a ha => ?_, fun n m g d => v_readTold_t (K := 0) h.rs.bad tk' a2 d, a3, a4, a5, a6.yg⟩
    rw [m_X0_takePerson]
    simp only [e_X0_takePerson_0, e_X0_takePerson_1, e_X0_takePerson_4, e_X0_takePerson_5, e_X0_takePerson_8, e_X0_takePerson_11, e_X0_takePerson_12, e_X0_takePerson_15, e_X0_takePerson_18, e_X0_takePerson_21, e_X0_takePerson_22, e_X0_takePerson_23, e_X0_takePerson_24, e_X0_takePerson_27, e_X0_takePerson_28, e_X0_takePerson_31, e_X0_takePerson_34, e_X0_takePerson_35, c_13, g_ct_0 ha, g_ct_1 ha, g_T0_9 t16, g_T0_4 t16, h.W.hN, hp, kmf, a1, Option.bind_some, Option.isSome_some, Option.toList, List.cons_append, List.nil_append, zclr_i, zclr_r, zclr_n, zfit_i, zfit_l, and_self, if_true, if_false]
  · rw [hpk] at hp
    have tk' : Ca 4 294 [.ref 143, .int 0, .int 1] Y JY (some (.int 0)) Y' JY := tk
    refine .inr ⟨X', Y', fun dp f n m g d a ha => ?_, fun n m g d => v_readTold_f hB tk' d, hB, fx, yg⟩
    rw [m_X0_takePerson]
    simp only [e_X0_takePerson_0, e_X0_takePerson_1, e_X0_takePerson_4, e_X0_takePerson_5, e_X0_takePerson_8, e_X0_takePerson_11, e_X0_takePerson_12, e_X0_takePerson_15, e_X0_takePerson_18, e_X0_takePerson_21, e_X0_takePerson_22, e_X0_takePerson_23, e_X0_takePerson_24, e_X0_takePerson_27, e_X0_takePerson_28, e_X0_takePerson_31, e_X0_takePerson_34, e_X0_takePerson_35, c_13, g_ct_0 ha, g_ct_1 ha, g_T0_9 t16, g_T0_4 t16, h.W.hN, hp, Option.bind_some, Option.isSome_some, Option.toList, List.cons_append, List.nil_append, zclr_i, zclr_r, zclr_n, zfit_i, zfit_l, and_self, if_true, if_false]
theorem r_ts (h : CR L p N S st ln dp X JX Y JY) : (∃ k X' JX' Y' JY' p', k < S ∧ (∀ dp f, Cc dp f dp f 5 10 [] X JX (some (.int (nI k))) X' JX') ∧ Ca 5 295 [.ref 143, .int 0, .int 0] Y JY (some (.int (nI k))) Y' JY' ∧ RDS L p' X' JX' Y' JY' ∧ p ≤ p' ∧ FX X JX X' JX' ∧ YG Y JY Y' JY') ∨ ∃ X' Y', (∀ dp f, Cc dp f dp f 5 10 [] X JX (some (.int (-1))) X' JX) ∧ Ca 5 295 [.ref 143, .int 0, .int 0] Y JY (some (.int 0)) Y' JY ∧ BAD X' Y' ∧ FX X JX X' JX ∧ YG Y JY Y' JY := by
  have h6 := h.W.h6
  have hp := fun n m g d => d_placeHere (n := n) (m := m) (g := g) (I := X) (J := JX) (a := 16 + 1) (K := S) (by omega) (fun k hk => k_T1 t16 (show k < 6 by omega)) d
  rcases r_told (B := 0) (s := 0) (K := S) (a := 16 + 1) h.rs (by decide) (by decide) (by omega) h.yS h.ws with ⟨k, hk, _, hpk, tk⟩ | ⟨X', Y', hpk, tk, hB, fx, yg⟩
  · rw [hpk] at hp
    have tk' : Ca 4 294 [.ref 143, .int 0, .int 0] Y JY (some (.int (nI k))) Y JY := tk
    obtain ⟨X1, JX1, Y1, JY1, p1, a1, a2, a3, a4, _, a5, a6⟩ := r_adv h.rs
    have kmf : (nI k = -1) = False := eq_false (nI_m1 (by omega))
    refine .inl ⟨k, X1, JX1, Y1, JY1, p1, hk, fun dp f n m g d a ha => ?_, fun n m g d => v_readTold_t (K := 0) h.rs.bad tk' a2 d, a3, a4, a5, a6.yg⟩
    rw [m_X0_takeSurname]
    simp only [e_X0_takeSurname_0, e_X0_takeSurname_1, e_X0_takeSurname_4, e_X0_takeSurname_5, e_X0_takeSurname_8, e_X0_takeSurname_11, e_X0_takeSurname_12, e_X0_takeSurname_15, e_X0_takeSurname_18, e_X0_takeSurname_21, e_X0_takeSurname_22, e_X0_takeSurname_23, e_X0_takeSurname_24, e_X0_takeSurname_27, e_X0_takeSurname_28, e_X0_takeSurname_31, e_X0_takeSurname_34, e_X0_takeSurname_35, c_13, g_ct_0 ha, g_ct_1 ha, g_T0_6 t16, g_T0_3 t16, h.W.hS, hp, kmf, a1, Option.bind_some, Option.isSome_some, Option.toList, List.cons_append, List.nil_append, zclr_i, zclr_r, zclr_n, zfit_i, zfit_l, and_self, if_true, if_false]
  · rw [hpk] at hp
    have tk' : Ca 4 294 [.ref 143, .int 0, .int 0] Y JY (some (.int 0)) Y' JY := tk
    refine .inr ⟨X', Y', fun dp f n m g d a ha => ?_, fun n m g d => v_readTold_f hB tk' d, hB, fx, yg⟩
    rw [m_X0_takeSurname]
    simp only [e_X0_takeSurname_0, e_X0_takeSurname_1, e_X0_takeSurname_4, e_X0_takeSurname_5, e_X0_takeSurname_8, e_X0_takeSurname_11, e_X0_takeSurname_12, e_X0_takeSurname_15, e_X0_takeSurname_18, e_X0_takeSurname_21, e_X0_takeSurname_22, e_X0_takeSurname_23, e_X0_takeSurname_24, e_X0_takeSurname_27, e_X0_takeSurname_28, e_X0_takeSurname_31, e_X0_takeSurname_34, e_X0_takeSurname_35, c_13, g_ct_0 ha, g_ct_1 ha, g_T0_6 t16, g_T0_3 t16, h.W.hS, hp, Option.bind_some, Option.isSome_some, Option.toList, List.cons_append, List.nil_append, zclr_i, zclr_r, zclr_n, zfit_i, zfit_l, and_self, if_true, if_false]
/-! what stays: the lines below ln, the steps below st -/
def KP (ln st : Nat) (X : Nat → Nat → Int32) (c : Nat → Int32) (X' : Nat → Nat → Int32) (c' : Nat → Int32) : Prop := (∀ r l, 1 ≤ r → r ≤ 5 → l < ln → X' (56 + r) l = X (56 + r) l) ∧ ∀ j, 236 ≤ j → j < 236 + 9 * st → c' j = c j
theorem KP.rfl' {ln st : Nat} : KP ln st X c X c := ⟨fun _ _ _ _ _ => rfl, fun _ _ _ => rfl⟩
theorem KP.trans {c2 : Nat → Int32} {ln2 st2 : Nat} (h : KP ln st X c X' c') (h2 : KP ln2 st2 X' c' X2 c2) (h1 : ln ≤ ln2) (h3 : st ≤ st2) : KP ln st X c X2 c2 := ⟨fun r l a b d => (h2.1 r l a b (by omega)).trans (h.1 r l a b d), fun j a b => (h2.2 j a (by omega)).trans (h.2 j a b)⟩
theorem Sim.keep {b i : Nat} (h : Sim X 56 c N b i) (hk : KP ln st X c X' c') (hb : b < ln) (hi : i < st) : Sim X' 56 c' N b i := by
  unfold Sim
  rw [hk.1 1 b (by decide) (by decide) hb, hk.1 2 b (by decide) (by decide) hb, hk.1 3 b (by decide) (by decide) hb, hk.1 5 b (by decide) (by decide) hb, hk.2 _ (by omega) (by omega), hk.2 _ (by omega) (by omega), hk.2 _ (by omega) (by omega), hk.2 _ (by omega) (by omega)]
  exact h
theorem Hea.keep {b e i j : Nat} (h : Hea X 56 c N S b e i j) (hk : KP ln st X c X' c') (hb : b < ln) (he : e < ln) (hi : i < st) : Hea X' 56 c' N S b e i j := by
  unfold Hea
  rw [hk.1 1 b (by decide) (by decide) hb, hk.1 2 b (by decide) (by decide) hb, hk.1 3 b (by decide) (by decide) hb, hk.1 4 b (by decide) (by decide) hb, hk.1 5 b (by decide) (by decide) hb, hk.1 1 e (by decide) (by decide) he, hk.1 5 e (by decide) (by decide) he, hk.2 _ (by omega) (by omega), hk.2 _ (by omega) (by omega), hk.2 _ (by omega) (by omega), hk.2 _ (by omega) (by omega), hk.2 _ (by omega) (by omega), hk.2 _ (by omega) (by omega)]
  exact h
theorem Blk.keep (hk : KP ln st X c X' c') : ∀ F d b e i j, e ≤ ln → j ≤ st → Blk X 56 c N S F d b e i j → Blk X' 56 c' N S F d b e i j
  | 0, d, b, e, i, j, _, _, hb => hb
  | F + 1, d, b, e, i, j, he, hj, hb => by
    rcases hb with hb | ⟨h1, h2, h3, h4⟩ | ⟨d', h1, x, k, h2, h3, h4, h5, h6, h7, h8⟩
    · exact Or.inl hb
    · exact Or.inr (Or.inl ⟨h1, h2, h3.keep hk (by omega) (by omega), Blk.keep hk F d _ _ _ _ he hj h4⟩)
    · exact Or.inr (Or.inr ⟨d', h1, x, k, h2, h3, h4, h5, h6.keep hk (by omega) (by omega) (by omega), Blk.keep hk F d' _ _ _ _ (by omega) (by omega) h7, Blk.keep hk F d _ _ _ _ he hj h8⟩)
end CA
