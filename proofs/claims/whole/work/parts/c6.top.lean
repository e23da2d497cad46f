/-! READING CENTURIES: all of it -/
section CG
variable {n m : Nat} {g : Nat → zC} {I X Y X' Y' X1 Y1 X2 Y2 : Nat → Nat → Int32} {J JX JY JX' JY' JX1 JY1 JX2 JY2 : Nat → Nat → Int64} {L p p' p1 N S k k' st st' ln ln' dp q e a : Nat} {f f' c c' : Nat → Int32} {x y z v : Int32}
def TO (L N S k st ln : Nat) (f : Nat → Int32) (X : Nat → Nat → Int32) (JX : Nat → Nat → Int64) (Y : Nat → Nat → Int32) (JY : Nat → Nat → Int64) : Prop := ∃ X' JX' Y' JY', HX X JX X' JX' ∧ GY Y JY Y' JY' ∧ (∀ (n m : Nat) (g : Nat → zC) (d : Nat) (x1 x2 : Option Value), zexec (d + 26) 310 28 [some (.ref 143), x1, x2] [] (mk n m g Y JY) = zexec (d + 26) 310 50 [some (.ref 143), x1, x2] [] (mk n m g Y' JY')) ∧ ((BAD X' Y' ∧ HF k 0 f X JX X' JX') ∨ (∃ k' f' p' st' ln', HE k 0 f X JX k' 0 f' X' JX' ∧ X' 13 5 = 0 ∧ k' ≤ 300 ∧ CR L p' N S st' ln' 0 X' JX' Y' JY' ∧ st ≤ st' ∧ ln ≤ ln' ∧ KP ln st X (nb Y) X' (nb Y') ∧ ∀ F, ln' ≤ F + ln → Blk X' 56 (nb Y') N S F 3 ln ln' st st'))
theorem TO.end (h : CR L p N S st ln 0 X JX Y JY) (h5 : X 13 5 = 0) (hk : k ≤ 300) : TO L N S k st ln f X JX Y JY := by
  refine ⟨X, JX, Y, JY, HX.rfl', GY.rfl', fun n m g d x1 x2 => ?_, .inr ⟨k, f, p, st, ln, fun n m g d a x _ => ⟨x, rfl⟩, h5, hk, h, Nat.le_refl _, Nat.le_refl _, KP.rfl', fun F hF => ?_⟩⟩
  · have e : Y 143 14 = 0 := by rw [h.rs.end0]; exact h5
    simp only [e_X12_centuries_28, e_X12_centuries_29, e_X12_centuries_32, e_X12_centuries_35, e_X12_centuries_36, e_X12_centuries_39, e_X12_centuries_42, e_X12_centuries_43, e_X12_centuries_44, e_X12_centuries_47, g_143_12, g_143_14, h.rs.bad, e, Option.bind_some, Option.isSome_some, Option.toList, List.cons_append, List.nil_append, zclr_i, zclr_r, zclr_n, zfit_i, zfit_l, and_self, if_true, if_false]
  · cases F with
    | zero => exact ⟨rfl, rfl⟩
    | succ F => exact .inl ⟨rfl, rfl⟩
theorem top_loop (hL : L ≤ 300) : ∀ F k st ln f p X JX Y JY, L + 1 ≤ p + F → CR L p N S st ln 0 X JX Y JY → X 13 5 ≠ 0 → k + 1 ≤ p → TO L N S k st ln f X JX Y JY := by
  intro F
  induction F with
  | zero =>
    intro k st ln f p X JX Y JY hf h _ _
    have := h.rs.1.2.2.2.1
    omega
  | succ F ih =>
    intro k st ln f p X JX Y JY hf h h5 hkp
    have hpL := h.rs.1.2.2.2.1
    have e14 : (Y 143 14 = 0) = False := by rw [h.rs.end0]; exact eq_false h5
    obtain ⟨X1, JX1, Y1, JY1, hx1, gy1, r1, o1⟩ := (step_loop hL (F + 1)).1 k st ln 0 f p X JX Y JY hf h (by decide) h5 hkp (.inl rfl)
    have rl : ∀ (n m : Nat) (g : Nat → zC) (d : Nat) (x1 x2 : Option Value), zexec (d + 26) 310 28 [some (.ref 143), x1, x2] [] (mk n m g Y JY) = zexec (d + 26) 310 28 [some (.ref 143), x1, x2] [] (mk n m g Y1 JY1) := fun n m g d x1 x2 => by
      have r1' : zcall (d + 25) 309 [.ref 143, .int 0] (mk n m g Y JY) = some (none, mk n m g Y1 JY1) := r1 n m g (d + 25) (by omega)
      rw [e_X12_centuries_28]
      simp only [e_X12_centuries_29, e_X12_centuries_32, e_X12_centuries_35, e_X12_centuries_36, e_X12_centuries_39, e_X12_centuries_42, e_X12_centuries_43, e_X12_centuries_44, e_X12_centuries_47, c_143, g_143_12, g_143_14, h.rs.bad, e14, r1', Option.bind_some, Option.isSome_some, Option.toList, List.cons_append, List.nil_append, zclr_i, zclr_r, zclr_n, zfit_i, zfit_l, and_self, if_true, if_false]
    rcases o1 with ⟨hB, hF⟩ | ⟨k2, f2, p2, st2, ln2, e2, ff, h2, hp2, hn2, hk2, hs2, hl2, kp2, it⟩
    · refine ⟨X1, JX1, Y1, JY1, hx1, gy1, fun n m g d x1 x2 => ?_, .inl ⟨hB, hF⟩⟩
      rw [rl n m g d x1 x2]
      simp only [e_X12_centuries_28, e_X12_centuries_29, e_X12_centuries_32, e_X12_centuries_35, e_X12_centuries_36, e_X12_centuries_39, e_X12_centuries_42, e_X12_centuries_43, e_X12_centuries_44, e_X12_centuries_47, g_143_12, hB.ne, Option.bind_some, Option.isSome_some, Option.toList, List.cons_append, List.nil_append, zclr_i, zclr_r, zclr_n, zfit_i, zfit_l, and_self, if_true, if_false]
    · have ht : TO L N S k2 st2 ln2 f2 X1 JX1 Y1 JY1 := by
        have := h2.rs.1.2.2.2.1
        by_cases c0 : X1 13 5 = 0
        · exact TO.end h2 c0 (by omega)
        · have := hn2 c0
          exact ih k2 st2 ln2 f2 p2 X1 JX1 Y1 JY1 (by omega) h2 c0 (by omega)
      obtain ⟨X3, JX3, Y3, JY3, hx3, gy3, r3, o3⟩ := ht
      refine ⟨X3, JX3, Y3, JY3, hx1.trans hx3, gy1.trans gy3, fun n m g d x1 x2 => (rl n m g d x1 x2).trans (r3 n m g d x1 x2), ?_⟩
      rcases o3 with ⟨hB, hF⟩ | ⟨k3, f3, p3, st3, ln3, e3, h53, hk3, h3, hs3, hl3, kp3, bl⟩
      · exact .inl ⟨hB, e2.fail hF⟩
      · refine .inr ⟨k3, f3, p3, st3, ln3, e2.trans e3, h53, hk3, h3, by omega, by omega, kp2.trans kp3 (by omega) (by omega), fun F' hF' => ?_⟩
        obtain ⟨F', rfl⟩ : ∃ F2, F' = F2 + 1 := ⟨F' - 1, by omega⟩
        exact (it.keep kp3).cons (by decide) (by omega) (bl F' (by omega))
theorem mk_newi (hn : 158 ≤ n) : znewi (mk n m g I J) .int k = mk (n + 1) (m + k) (zup g n (.inl (.int, k, .inl (fun _ => 0)))) I J := by
  unfold znewi
  show ((mk n m g I J).1 + 1, (mk n m g I J).2.1 + k, zup (mk n m g I J).2.2 (mk n m g I J).1 (.inl (.int, k, .inl (fun _ => 0)))) = _
  unfold mk
  refine Prod.ext rfl (Prod.ext rfl (funext fun b => ?_))
  show (if b = n then _ else if b < 3 then g b else if b < 158 then sh b (I b) (J b) else g b) = if b < 3 then (if b = n then _ else g b) else if b < 158 then sh b (I b) (J b) else (if b = n then _ else g b)
  by_cases h : b = n
  · subst h
    rw [if_pos rfl, if_neg (by omega), if_neg (by omega), if_pos rfl]
  · rw [if_neg h, if_neg h]
theorem zdef_0 : zdef 0 = [.null, .null, .null, .null, .int 0] := by decide +kernel
theorem zfN_0 : zfN 0 = 5 := by decide +kernel
theorem ct_init (hn : 158 ≤ a) (d : Nat) : zcall d 0 [.ref a, .ref 13, .ref 16, .ref 56] (mk (a + 1) (m + 5) (zup g a (.inr (0, zdef 0))) I J) = some (none, mk (a + 2) (m + 8) (GC g a 0 (fun _ => 0)) I J) := by
  have h1 : zup (zup g a (.inr (0, [.null, .null, .null, .null, .int 0]))) (a + 1) (.inl (.int, 3, .inl (fun _ => 0))) a = .inr (0, [.null, .null, .null, .null, .int 0]) := by simp [zup]
  have h2 : zup (zup (zup g a (.inr (0, [.null, .null, .null, .null, .int 0]))) (a + 1) (.inl (.int, 3, .inl (fun _ => 0)))) a (.inr (0, [.null, .null, .null, .ref (a + 1), .int 0])) a = .inr (0, [.null, .null, .null, .ref (a + 1), .int 0]) := zup_at
  have h3 : zup (zup (zup g a (.inr (0, [.null, .null, .null, .null, .int 0]))) (a + 1) (.inl (.int, 3, .inl (fun _ => 0)))) a (.inr (0, [.ref 13, .null, .null, .ref (a + 1), .int 0])) a = .inr (0, [.ref 13, .null, .null, .ref (a + 1), .int 0]) := zup_at
  have h4 : zup (zup (zup g a (.inr (0, [.null, .null, .null, .null, .int 0]))) (a + 1) (.inl (.int, 3, .inl (fun _ => 0)))) a (.inr (0, [.ref 13, .ref 16, .null, .ref (a + 1), .int 0])) a = .inr (0, [.ref 13, .ref 16, .null, .ref (a + 1), .int 0]) := zup_at
  rw [zdef_0, m_X0_init]
  simp only [e_X0_init_0, e_X0_init_1, e_X0_init_4, e_X0_init_5, e_X0_init_6, e_X0_init_8, e_X0_init_11, e_X0_init_12, e_X0_init_13, e_X0_init_16, e_X0_init_17, e_X0_init_18, e_X0_init_21, e_X0_init_22, e_X0_init_23, e_X0_init_26, show zsz 3 = true by decide, show (3 : Int32).toNatClampNeg = 3 by decide, mk_newi (show 158 ≤ a + 1 by omega), mk_1, zgf_out hn h1, zpf_out hn h1, List.set, zup_zup, zgf_out hn h2, zpf_out hn h2, zgf_out hn h3, zpf_out hn h3, zgf_out hn h4, zpf_out hn h4, show ∀ (a b c d e : Value), ([a, b, c, d, e] : List Value)[0]? = some a from fun _ _ _ _ _ => rfl, show ∀ (a b c d e : Value), ([a, b, c, d, e] : List Value)[1]? = some b from fun _ _ _ _ _ => rfl, show ∀ (a b c d e : Value), ([a, b, c, d, e] : List Value)[2]? = some c from fun _ _ _ _ _ => rfl, show ∀ (a b c d e : Value), ([a, b, c, d, e] : List Value)[3]? = some d from fun _ _ _ _ _ => rfl, show ∀ x, zfit (zfT 0 3) (.ref x) = true from fun _ => rfl, show ∀ x, zfit (zfT 0 0) (.ref x) = true from fun _ => rfl, show ∀ x, zfit (zfT 0 1) (.ref x) = true from fun _ => rfl, show ∀ x, zfit (zfT 0 2) (.ref x) = true from fun _ => rfl, Option.bind_some, Option.isSome_some, Option.toList, List.cons_append, List.nil_append, zclr_i, zclr_r, zclr_n, zfit_i, zfit_l, and_self, if_true, if_false]
  refine congrArg (fun M => some (none, M)) ?_
  refine mk_g (fun b _ => ?_)
  unfold GC zup ctc cto
  by_cases c1 : b = a
  · rw [if_pos c1, if_neg (by omega), if_pos c1]
    rfl
  · rw [if_neg c1]
    by_cases c2 : b = a + 1
    · rw [if_pos c2, if_pos c2]
    · rw [if_neg c2, if_neg c1, if_neg c2, if_neg c1]
def clS (X : Nat → Nat → Int32) : Nat → Nat → Int32 := zu (zu (zu X 56 0 0) 56 1 0) 56 2 0
theorem clS_far {b : Nat} (h : b ≠ 56) : clS X b = X b := by
  unfold clS
  rw [zu_far _ _ _ h, zu_far _ _ _ h, zu_far _ _ _ h]
theorem cent_core {Y0 : Nat → Nat → Int32} {JY0 : Nat → Nat → Int64} (hL : L ≤ 300) (hW : WT I 16 N S 2999) (hj : JW J 16 (J 151) N S) (ht : ∀ k, k < 900 → I 12 k = Y0 147 k ∧ isB (I 12 k)) (hr : ∀ k, k < 27 → J 14 k = (resL[k]?).getD 0) (y0 : Y0 148 0 = nI S) (y1 : Y0 148 1 = nI N) (jy : JY0 151 = J 151) : ∃ X1 JX1 Y1 JY1, Ca 1 45 [.ref 13] (bgX L I) J none X1 JX1 ∧ Ca 1 257 [.ref 143] (bgY L Y0) JY0 none Y1 JY1 ∧ FX (bgX L I) J X1 JX1 ∧ YA (bgY L Y0) JY0 Y1 JY1 ∧ TO L N S 0 0 0 (fun _ => 0) (clS (zu X1 3 5 0)) JX1 (zu Y1 143 26 0) JY1 := by
  obtain ⟨X1, JX1, Y1, JY1, p1, a1, a2, a3, _, a4, a5, a6⟩ := r_begin (JY0 := JY0) (show L ≤ 900 by omega) ht hr
  have bX : ∀ b, b ≠ 13 → bgX L I b = I b := fun b hb => by
    unfold bgX
    rw [zu_far _ _ _ hb, zu_far _ _ _ hb, zu_far _ _ _ hb, zu_far _ _ _ hb, zu_far _ _ _ hb]
  have bY : ∀ b, b ≠ 143 → bgY L Y0 b = Y0 b := fun b hb => by
    unfold bgY
    rw [zu_far _ _ _ hb, zu_far _ _ _ hb, zu_far _ _ _ hb, zu_far _ _ _ hb]
  have r2 : RDS L p1 (clS (zu X1 3 5 0)) JX1 (zu Y1 143 26 0) JY1 := RDS.f (a3.same (by rw [clS_far (by decide), zu_far _ _ _ (by decide)]) (by rw [clS_far (by decide), zu_far _ _ _ (by decide)]) rfl rfl (fun _ _ _ => rfl) rfl rfl) (by decide)
  have c0 : ∀ k, clS (zu X1 3 5 0) 56 k = if k = 2 then 0 else if k = 1 then 0 else if k = 0 then 0 else zu X1 3 5 0 56 k := fun k => by
    unfold clS
    rw [zu_row, zu_row, zu_row]
  have h : CR L p1 N S 0 0 0 (clS (zu X1 3 5 0)) JX1 (zu Y1 143 26 0) JY1 := by
    refine ⟨r2, hW.far (fun i hi => ?_), ?_, ⟨?_, ?_⟩, ⟨?_, ?_, ?_⟩, by decide, by decide⟩
    · rw [clS_far (by omega), zu_far _ _ _ (by omega), a5.1 _ (by omega), bX _ (by omega)]
    · unfold JW
      rw [a5.2 (16 + 1) (by decide), a5.2 (16 + 4) (by decide), a6.2.2.1 151 (by decide), jy]
      exact hj
    · rw [zu_far _ _ _ (by decide), a6.1 148 (by decide), bY _ (by decide)]; exact y0
    · rw [zu_far _ _ _ (by decide), a6.1 148 (by decide), bY _ (by decide)]; exact y1
    · rw [c0]; rfl
    · rw [c0]; rfl
    · rw [zu_row, if_pos rfl]; rfl
  have e13 : clS (zu X1 3 5 0) 13 = X1 13 := by rw [clS_far (by decide), zu_far _ _ _ (by decide)]
  refine ⟨X1, JX1, Y1, JY1, a1, a2, a5, a6, ?_⟩
  by_cases c : X1 13 5 = 0
  · exact TO.end h (by rw [e13]; exact c) (by decide)
  · have := a4 c
    exact top_loop hL (L + 1) 0 0 0 _ p1 _ _ _ _ (by omega) h (by rw [e13]; exact c) (by omega)
end CG
