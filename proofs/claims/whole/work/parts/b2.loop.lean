/-! READING A TOWN: all its parts -/
section TK2
variable {n m : Nat} {g : Nat → zC} {X Y : Nat → Nat → Int32} {JX JY : Nat → Nat → Int64} {L p N S : Nat} {t x : Int32} {X' Y' : Nat → Nat → Int32} {JX' JY' : Nat → Nat → Int64}
theorem zup_zup {a : Nat} {x y : zC} : zup (zup g a x) a y = zup g a y := by
  funext b
  unfold zup
  by_cases h : b = a
  · rw [if_pos h, if_pos h]
  · rw [if_neg h, if_neg h, if_neg h]
theorem d_stop_no (h : ¬ (X 13 5 = 4 ∧ X 13 7 = 59)) (d : Nat) : zcall (d + 1) 56 [.ref 13] (mk n m g X JX) = some (some (.int 0), mk n m g (dHere X) JX) := by
  rw [m_X4_takeStop]
  by_cases h5 : X 13 5 = 4
  · have h7 : ¬ X 13 7 = 59 := fun q => h ⟨h5, q⟩
    simp only [e_X4_takeStop_0, e_X4_takeStop_1, e_X4_takeStop_4, e_X4_takeStop_5, e_X4_takeStop_8, e_X4_takeStop_9, e_X4_takeStop_12, e_X4_takeStop_14, e_X4_takeStop_17, e_X4_takeStop_18, e_X4_takeStop_21, e_X4_takeStop_22, e_X4_takeStop_23, e_X4_takeStop_26, e_X4_takeStop_27, c_13, g_13_5, g_13_7, h5, h7, d_failHere, zfit_b0, Option.bind_some, Option.isSome_some, Option.toList, List.cons_append, List.nil_append, zclr_i, zclr_r, zclr_n, zfit_i, zfit_l, and_self, if_true, if_false]
  · simp only [e_X4_takeStop_0, e_X4_takeStop_1, e_X4_takeStop_4, e_X4_takeStop_5, e_X4_takeStop_8, e_X4_takeStop_9, e_X4_takeStop_12, e_X4_takeStop_14, e_X4_takeStop_17, e_X4_takeStop_18, e_X4_takeStop_21, e_X4_takeStop_22, e_X4_takeStop_23, e_X4_takeStop_26, e_X4_takeStop_27, c_13, g_13_5, g_13_7, h5, d_failHere, zfit_b0, Option.bind_some, Option.isSome_some, Option.toList, List.cons_append, List.nil_append, zclr_i, zclr_r, zclr_n, zfit_i, zfit_l, and_self, if_true, if_false]
theorem d_stop_yes (h : X 13 5 = 4 ∧ X 13 7 = 59) (hA : Ca 1 45 [.ref 13] X JX none X' JX') (d : Nat) : zcall (d + 2) 56 [.ref 13] (mk n m g X JX) = some (some (.int 1), mk n m g X' JX') := by
  rw [m_X4_takeStop]
  simp only [e_X4_takeStop_0, e_X4_takeStop_1, e_X4_takeStop_4, e_X4_takeStop_5, e_X4_takeStop_8, e_X4_takeStop_9, e_X4_takeStop_12, e_X4_takeStop_14, e_X4_takeStop_17, e_X4_takeStop_18, e_X4_takeStop_21, e_X4_takeStop_22, e_X4_takeStop_23, e_X4_takeStop_26, e_X4_takeStop_27, c_13, g_13_5, g_13_7, h.1, h.2, hA, zfit_b1, Option.bind_some, Option.isSome_some, Option.toList, List.cons_append, List.nil_append, zclr_i, zclr_r, zclr_n, zfit_i, zfit_l, and_self, if_true, if_false]
def TLc (t t' : Int32) (k : Nat) (X : Nat → Nat → Int32) (JX : Nat → Nat → Int64) (v : Int32) (X' : Nat → Nat → Int32) (JX' : Nat → Nat → Int64) : Prop := ∀ (n m : Nat) (g : Nat → zC) (d a : Nat), 158 ≤ a → g a = tto t → zexec (d + 25) 121 9 [some (.ref a), some (.int (nI k))] [] (mk n m g X JX) = some (some (.int v), mk n m (zup g a (tto t')) X' JX')
def TLr (Y : Nat → Nat → Int32) (JY : Nat → Nat → Int64) (Y' : Nat → Nat → Int32) (JY' : Nat → Nat → Int64) : Prop := ∀ (n m : Nat) (g : Nat → zC) (d : Nat) (x : Option Value), zexec (d + 25) 306 33 [some (.ref 143), x] [] (mk n m g Y JY) = zexec (d + 25) 306 64 [some (.ref 143), x] [] (mk n m g Y' JY')
def TL (L k : Nat) (t : Int32) (X : Nat → Nat → Int32) (JX : Nat → Nat → Int64) (Y : Nat → Nat → Int32) (JY : Nat → Nat → Int64) : Prop := ∃ t' X' JX' Y' JY', ((TLc t t' k X JX 0 X' JX' ∧ BAD X' Y') ∨ (TLc t t' k X JX 1 X' JX' ∧ ∃ p' N' S', TS L p' t' N' S' X' JX' Y' JY')) ∧ TLr Y JY Y' JY' ∧ GX X JX X' JX' ∧ GY Y JY Y' JY'
theorem k900 {k : Nat} (h : k ≤ 900) : ((900 : Int32) < nI k) = False := eq_false (Int32.not_lt.mpr (nI_le (b := 900) h (by decide)))
theorem TL.end {k : Nat} (hk : k ≤ 900) (h : TS L p t N S X JX Y JY) (h5 : X 13 5 = 0) : TL L k t X JX Y JY := by
  refine ⟨t, X, JX, Y, JY, .inr ⟨fun n m g d a ha hg => ?_, p, N, S, h⟩, fun n m g d x => ?_, GX.rfl', GY.rfl'⟩
  · rw [zup_self hg]
    simp only [e_X8_readAll_9, e_X8_readAll_10, e_X8_readAll_13, e_X8_readAll_16, e_X8_readAll_17, e_X8_readAll_20, e_X8_readAll_23, e_X8_readAll_26, e_X8_readAll_27, e_X8_readAll_30, e_X8_readAll_33, e_X8_readAll_34, e_X8_readAll_37, e_X8_readAll_40, e_X8_readAll_43, e_X8_readAll_44, e_X8_readAll_45, e_X8_readAll_48, e_X8_readAll_51, e_X8_readAll_52, c_13, g_tt_0 ha hg, k900 hk, d_atEnd, h5, decide_true, bI, if_true, show ((1 : Int32) = 0) = False by decide, zfit_b1, Option.bind_some, Option.isSome_some, Option.toList, List.cons_append, List.nil_append, zclr_i, zclr_r, zclr_n, zfit_i, zfit_l, and_self, if_true, if_false]
  · have e : Y 143 14 = 0 := by rw [h.rs.end0]; exact h5
    simp only [e_X12_town_33, e_X12_town_34, e_X12_town_37, e_X12_town_40, e_X12_town_41, e_X12_town_44, e_X12_town_47, e_X12_town_48, e_X12_town_51, e_X12_town_52, e_X12_town_53, e_X12_town_55, e_X12_town_58, e_X12_town_61, g_143_12, g_143_14, h.rs.bad, e, Option.bind_some, Option.isSome_some, Option.toList, List.cons_append, List.nil_append, zclr_i, zclr_r, zclr_n, zfit_i, zfit_l, and_self, if_true, if_false]
theorem town_bad {x : Option Value} (hB : BAD X Y) (d : Nat) : zexec (d + 25) 306 33 [some (.ref 143), x] [] (mk n m g Y JY) = zexec (d + 25) 306 64 [some (.ref 143), x] [] (mk n m g Y JY) := by
  simp only [e_X12_town_33, e_X12_town_34, e_X12_town_37, e_X12_town_40, e_X12_town_41, e_X12_town_44, e_X12_town_47, e_X12_town_48, e_X12_town_51, e_X12_town_52, e_X12_town_53, e_X12_town_55, e_X12_town_58, e_X12_town_61, g_143_12, hB.ne, Option.bind_some, Option.isSome_some, Option.toList, List.cons_append, List.nil_append, zclr_i, zclr_r, zclr_n, zfit_i, zfit_l, and_self, if_true, if_false]
set_option maxHeartbeats 4000000 in
theorem town_loop (hL : L ≤ 900) : ∀ f k p t N S X JX Y JY, L + 1 ≤ p + f → k + 1 ≤ p → X 13 5 ≠ 0 → TS L p t N S X JX Y JY → TL L k t X JX Y JY := by
  intro f
  induction f with
  | zero =>
    intro k p t N S X JX Y JY hf hk h5 h
    have := h.rs.1.2.2.2.1
    omega
  | succ f ih =>
    intro k p t N S X JX Y JY hf hk h5 h
    have hpL := h.rs.1.2.2.2.1
    have hk9 : k ≤ 900 := by omega
    have e14 : (Y 143 14 = 0) = False := by rw [h.rs.end0]; exact eq_false h5
    obtain ⟨t1, X1, JX1, Y1, JY1, o1, o2, o3, o4⟩ := r_part h
    rcases o1 with ⟨c1, hB⟩ | ⟨c1, p1, N1, S1, hp1, h1⟩ | ⟨c1, c5, hB⟩
    · refine ⟨t1, X1, JX1, Y1, JY1, .inl ⟨fun n m g d a ha hg => ?_, hB⟩, fun n m g d x => ?_, o3, o4⟩
      · simp only [e_X8_readAll_9, e_X8_readAll_10, e_X8_readAll_13, e_X8_readAll_16, e_X8_readAll_17, e_X8_readAll_20, e_X8_readAll_23, e_X8_readAll_26, e_X8_readAll_27, e_X8_readAll_30, e_X8_readAll_33, e_X8_readAll_34, e_X8_readAll_37, e_X8_readAll_40, e_X8_readAll_43, e_X8_readAll_44, e_X8_readAll_45, e_X8_readAll_48, e_X8_readAll_51, e_X8_readAll_52, c_13, c_tt ha hg, g_tt_0 ha hg, k900 hk9, d_atEnd, h5, decide_false, bI, Bool.false_eq_true, c1 _ _ _ _ _ ha hg, zfit_b0, Option.bind_some, Option.isSome_some, Option.toList, List.cons_append, List.nil_append, zclr_i, zclr_r, zclr_n, zfit_i, zfit_l, and_self, if_true, if_false]
      · rw [e_X12_town_33]
        simp only [e_X12_town_34, e_X12_town_37, e_X12_town_40, e_X12_town_41, e_X12_town_44, e_X12_town_47, e_X12_town_48, e_X12_town_51, e_X12_town_52, e_X12_town_53, e_X12_town_55, e_X12_town_58, e_X12_town_61, c_143, g_143_12, g_143_14, h.rs.bad, e14, o2, v_isSign, v_must_b hB, Option.bind_some, Option.isSome_some, Option.toList, List.cons_append, List.nil_append, zclr_i, zclr_r, zclr_n, zfit_i, zfit_l, and_self, if_true, if_false]
        exact town_bad hB d
    · by_cases cs : X1 13 5 = 4 ∧ X1 13 7 = 59
      · obtain ⟨X2, JX2, Y2, JY2, p2, b1, b2, b3, b4, b45, b5, b6⟩ := r_adv h1.rs
        have h2 := h1.move b3 b5 b6.yg
        have hstep : TL L (k + 1) t1 X2 JX2 Y2 JY2 := by
          by_cases c0 : X2 13 5 = 0
          · exact TL.end (by omega) h2 c0
          · have := b45 c0
            exact ih (k + 1) p2 t1 N1 S1 X2 JX2 Y2 JY2 (by omega) (by omega) c0 h2
        obtain ⟨t3, X3, JX3, Y3, JY3, q1, q2, q3, q4⟩ := hstep
        have hcl : ∀ v, TLc t1 t3 (k + 1) X2 JX2 v X3 JX3 → TLc t t3 k X JX v X3 JX3 := fun v hv n m g d a ha hg => by
          have hg2 : zup g a (tto t1) a = tto t1 := zup_at
          have hv' := hv n m (zup g a (tto t1)) d a ha hg2
          rw [zup_zup] at hv'
          rw [e_X8_readAll_9]
          simp only [e_X8_readAll_10, e_X8_readAll_13, e_X8_readAll_16, e_X8_readAll_17, e_X8_readAll_20, e_X8_readAll_23, e_X8_readAll_26, e_X8_readAll_27, e_X8_readAll_30, e_X8_readAll_33, e_X8_readAll_34, e_X8_readAll_37, e_X8_readAll_40, e_X8_readAll_43, e_X8_readAll_44, e_X8_readAll_45, e_X8_readAll_48, e_X8_readAll_51, e_X8_readAll_52, c_13, c_tt ha hg, g_tt_0 ha hg, k900 hk9, d_atEnd, h5, decide_false, bI, Bool.false_eq_true, c1 _ _ _ _ _ ha hg, g_tt_0 ha hg2, d_stop_yes cs b1, show ((1 : Int32) = 0) = False by decide, nI_1, Option.bind_some, Option.isSome_some, Option.toList, List.cons_append, List.nil_append, zclr_i, zclr_r, zclr_n, zfit_i, zfit_l, and_self, if_true, if_false]
          exact hv'
        have hrl : TLr Y JY Y3 JY3 := fun n m g d x => by
          rw [e_X12_town_33]
          simp only [e_X12_town_34, e_X12_town_37, e_X12_town_40, e_X12_town_41, e_X12_town_44, e_X12_town_47, e_X12_town_48, e_X12_town_51, e_X12_town_52, e_X12_town_53, e_X12_town_55, e_X12_town_58, e_X12_town_61, c_143, g_143_12, g_143_14, h.rs.bad, e14, o2, v_isSign, h1.rs.sign, decide_eq_true cs, bI, if_true, v_must_t h1.rs.bad b2, Option.bind_some, Option.isSome_some, Option.toList, List.cons_append, List.nil_append, zclr_i, zclr_r, zclr_n, zfit_i, zfit_l, and_self, if_true, if_false]
          exact q2 n m g d x
        refine ⟨t3, X3, JX3, Y3, JY3, ?_, hrl, (o3.trans b5.gx).trans q3, (o4.trans b6.yg.gy).trans q4⟩
        rcases q1 with ⟨r1, r2⟩ | ⟨r1, r2⟩
        · exact .inl ⟨hcl 0 r1, r2⟩
        · exact .inr ⟨hcl 1 r1, r2⟩
      · have hB := h1.rs.here
        refine ⟨t1, dHere X1, JX1, vFail (kH X1) (X1 13 4) Y1, JY1, .inl ⟨fun n m g d a ha hg => ?_, hB⟩, fun n m g d x => ?_, o3.trans FX.here.gx, o4.trans (YG.fail _ _).gy⟩
        · have hg2 : zup g a (tto t1) a = tto t1 := zup_at
          simp only [e_X8_readAll_9, e_X8_readAll_10, e_X8_readAll_13, e_X8_readAll_16, e_X8_readAll_17, e_X8_readAll_20, e_X8_readAll_23, e_X8_readAll_26, e_X8_readAll_27, e_X8_readAll_30, e_X8_readAll_33, e_X8_readAll_34, e_X8_readAll_37, e_X8_readAll_40, e_X8_readAll_43, e_X8_readAll_44, e_X8_readAll_45, e_X8_readAll_48, e_X8_readAll_51, e_X8_readAll_52, c_13, c_tt ha hg, g_tt_0 ha hg, k900 hk9, d_atEnd, h5, decide_false, bI, Bool.false_eq_true, c1 _ _ _ _ _ ha hg, g_tt_0 ha hg2, d_stop_no cs, show ((1 : Int32) = 0) = False by decide, zfit_b0, Option.bind_some, Option.isSome_some, Option.toList, List.cons_append, List.nil_append, zclr_i, zclr_r, zclr_n, zfit_i, zfit_l, and_self, if_true, if_false]
        · rw [e_X12_town_33]
          simp only [e_X12_town_34, e_X12_town_37, e_X12_town_40, e_X12_town_41, e_X12_town_44, e_X12_town_47, e_X12_town_48, e_X12_town_51, e_X12_town_52, e_X12_town_53, e_X12_town_55, e_X12_town_58, e_X12_town_61, c_143, g_143_12, g_143_14, h.rs.bad, e14, o2, v_isSign, h1.rs.sign, decide_eq_false cs, bI, Bool.false_eq_true, v_must_f h1.rs, Option.bind_some, Option.isSome_some, Option.toList, List.cons_append, List.nil_append, zclr_i, zclr_r, zclr_n, zfit_i, zfit_l, and_self, if_true, if_false]
          exact town_bad hB d
    · have cs : ¬ (X1 13 5 = 4 ∧ X1 13 7 = 59) := fun q => c5 q.1
      refine ⟨t1, dHere X1, JX1, Y1, JY1, .inl ⟨fun n m g d a ha hg => ?_, hB⟩, fun n m g d x => ?_, o3.trans FX.here.gx, o4⟩
      · have hg2 : zup g a (tto t1) a = tto t1 := zup_at
        simp only [e_X8_readAll_9, e_X8_readAll_10, e_X8_readAll_13, e_X8_readAll_16, e_X8_readAll_17, e_X8_readAll_20, e_X8_readAll_23, e_X8_readAll_26, e_X8_readAll_27, e_X8_readAll_30, e_X8_readAll_33, e_X8_readAll_34, e_X8_readAll_37, e_X8_readAll_40, e_X8_readAll_43, e_X8_readAll_44, e_X8_readAll_45, e_X8_readAll_48, e_X8_readAll_51, e_X8_readAll_52, c_13, c_tt ha hg, g_tt_0 ha hg, k900 hk9, d_atEnd, h5, decide_false, bI, Bool.false_eq_true, c1 _ _ _ _ _ ha hg, g_tt_0 ha hg2, d_stop_no cs, show ((1 : Int32) = 0) = False by decide, zfit_b0, Option.bind_some, Option.isSome_some, Option.toList, List.cons_append, List.nil_append, zclr_i, zclr_r, zclr_n, zfit_i, zfit_l, and_self, if_true, if_false]
      · rw [e_X12_town_33]
        simp only [e_X12_town_34, e_X12_town_37, e_X12_town_40, e_X12_town_41, e_X12_town_44, e_X12_town_47, e_X12_town_48, e_X12_town_51, e_X12_town_52, e_X12_town_53, e_X12_town_55, e_X12_town_58, e_X12_town_61, c_143, g_143_12, g_143_14, h.rs.bad, e14, o2, v_isSign, v_must_b hB, Option.bind_some, Option.isSome_some, Option.toList, List.cons_append, List.nil_append, zclr_i, zclr_r, zclr_n, zfit_i, zfit_l, and_self, if_true, if_false]
        exact town_bad hB d
end TK2
