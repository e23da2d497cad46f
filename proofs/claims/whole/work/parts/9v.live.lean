/-! LIVE -/
section LV
variable {n m : Nat} {g : Nat → zC} {I I2 X X' Y Y' : Nat → Nat → Int32} {J J2 JY : Nat → Nat → Int64} {N N' S l t s L K sd : Nat} {c0 : Nat → Int32}
/-- the life's row as a run begins -/
def lf0 (l : Nat) (v : Int32) (X : Nat → Nat → Int32) : Nat → Nat → Int32 := zu (zu (zu (zu (zu (zu (zu (zu X l 0 0) l 1 0) l 2 0) l 3 0) l 4 0) l 5 0) l 6 1) l 7 v
theorem lf0_far {v : Int32} {a : Nat} (h : a ≠ l) : lf0 l v X a = X a := by
  unfold lf0
  rw [zu_far _ _ _ h, zu_far _ _ _ h, zu_far _ _ _ h, zu_far _ _ _ h, zu_far _ _ _ h, zu_far _ _ _ h, zu_far _ _ _ h, zu_far _ _ _ h]
theorem lf0_at {v : Int32} {k : Nat} : lf0 l v X l k = if k = 7 then v else if k = 6 then 1 else if k < 6 then 0 else X l k := by
  unfold lf0
  simp only [zu_row]
  by_cases h7 : k = 7
  · simp [h7]
  · by_cases h6 : k = 6
    · simp [h6]
    · by_cases h : k < 6
      · have : k = 0 ∨ k = 1 ∨ k = 2 ∨ k = 3 ∨ k = 4 ∨ k = 5 := by omega
        rcases this with rfl | rfl | rfl | rfl | rfl | rfl <;> simp
      · rw [if_neg h7, if_neg h6, if_neg (by omega), if_neg (by omega), if_neg (by omega), if_neg (by omega), if_neg (by omega), if_neg (by omega), if_neg h7, if_neg h6, if_neg h]
/-- the reference's counts as a run begins -/
def rf0 (v : Int32) (Y : Nat → Nat → Int32) : Nat → Nat → Int32 := zu (zu (zu (zu (zu (zu (zu (zu Y 143 36 v) 143 37 0) 143 38 0) 143 39 0) 143 40 0) 143 41 0) 143 42 0) 143 35 0
theorem rf0_YF {v : Int32} : YF Y (rf0 v Y) := by
  unfold rf0
  exact (((((((YF.rfl'.wr (by decide) (by decide)).wr (by decide) (by decide)).wr (by decide) (by decide)).wr (by decide) (by decide)).wr (by decide) (by decide)).wr (by decide) (by decide)).wr (by decide) (by decide)).wr (by decide) (by decide)
theorem life_run (hS : Scr X l t s L) (hW : WT X t N S 2999) (hB : Blk X s c0 N S 60 3 0 L 0 K) (hK : K ≤ 30) (hsd : sd < 65536) (d : Nat) : ∃ X' N', N ≤ N' ∧ WT X' t N' S 2999 ∧ XF l t X X' ∧ X' l 6 = 1 ∧ (X' l 5 = 0 ∨ X' l 5 = 1) ∧ (∀ J, zcall (d + 6) 24 [.ref l, .ref s, .ref t, .int (nI sd)] (mk n m g X J) = some (none, mk n m g X' (jb J t N N'))) ∧ ∀ D Y JY, RT X t (Y 148) N S → (∀ k, 234 ≤ k → Y 148 k = c0 k) → c0 235 = nI K → ∃ Y', zcall (D + 17) 403 [.ref 143, .int (nI sd)] (mk n m g Y JY) = some (none, mk n m g Y' (jy JY N N')) ∧ LR c0 l t N' S X' Y' ∧ YF Y Y' := by
  have hS0 := hS
  obtain ⟨hsc, hl, ht, h60, hL⟩ := hS
  have hxf : XF l t X (lf0 l (nI sd) X) := fun a _ h2 _ => lf0_far h2
  have hW0 : WT (lf0 l (nI sd) X) t N S 2999 := hW.far (fun i hi => lf0_far (life_town hl ht hi).1)
  have hC : CW X l t s 0 N S (lf0 l (nI sd) X) := ⟨hW0, fun r hr => lf0_far (scr_off hsc hl ht hr).1, by rw [lf0_at]; rfl, by decide, sd, hsd, by rw [lf0_at]; rfl⟩
  obtain ⟨over, X', N', q', k', ⟨r1, r2, r3, r4, r5, r6, r7, r8, r9⟩, p1, p2⟩ := run_blk (n := n) (m := m) (g := g) (x := nI sd) (d := d) hS0 60 3 0 L 0 K hB (by decide) (Nat.le_refl L) hK 0 N 0 (lf0 l (nI sd) X) hC (Nat.le_refl N) (by decide)
  have hq' := r4.2.2.2.1
  refine ⟨X', N', r1, r4.1, hxf.trans r5, by rw [r6, lf0_at]; rfl, ?_, fun J => ?_, fun D Y JY hR hc hK2 => ?_⟩
  · rcases r7 with h | h
    · exact .inl (by rw [h, lf0_at]; rfl)
    · exact .inr h
  · obtain ⟨y', e1⟩ := r9 J none
    have hst : zcall (d + 6) 24 [.ref l, .ref s, .ref t, .int (nI sd)] (mk n m g X J) = hdX n m g l s t (nI sd) d 0 0 none (lf0 l (nI sd) X) J := by
      rw [m_X2_run]
      simp only [e_X2_run_0, e_X2_run_1, e_X2_run_2, e_X2_run_5, e_X2_run_6, e_X2_run_7, e_X2_run_10, e_X2_run_11, e_X2_run_12, e_X2_run_15, e_X2_run_16, e_X2_run_17, e_X2_run_20, e_X2_run_21, e_X2_run_22, e_X2_run_25, e_X2_run_26, e_X2_run_27, e_X2_run_30, e_X2_run_31, e_X2_run_32, e_X2_run_35, e_X2_run_36, e_X2_run_37, e_X2_run_40, e_X2_run_41, e_X2_run_43, e_X2_run_44, g_L0_0 hl, g_L0_1 hl, g_L0_2 hl, g_L0_3 hl, g_L0_4 hl, g_L0_5 hl, g_L0_6 hl, g_L0_7 hl, p_L0_0 hl, p_L0_1 hl, p_L0_2 hl, p_L0_3 hl, p_L0_4 hl, p_L0_5 hl, p_L0_6 hl, p_L0_7 hl, zfit_b0, zfit_b1, Option.bind_some, Option.isSome_some, Option.toList, List.cons_append, List.nil_append, zclr_i, zclr_r, zclr_n, zfit_i, zfit_l, and_self, if_true, if_false]
      rfl
    rw [hst]
    refine e1.trans ?_
    cases over with
    | true => rw [if_pos rfl]
    | false =>
      rw [if_neg (by decide)]
      unfold hdX
      rw [e_X2_run_46]
      have hk15 : ¬ (1500 : Int32) ≤ nI k' := nI_ge (b := 1500) (by omega) (by decide)
      have hL2 : X' s 2 = nI L := by rw [show X' s = X s from r4.2.1 0 (by decide)]; exact hL
      simp only [e_X2_run_48, e_X2_run_51, e_X2_run_54, e_X2_run_56, e_X2_run_57, e_X2_run_60, e_X2_run_199, if_neg hk15, g_S0_2 hsc, hL2, if_pos (nI_le (Nat.le_refl L) (show L < 2 ^ 31 by omega)), Option.bind_some, Option.isSome_some, Option.toList, List.cons_append, List.nil_append, zclr_i, zclr_r, zclr_n, zfit_i, zfit_l, and_self, if_true, if_false]
  · have h148 : rf0 (nI sd) Y 148 = Y 148 := by
      unfold rf0
      rw [zu_far _ _ _ (by decide), zu_far _ _ _ (by decide), zu_far _ _ _ (by decide), zu_far _ _ _ (by decide), zu_far _ _ _ (by decide), zu_far _ _ _ (by decide), zu_far _ _ _ (by decide), zu_far _ _ _ (by decide)]
    have hLR : LR c0 l t N S (lf0 l (nI sd) X) (rf0 (nI sd) Y) := by
      refine ⟨by rw [h148]; exact hR.far (fun i hi => lf0_far (life_town hl ht hi).1), fun k hk => by rw [h148]; exact hc k hk, ?_, ?_, ?_, ?_, ?_, ?_, ?_⟩ <;> rw [lf0_at] <;> unfold rf0 <;> simp [zu_row]
    obtain ⟨Y', b1, b2, b3, b4⟩ := p2 D (nI 0) (rf0 (nI sd) Y) JY hLR (by unfold rf0; simp [zu_row])
    refine ⟨Y', ?_, b2, rf0_YF.trans b4⟩
    have h235 : (zu (zu (zu (zu (zu (zu (zu (zu Y 143 36 (nI sd)) 143 37 0) 143 38 0) 143 39 0) 143 40 0) 143 41 0) 143 42 0) 143 35 0) 148 235 = nI K := by
      show rf0 (nI sd) Y 148 235 = nI K
      rw [h148, hc 235 (by decide), hK2]
    have hl235 : ∀ (I : Nat → Nat → Int32) (J : Nat → Nat → Int64), zld (mk n m g I J) 148 235 = some (I 148 235) := fun I J => l_148 (k := 235) (by decide)
    have hda : zcall (D + 16) 402 [.ref 143, .int 0, .int (nI K)] (mk n m g (zu (zu (zu (zu (zu (zu (zu (zu Y 143 36 (nI sd)) 143 37 0) 143 38 0) 143 39 0) 143 40 0) 143 41 0) 143 42 0) 143 35 0) JY) = some (none, mk n m g Y' (jy JY N N')) := by
      rw [m_X12_doAll]
      simp only [e_X12_doAll_0, e_X12_doAll_1, Option.bind_some, Option.isSome_some, Option.toList, List.cons_append, List.nil_append, zclr_i, zclr_r, zclr_n, zfit_i, zfit_l, and_self, if_true, if_false]
      exact b1
    rw [m_X12_runsCenturies]
    simp only [e_X12_runsCenturies_0, e_X12_runsCenturies_1, e_X12_runsCenturies_2, e_X12_runsCenturies_5, e_X12_runsCenturies_6, e_X12_runsCenturies_7, e_X12_runsCenturies_10, e_X12_runsCenturies_11, e_X12_runsCenturies_12, e_X12_runsCenturies_15, e_X12_runsCenturies_16, e_X12_runsCenturies_17, e_X12_runsCenturies_20, e_X12_runsCenturies_21, e_X12_runsCenturies_22, e_X12_runsCenturies_25, e_X12_runsCenturies_26, e_X12_runsCenturies_27, e_X12_runsCenturies_30, e_X12_runsCenturies_31, e_X12_runsCenturies_32, e_X12_runsCenturies_35, e_X12_runsCenturies_36, e_X12_runsCenturies_37, e_X12_runsCenturies_40, e_X12_runsCenturies_41, e_X12_runsCenturies_42, e_X12_runsCenturies_43, e_X12_runsCenturies_46, e_X12_runsCenturies_49, e_X12_runsCenturies_50, e_X12_runsCenturies_53, c_143, g_143_20, g_143_35, g_143_36, g_143_37, g_143_38, g_143_39, g_143_40, g_143_41, g_143_42, p_143_35, p_143_36, p_143_37, p_143_38, p_143_39, p_143_40, p_143_41, p_143_42, hl235, h235, hda, zfit_b0, Option.bind_some, Option.isSome_some, Option.toList, List.cons_append, List.nil_append, zclr_i, zclr_r, zclr_n, zfit_i, zfit_l, and_self, if_true, if_false]
theorem Inv.relife (h : Inv I J N S) (hI : ∀ a, a ≠ 62 → a ≠ 157 → a ≠ 143 → I2 a = I a) (h143 : ∀ k, k ≠ 34 → I2 143 k = I 143 k) (hl : lifeOk I2) : Inv I2 J N S := by
  obtain ⟨i1, i2, i3, i4, i5, i6, i7, i8, i9, i10, _, i12⟩ := h
  have h148 := hI 148 (by decide) (by decide) (by decide)
  refine ⟨i1.far (fun i hi => hI _ (by omega) (by omega) (by omega)), ?_, i3, ?_, ?_, i6, ?_, ?_, ?_, ?_, hl, ?_⟩
  · rw [h148]
    exact i2.far (fun i hi => hI _ (by omega) (by omega) (by omega))
  · rw [h148]
    exact i4.far (fun r hr => hI _ (by omega) (by omega) (by omega)) (fun _ _ _ => rfl)
  · rw [hI 3 (by decide) (by decide) (by decide), h143 0 (by decide)]
    exact i5
  · unfold trayOk yWellT at *
    rw [hI 5 (by decide) (by decide) (by decide), hI 6 (by decide) (by decide) (by decide), hI 144 (by decide) (by decide) (by decide), hI 145 (by decide) (by decide) (by decide)]
    exact i7
  · unfold tapeOk at *
    rw [hI 12 (by decide) (by decide) (by decide), hI 147 (by decide) (by decide) (by decide), hI 3 (by decide) (by decide) (by decide), h143 8 (by decide)]
    exact i8
  · unfold readOk at *
    rw [hI 13 (by decide) (by decide) (by decide), h143 10 (by decide), h143 11 (by decide)]
    exact i9
  · unfold pointOk at *
    rw [hI 71 (by decide) (by decide) (by decide)]
    exact i10
  · obtain ⟨K, k1, k2, k3, k4⟩ := i12
    refine ⟨K, k1, by rw [hI 3 (by decide) (by decide) (by decide)]; exact k2, by rw [h143 24 (by decide)]; exact k3, fun k hk => ?_⟩
    obtain ⟨N1, S1, w1, r1, j1, c1⟩ := k4 k hk
    have k3 : k = 0 ∨ k = 1 ∨ k = 2 := by omega
    refine ⟨N1, S1, w1.far (fun i hi => hI _ (by omega) (by omega) (by omega)), ?_, j1, ?_⟩
    · rw [h148]
      exact r1.far (fun i hi => hI _ (by omega) (by omega) (by omega))
    · rw [h148]
      exact c1.far (fun r hr => hI _ (by omega) (by omega) (by omega)) (fun _ _ _ => rfl)
theorem jw_life (h : JW J 16 (J 151) N S) (h12 : N' ≤ 12) (h6 : S ≤ 6) : JW (jy (jb J 16 N N') N N') 16 (jy (jb J 16 N N') N N' 151) N' S := by
  obtain ⟨h1, h2⟩ := h
  refine ⟨fun s hs => ?_, fun p hp => ?_⟩
  · have e1 : jy (jb J 16 N N') N N' (16 + 1) s = J (16 + 1) s := by
      unfold jy jb
      rw [if_neg (by omega), if_neg (by omega)]
    have e2 : jy (jb J 16 N N') N N' 151 s = J 151 s := by
      unfold jy jb
      rw [if_neg (by omega), if_neg (by omega)]
    rw [e1, e2]
    exact h1 s hs
  · by_cases hpN : p < N
    · have e1 : jy (jb J 16 N N') N N' (16 + 4) p = J (16 + 4) p := by
        unfold jy jb
        rw [if_neg (by omega), if_neg (by omega)]
      have e2 : jy (jb J 16 N N') N N' 151 (6 + p) = J 151 (6 + p) := by
        unfold jy jb
        rw [if_neg (by omega), if_neg (by omega)]
      rw [e1, e2]
      exact h2 p hpN
    · refine .inr ⟨?_, ?_⟩
      · unfold jy jb
        rw [if_neg (by omega), if_pos (by omega)]
      · unfold jy
        rw [if_pos (by omega)]
theorem jb_far {r : Nat} (h : r ≠ 20) (h2 : r ≠ 151) : jy (jb J 16 N N') N N' r = J r := by
  funext k
  unfold jy jb
  rw [if_neg (by omega), if_neg (by omega)]
/-- what the reference keeps of a life -/
def lv5 (Y : Nat → Nat → Int32) : Nat → Nat → Int32 := zu (zu (zu (zu (zu (zu Y 157 0 (Y 143 38)) 157 1 (Y 143 39)) 157 2 (Y 143 40)) 157 3 (Y 143 41)) 157 4 (Y 143 42)) 143 34 1
theorem lv5_far {a : Nat} (h : a ≠ 157) (h2 : a ≠ 143) : lv5 Y a = Y a := by
  unfold lv5
  rw [zu_far _ _ _ h2, zu_far _ _ _ h, zu_far _ _ _ h, zu_far _ _ _ h, zu_far _ _ _ h, zu_far _ _ _ h]
theorem lv5_143 {k : Nat} : lv5 Y 143 k = if k = 34 then 1 else Y 143 k := by
  unfold lv5
  rw [zu_row, zu_far _ _ _ (by decide), zu_far _ _ _ (by decide), zu_far _ _ _ (by decide), zu_far _ _ _ (by decide), zu_far _ _ _ (by decide)]
theorem Inv.live (h : Inv I J N S) (hN : N ≤ N') (hW : WT X' 16 N' S 2999) (hX : XF 62 16 I X') (h6 : X' 62 6 = 1) (h5 : X' 62 5 = 0 ∨ X' 62 5 = 1) (hL : LR (I 148) 62 16 N' S X' Y') (hY : YF ((zu (zu (zu X' 3 0 0) 143 1 0) 143 0 0)) Y') : Inv (lv5 Y') (jy (jb J 16 N N') N N') N' S := by
  have hV : ∀ a, a ≠ 3 → a ≠ 143 → ((zu (zu (zu X' 3 0 0) 143 1 0) 143 0 0)) a = X' a := fun a h1 h2 => by rw [zu_far _ _ _ h2, zu_far _ _ _ h2, zu_far _ _ _ h1]
  have hYX : ∀ a, a ≠ 148 → a ≠ 143 → a ≠ 3 → Y' a = X' a := fun a h1 h2 h3 => by rw [hY.1 a h1 h2, hV a h3 h2]
  have hXI : ∀ a, (a < 16 ∨ 33 ≤ a) → a ≠ 62 → a ≠ 63 → X' a = I a := fun a h1 h2 h3 => hX a (fun i hi => by omega) h2 h3
  obtain ⟨I3, e3⟩ : ∃ I3 : Nat → Nat → Int32, I3 = fun a => if a = 62 then I 62 else if a = 157 then I 157 else if a = 143 then (fun k => if k = 34 then I 143 34 else Y' 143 k) else Y' a := ⟨_, rfl⟩
  have g3 : ∀ a, a ≠ 62 → a ≠ 157 → a ≠ 143 → I3 a = Y' a := fun a h1 h2 h4 => by rw [e3]; simp [h1, h2, h4]
  have g143 : ∀ k, k ≠ 34 → I3 143 k = Y' 143 k := fun k hk => by rw [e3]; simp [hk]
  have y3 : Y' 3 = zu X' 3 0 0 3 := by rw [hY.1 3 (by decide) (by decide), zu_far _ _ _ (by decide), zu_far _ _ _ (by decide)]
  have y143 : ∀ k, k < 35 → k ≠ 0 → k ≠ 1 → Y' 143 k = I 143 k := fun k h1 h2 h4 => by rw [hY.2 k (.inl h1), zu_row, if_neg h2, zu_row, if_neg h4, zu_far _ _ _ (by decide), hXI 143 (by omega) (by decide) (by decide)]
  have hI3 : Inv I3 (jy (jb J 16 N N') N N') N' S := by
    have h12 := hW.h12
    refine h.keep hN (hW.far (fun i hi => by rw [g3 _ (by omega) (by omega) (by omega), hYX _ (by omega) (by omega) (by omega)])) ?_ (jw_life h.jw hW.h12 hW.h6) ?_ (fun a ha => ?_) (fun k hk => ?_) (fun k hk => ?_) (fun j hj => ?_) ?_ (fun a ha => jb_far (keepJ_ne ha rfl) (keepJ_ne ha rfl)) (fun k hk => ?_)
    · rw [g3 148 (by decide) (by decide) (by decide)]
      exact hL.1.far (fun i hi => by rw [g3 _ (by omega) (by omega) (by omega), hYX _ (by omega) (by omega) (by omega)])
    · rw [g3 3 (by decide) (by decide) (by decide), g143 0 (by decide), y3, hY.2 0 (.inl (by decide))]
      simp [zu_row]
    · by_cases a1 : a = 62
      · rw [e3, a1]
        rfl
      · by_cases a2 : a = 157
        · rw [e3, a2]
          rfl
        · have a3 : a ≠ 143 := keepI_ne ha rfl
          have a4 : a ≠ 148 := keepI_ne ha rfl
          have a5 : a ≠ 3 := keepI_ne ha rfl
          have a6 : a ≠ 63 := keepI_ne ha rfl
          rw [g3 a a1 a2 a3, hYX a a4 a3 a5, hXI a (by unfold keepI at ha; simp at ha; omega) a1 a6]
    · rw [g3 3 (by decide) (by decide) (by decide), y3, zu_row, if_neg hk, hXI 3 (by omega) (by decide) (by decide)]
    · by_cases k34 : k = 34
      · rw [e3, k34]
        rfl
      · rw [g143 k k34]
        exact y143 k (by omega) (by omega) (by omega)
    · rw [g3 148 (by decide) (by decide) (by decide)]
      exact hL.2.1 j hj
    · have := h.pt
      unfold pointOk at *
      rw [g3 71 (by decide) (by decide) (by decide), hYX 71 (by decide) (by decide) (by decide), hXI 71 (by omega) (by decide) (by decide)]
      exact this
    · have h12 := hW.h12
      unfold jy jb
      rw [if_neg (by omega), if_neg (by omega)]
  refine hI3.relife (fun a a1 a2 a3 => by rw [lv5_far a2 a3, g3 a a1 a2 a3]) (fun k hk => by rw [lv5_143, if_neg hk, g143 k hk]) ?_
  have l62 : lv5 Y' 62 = X' 62 := by rw [lv5_far (by decide) (by decide), hYX 62 (by decide) (by decide) (by decide)]
  obtain ⟨_, _, f1, f2, f3, f4, f5, f6, f7⟩ := hL
  unfold lifeOk
  rw [l62, lv5_143, if_pos rfl]
  refine ⟨h6, .inr h6, h5, fun _ => ?_⟩
  unfold lv5
  have z : ∀ (Z : Nat → Nat → Int32), zu Z 143 34 1 157 = Z 157 := fun Z => zu_far _ _ _ (by decide)
  rw [z]
  simp only [zu_row]
  simp [f3, f4, f5, f6, f7]
theorem li62' : isLife 62 := .inl rfl
theorem sc50 : isScript 50 := .inl rfl
theorem q_live {x : Int32} (h : Inv I J N S) (d : Nat) : Eqv (d + 30) 210 404 [.int x] n m g I J := by
  have hW := h.W
  have h12 := hW.h12
  have h6 := hW.h6
  have hl234 : ∀ (I : Nat → Nat → Int32) (J : Nat → Nat → Int64), zld (mk n m g I J) 148 234 = some (I 148 234) := fun I J => l_148 (k := 234) (by decide)
  by_cases hin : 0 ≤ x ∧ x ≤ 9999
  · obtain ⟨sd, _, hsd, rfl⟩ := range_nI (lo := 0) (hi := 9999) (by decide) (by decide) hin
    have nx : ¬ nI sd < 0 := nI_pos (by omega)
    obtain ⟨cs1, cs2⟩ := h.cs
    rcases cs2 with c0 | ⟨c1, L, K, L60, K30, _, k2, k3, hB⟩
    · have i50 : I 50 0 = 0 := by rw [cs1, c0]
      refine ⟨.int (-1), zu I 3 0 8, J, st 8 I, J, N, S, ?_, ?_, h.stI⟩
      · rw [m_X11_live]
        simp only [e_X11_live_0, e_X11_live_1, e_X11_live_4, e_X11_live_5, e_X11_live_8, e_X11_live_11, e_X11_live_12, e_X11_live_13, e_X11_live_16, e_X11_live_17, e_X11_live_18, e_X11_live_21, e_X11_live_24, e_X11_live_27, e_X11_live_28, e_X11_live_30, e_X11_live_33, c_3, g_3_9, g_S0_0 sc50, if_neg nx, if_pos hin.2, i50, ne_eq, not_true, n_refuse, Option.bind_some, Option.isSome_some, Option.toList, List.cons_append, List.nil_append, zclr_i, zclr_r, zclr_n, zfit_i, zfit_l, and_self, if_true, if_false] <;> first | rfl | simp
      · have e234 : ((zu (zu (zu I 3 0 8) 143 1 0) 143 0 0)) 148 234 = 0 := c0
        rw [m_X12_live]
        simp only [e_X12_live_0, e_X12_live_1, e_X12_live_2, e_X12_live_5, e_X12_live_6, e_X12_live_7, e_X12_live_10, e_X12_live_11, e_X12_live_12, e_X12_live_13, e_X12_live_16, e_X12_live_19, e_X12_live_22, e_X12_live_23, e_X12_live_24, e_X12_live_27, e_X12_live_28, e_X12_live_29, e_X12_live_32, e_X12_live_35, e_X12_live_36, e_X12_live_39, e_X12_live_40, e_X12_live_42, e_X12_live_45, c_143, g_143_0, g_143_1, g_143_20, p_143_0, p_143_1, v_isIn (nI sd) 0 9999 0 9999 rfl rfl, hin, decide_true, bI, show ((1 : Int32) = 0) = False by decide, ne_eq, not_false_eq_true, not_true, hl234, e234, v_refuse, st_eq, Option.bind_some, Option.isSome_some, Option.toList, List.cons_append, List.nil_append, zclr_i, zclr_r, zclr_n, zfit_i, zfit_l, and_self, if_true, if_false] <;> first | rfl | simp
    · have i50 : I 50 0 = 1 := by rw [cs1, c1]
      obtain ⟨X', N', a1, a2, a3, a4, a5, a6, a7⟩ := life_run (n := n) (m := m) (g := g) (X := I) (l := 62) (t := 16) (s := 50) (sd := sd) ⟨sc50, li62', t16, L60, k3⟩ hW hB K30 (by omega) (d + 23)
      have hX148 : X' 148 = I 148 := a3 148 (fun i hi => by omega) (by decide) (by decide)
      obtain ⟨Y', b1, b2, b3⟩ := a7 (d + 12) ((zu (zu (zu X' 3 0 0) 143 1 0) 143 0 0)) (jb J 16 N N') (by
        show RT I 16 (X' 148) N S
        rw [hX148]
        exact h.R) (fun k _ => by
        show X' 148 k = I 148 k
        rw [hX148]) k2
      refine ⟨.int (X' 62 0), zu X' 3 0 0, jb J 16 N N', lv5 Y', jy (jb J 16 N N') N N', N', S, ?_, ?_, h.live a1 a2 a3 a4 a5 b2 b3⟩
      · rw [m_X11_live]
        simp only [e_X11_live_0, e_X11_live_1, e_X11_live_4, e_X11_live_5, e_X11_live_8, e_X11_live_11, e_X11_live_12, e_X11_live_13, e_X11_live_16, e_X11_live_17, e_X11_live_18, e_X11_live_21, e_X11_live_24, e_X11_live_27, e_X11_live_28, e_X11_live_30, e_X11_live_33, e_X11_live_34, e_X11_live_35, e_X11_live_38, e_X11_live_39, e_X11_live_42, e_X11_live_43, e_X11_live_46, e_X11_live_47, e_X11_live_50, e_X11_live_51, e_X11_live_52, e_X11_live_55, e_X11_live_58, e_X11_live_61, c_3, g_3_7, g_3_9, g_3_11, c_L0 li62', g_L0_0 li62', g_S0_0 sc50, if_neg nx, if_pos hin.2, i50, show ((1 : Int32) = 0) = False by decide, ne_eq, not_false_eq_true, a6 J, n_answer, Option.bind_some, Option.isSome_some, Option.toList, List.cons_append, List.nil_append, zclr_i, zclr_r, zclr_n, zfit_i, zfit_l, and_self, if_true, if_false]
      · have e234 : ((zu (zu (zu X' 3 0 0) 143 1 0) 143 0 0)) 148 234 = 1 := by
          show X' 148 234 = 1
          rw [hX148]
          exact c1
        have n0 : ∀ k : Nat, k < 5 → (nI k < 0) = False := fun k hk => nI_neg (by omega)
        rw [m_X12_live]
        simp only [e_X12_live_0, e_X12_live_1, e_X12_live_2, e_X12_live_5, e_X12_live_6, e_X12_live_7, e_X12_live_10, e_X12_live_11, e_X12_live_12, e_X12_live_13, e_X12_live_16, e_X12_live_19, e_X12_live_22, e_X12_live_23, e_X12_live_24, e_X12_live_27, e_X12_live_28, e_X12_live_29, e_X12_live_32, e_X12_live_35, e_X12_live_36, e_X12_live_39, e_X12_live_40, e_X12_live_42, e_X12_live_45, e_X12_live_46, e_X12_live_47, e_X12_live_48, e_X12_live_51, e_X12_live_52, e_X12_live_55, e_X12_live_56, e_X12_live_57, e_X12_live_60, e_X12_live_61, e_X12_live_62, e_X12_live_65, e_X12_live_66, e_X12_live_67, e_X12_live_70, e_X12_live_71, e_X12_live_72, e_X12_live_75, e_X12_live_76, e_X12_live_77, e_X12_live_80, e_X12_live_81, e_X12_live_82, e_X12_live_85, e_X12_live_86, e_X12_live_87, e_X12_live_90, e_X12_live_91, e_X12_live_92, e_X12_live_95, e_X12_live_96, e_X12_live_97, e_X12_live_100, e_X12_live_101, e_X12_live_102, e_X12_live_103, e_X12_live_106, e_X12_live_107, e_X12_live_110, c_143, g_143_0, g_143_1, g_143_20, p_143_0, p_143_1, v_isIn (nI sd) 0 9999 0 9999 rfl rfl, hin, decide_true, bI, show ((1 : Int32) = 0) = False by decide, ne_eq, not_false_eq_true, not_true, hl234, e234, b1, g_143_33, g_143_34, g_143_37, g_143_38, g_143_39, g_143_40, g_143_41, g_143_42, p_143_34, show ((0 : Int32) < 0) = False by decide, show ((1 : Int32) < 0) = False by decide, show ((2 : Int32) < 0) = False by decide, show ((3 : Int32) < 0) = False by decide, show ((4 : Int32) < 0) = False by decide, show Int32.toNatClampNeg 0 = 0 from rfl, show Int32.toNatClampNeg 1 = 1 from rfl, show Int32.toNatClampNeg 2 = 2 from rfl, show Int32.toNatClampNeg 3 = 3 from rfl, show Int32.toNatClampNeg 4 = 4 from rfl, k_157 (show 0 < 5 by decide), k_157 (show 1 < 5 by decide), k_157 (show 2 < 5 by decide), k_157 (show 3 < 5 by decide), k_157 (show 4 < 5 by decide), q_157, zfit_b1, Option.bind_some, Option.isSome_some, Option.toList, List.cons_append, List.nil_append, zclr_i, zclr_r, zclr_n, zfit_i, zfit_l, and_self, if_true, if_false]
        have z157 : ∀ (Z : Nat → Nat → Int32) (k : Nat) (v : Int32), zu Z 157 k v 143 = Z 143 := fun Z k v => zu_far _ _ _ (by decide)
        simp only [z157]
        rw [← b2.2.2.2.1]
        rfl
  · refine ⟨.int (-1), zu I 3 0 5, J, st 5 I, J, N, S, ?_, ?_, h.stI⟩
    · rw [m_X11_live]
      by_cases c1 : x < 0
      · simp only [e_X11_live_0, e_X11_live_1, e_X11_live_4, e_X11_live_5, e_X11_live_8, e_X11_live_11, e_X11_live_12, e_X11_live_13, e_X11_live_16, c_3, if_pos c1, n_refuse, Option.bind_some, Option.isSome_some, Option.toList, List.cons_append, List.nil_append, zclr_i, zclr_r, zclr_n, zfit_i, zfit_l, and_self, if_true, if_false] <;> first | rfl | simp
      · have c2 : ¬ x ≤ 9999 := fun h => hin ⟨Int32.not_lt.mp c1, h⟩
        simp only [e_X11_live_0, e_X11_live_1, e_X11_live_4, e_X11_live_5, e_X11_live_8, e_X11_live_11, e_X11_live_12, e_X11_live_13, e_X11_live_16, c_3, if_neg c1, if_neg c2, n_refuse, Option.bind_some, Option.isSome_some, Option.toList, List.cons_append, List.nil_append, zclr_i, zclr_r, zclr_n, zfit_i, zfit_l, and_self, if_true, if_false] <;> first | rfl | simp
    · rw [m_X12_live]
      simp only [e_X12_live_0, e_X12_live_1, e_X12_live_2, e_X12_live_5, e_X12_live_6, e_X12_live_7, e_X12_live_10, e_X12_live_11, e_X12_live_12, e_X12_live_13, e_X12_live_16, e_X12_live_19, e_X12_live_22, e_X12_live_23, e_X12_live_24, e_X12_live_27, c_143, g_143_0, g_143_1, p_143_0, p_143_1, v_isIn x 0 9999 0 9999 rfl rfl, hin, decide_false, bI, Bool.false_eq_true, ne_eq, not_true, v_refuse, st_eq, Option.bind_some, Option.isSome_some, Option.toList, List.cons_append, List.nil_append, zclr_i, zclr_r, zclr_n, zfit_i, zfit_l, and_self, if_true, if_false] <;> first | rfl | simp
end LV
