/-! THE CALLS, side by side -/
section EQ
variable {n m : Nat} {g : Nat → zC} {I I2 T A : Nat → Nat → Int32} {J J2 : Nat → Nat → Int64} {N S N' S' : Nat} {c' : Nat → Int32}
def Eqv (d y y' : Nat) (as : List Value) (n m : Nat) (g : Nat → zC) (I : Nat → Nat → Int32) (J : Nat → Nat → Int64) : Prop := ∃ v I' J' I2 J2 N' S', zcall d y (.ref 3 :: as) (mk n m g I J) = some (some v, mk n m g I' J') ∧ zcall d y' (.ref 143 :: as) (mk n m g I' J') = some (some v, mk n m g I2 J2) ∧ Inv I2 J2 N' S'
def keepT (a : Nat) : Bool := keepI a || (16 ≤ a && a < 33) || a == 148
def keepU (a : Nat) : Bool := keepJ a || a == 17 || a == 20 || a == 151
theorem keepT_ne {a r : Nat} (ha : keepT a = true) (hr : keepT r = false) : a ≠ r := fun e => by rw [e, hr] at ha; exact absurd ha (by decide)
theorem keepU_ne {a r : Nat} (ha : keepU a = true) (hr : keepU r = false) : a ≠ r := fun e => by rw [e, hr] at ha; exact absurd ha (by decide)
theorem keepI_T {a : Nat} (h : keepI a = true) : keepT a = true := by simp [keepT, h]
theorem keepJ_U {a : Nat} (h : keepJ a = true) : keepU a = true := by simp [keepU, h]
theorem keepT_town {i : Nat} (h : i < 17) : keepT (16 + i) = true := by
  unfold keepT
  simp
  omega
theorem Inv.W (h : Inv I J N S) : WT I 16 N S 2999 := h.1
theorem Inv.R (h : Inv I J N S) : RT I 16 (I 148) N S := h.2.1
theorem Inv.jw (h : Inv I J N S) : JW J 16 (J 151) N S := h.2.2.1
theorem Inv.cs (h : Inv I J N S) : CS I 50 (I 148) N S := h.2.2.2.1
theorem Inv.stq (h : Inv I J N S) : I 3 0 = I 143 0 := h.2.2.2.2.1
theorem Inv.tb (h : Inv I J N S) : J 3 1 = J 143 2 ∧ J 3 2 = J 143 3 := h.2.2.2.2.2.1
theorem Inv.tray (h : Inv I J N S) : trayOk I J := h.2.2.2.2.2.2.1
theorem Inv.tape (h : Inv I J N S) : tapeOk I := h.2.2.2.2.2.2.2.1
theorem Inv.rd (h : Inv I J N S) : readOk I J := h.2.2.2.2.2.2.2.2.1
theorem Inv.pt (h : Inv I J N S) : pointOk I := h.2.2.2.2.2.2.2.2.2.1
theorem Inv.life (h : Inv I J N S) : lifeOk I := h.2.2.2.2.2.2.2.2.2.2.1
theorem Inv.marks (h : Inv I J N S) : marksOk I J := h.2.2.2.2.2.2.2.2.2.2.2
theorem Inv.same (h : Inv I J N S) (hst : I2 3 0 = I2 143 0) (hI : ∀ a, keepT a = true → I2 a = I a) (h3 : ∀ k, k ≠ 0 → I2 3 k = I 3 k) (h143 : ∀ k, k = 8 ∨ k = 10 ∨ k = 11 ∨ k = 24 ∨ k = 34 → I2 143 k = I 143 k) (hp : pointOk I2) (hJ : ∀ a, keepU a = true → J2 a = J a) : Inv I2 J2 N S := by
  have h148 : I2 148 = I 148 := hI 148 rfl
  have h151 : J2 151 = J 151 := hJ 151 rfl
  refine h.keep (Nat.le_refl N) (h.W.far (fun i hi => hI _ (keepT_town hi))) ?_ ?_ hst (fun a ha => hI a (keepI_T ha)) h3 h143 (fun j _ => by rw [h148]) hp (fun a ha => hJ a (keepJ_U ha)) (fun k _ => by rw [h151])
  · rw [h148]
    exact h.R.far (fun i hi => hI _ (keepT_town hi))
  · have := h.jw
    unfold JW at *
    rw [h151, hJ (16 + 1) rfl, hJ (16 + 4) rfl]
    exact this
/-- the status of both -/
def st (w : Int32) (I : Nat → Nat → Int32) : Nat → Nat → Int32 := zu (zu (zu I 3 0 w) 143 1 0) 143 0 w
theorem st_eq {w : Int32} : zu (zu (zu (zu I 3 0 w) 143 1 0) 143 0 0) 143 0 w = st w I := zu_zu _ _ _ _ _
theorem st_far {w : Int32} {a : Nat} (h3 : a ≠ 3) (h : a ≠ 143) : st w I a = I a := by
  unfold st
  rw [zu_far _ _ _ h, zu_far _ _ _ h, zu_far _ _ _ h3]
theorem st_3 {w : Int32} {k : Nat} : st w I 3 k = if k = 0 then w else I 3 k := by
  unfold st
  rw [zu_far _ _ _ (by decide), zu_far _ _ _ (by decide), zu_row]
theorem st_143 {w : Int32} {k : Nat} : st w I 143 k = if k = 0 then w else if k = 1 then 0 else I 143 k := by
  unfold st
  rw [zu_row, zu_row, zu_far _ _ _ (by decide)]
theorem Inv.stI {w : Int32} (h : Inv I J N S) : Inv (st w I) J N S := by
  refine h.same ?_ (fun a ha => st_far (keepT_ne ha rfl) (keepT_ne ha rfl)) (fun k hk => ?_) (fun k hk => ?_) ?_ (fun _ _ => rfl)
  · rw [st_3, st_143, if_pos rfl, if_pos rfl]
  · rw [st_3, if_neg hk]
  · rw [st_143, if_neg (by omega), if_neg (by omega)]
  · have := h.pt
    unfold pointOk at *
    rw [st_far (by decide) (by decide)]
    exact this
theorem zr_zu {α : Type} (I : Nat → Nat → α) (a b k : Nat) (x : α) (r : Nat → α) (h : b ≠ a) : zr (zu I a k x) b r = zu (zr I b r) a k x := by
  funext i l
  unfold zr zu
  by_cases h1 : i = b
  · have : ¬ i = a := by omega
    simp [h1, h]
  · simp [h1]
theorem st_zr {w : Int32} {c' : Nat → Int32} : zr (zu (zu (zu I 3 0 w) 143 1 0) 143 0 w) 148 c' = st w (zr I 148 c') := by
  unfold st
  rw [zr_zu _ _ _ _ _ _ (by decide), zr_zu _ _ _ _ _ _ (by decide), zr_zu _ _ _ _ _ _ (by decide)]
theorem Inv.town (h : Inv I J N S) (hN : N ≤ N') (hW : WT T 16 N' S 2999) (hR : RT T 16 c' N' S) (hT : ∀ a, (∀ i, i < 17 → a ≠ 16 + i) → T a = I a) (hc : ∀ j, 234 ≤ j → c' j = I 148 j) (hJ : JW J2 16 (J2 151) N' S) (hJJ : ∀ a, keepJ a = true → J2 a = J a) (hw : ∀ k, 18 ≤ k → J2 151 k = J 151 k) : Inv (zr T 148 c') J2 N' S := by
  have hz : ∀ a, a ≠ 148 → zr T 148 c' a = T a := fun a ha => zr_far _ _ ha
  have hk : ∀ a, keepI a = true → ∀ i, i < 17 → a ≠ 16 + i := by
    intro a ha i hi
    unfold keepI at ha
    simp at ha
    omega
  have h3 : zr T 148 c' 3 = I 3 := by rw [hz 3 (by decide), hT 3 (fun i _ => by omega)]
  have h143 : zr T 148 c' 143 = I 143 := by rw [hz 143 (by decide), hT 143 (fun i _ => by omega)]
  refine h.keep hN (hW.far (fun i hi => hz _ (by omega))) ?_ hJ ?_ (fun a ha => ?_) (fun k _ => by rw [h3]) (fun k _ => by rw [h143]) (fun j hj => by rw [zr_same, hc j hj]) ?_ hJJ hw
  · rw [zr_same]
    exact hR.far (fun i hi => hz _ (by omega))
  · rw [h3, h143]
    exact h.stq
  · rw [hz a (keepI_ne ha rfl), hT a (hk a ha)]
  · have := h.pt
    unfold pointOk at *
    rw [hz 71 (by decide), hT 71 (fun i _ => by omega)]
    exact this
theorem p_cases (x : Int32) (N : Nat) : (∃ p, p < N ∧ x = nI p) ∨ ∀ p, p < N → x ≠ nI p := by
  by_cases h : ∃ p, p < N ∧ x = nI p
  · exact Or.inl h
  · exact Or.inr (fun p hp e => h ⟨p, hp, e⟩)
theorem q_status (h : Inv I J N S) (d : Nat) : Eqv (d + 30) 154 235 [] n m g I J := by
  refine ⟨.int (I 3 0), I, J, zu I 143 1 0, J, N, S, n_status _, ?_, ?_⟩
  · rw [m_X12_status]
    simp only [e_X12_status_0, e_X12_status_1, e_X12_status_2, e_X12_status_5, e_X12_status_6, e_X12_status_9, g_143_0, g_143_1, p_143_1, Option.bind_some, Option.isSome_some, Option.toList, List.cons_append, List.nil_append, zclr_i, zclr_r, zclr_n, zfit_i, zfit_l, and_self, if_true, if_false]
    rw [zu_row, if_neg (by decide), h.stq]
  · refine h.same ?_ (fun a ha => zu_far _ _ _ (keepT_ne ha rfl)) (fun k _ => by rw [zu_far _ _ _ (by decide)]) (fun k hk => by rw [zu_row, if_neg (by omega)]) ?_ (fun _ _ => rfl)
    · rw [zu_far _ _ _ (by decide), zu_row, if_neg (by decide)]
      exact h.stq
    · have := h.pt
      unfold pointOk at *
      rw [zu_far _ _ _ (by decide)]
      exact this
theorem Inv.thrown (h : Inv I J N S) : Inv (zu I 143 1 0) J N S := by
  refine h.same ?_ (fun a ha => zu_far _ _ _ (keepT_ne ha rfl)) (fun k _ => by rw [zu_far _ _ _ (by decide)]) (fun k hk => by rw [zu_row, if_neg (by omega)]) ?_ (fun _ _ => rfl)
  · rw [zu_far _ _ _ (by decide), zu_row, if_neg (by decide)]
    exact h.stq
  · have := h.pt
    unfold pointOk at *
    rw [zu_far _ _ _ (by decide)]
    exact this
theorem q_top (h : Inv I J N S) (d : Nat) : Eqv (d + 30) 155 236 [] n m g I J := by
  refine ⟨.long (J 3 1), I, J, zu I 143 1 0, J, N, S, n_top _, ?_, h.thrown⟩
  rw [m_X12_top]
  simp only [e_X12_top_0, e_X12_top_1, e_X12_top_2, e_X12_top_5, e_X12_top_6, e_X12_top_9, g_143_1, g_143_2, p_143_1, Option.bind_some, Option.isSome_some, Option.toList, List.cons_append, List.nil_append, zclr_i, zclr_r, zclr_n, zfit_i, zfit_l, and_self, if_true, if_false]
  rw [h.tb.1]
theorem q_bottom (h : Inv I J N S) (d : Nat) : Eqv (d + 30) 156 237 [] n m g I J := by
  refine ⟨.long (J 3 2), I, J, zu I 143 1 0, J, N, S, n_bottom _, ?_, h.thrown⟩
  rw [m_X12_bottom]
  simp only [e_X12_bottom_0, e_X12_bottom_1, e_X12_bottom_2, e_X12_bottom_5, e_X12_bottom_6, e_X12_bottom_9, g_143_1, g_143_3, p_143_1, Option.bind_some, Option.isSome_some, Option.toList, List.cons_append, List.nil_append, zclr_i, zclr_r, zclr_n, zfit_i, zfit_l, and_self, if_true, if_false]
  rw [h.tb.2]
theorem q_fault {x : Int32} (h : Inv I J N S) (d : Nat) : Eqv (d + 30) 164 289 [.int x] n m g I J := by
  refine ⟨.int (if x = 0 then I 13 10 else if x = 1 then I 13 11 else -1), I, J, zu I 143 1 0, J, N, S, ?_, ?_, h.thrown⟩
  · rw [m_X11_fault]
    simp only [e_X11_fault_0, e_X11_fault_1, e_X11_fault_4, e_X11_fault_5, e_X11_fault_8, e_X11_fault_11, e_X11_fault_12, e_X11_fault_13, e_X11_fault_14, e_X11_fault_17, e_X11_fault_18, e_X11_fault_21, e_X11_fault_24, e_X11_fault_27, e_X11_fault_28, g_3_6, g_13_10, g_13_11, Option.bind_some, Option.isSome_some, Option.toList, List.cons_append, List.nil_append, zclr_i, zclr_r, zclr_n, zfit_i, zfit_l, and_self, if_true, if_false]
    by_cases h1 : x = 0
    · simp [h1]
    · by_cases h2 : x = 1 <;> simp [h1, h2]
  · rw [m_X12_fault]
    simp only [e_X12_fault_0, e_X12_fault_1, e_X12_fault_2, e_X12_fault_5, e_X12_fault_6, e_X12_fault_9, e_X12_fault_10, e_X12_fault_13, e_X12_fault_16, e_X12_fault_17, e_X12_fault_18, e_X12_fault_21, e_X12_fault_22, e_X12_fault_25, e_X12_fault_28, e_X12_fault_29, g_143_1, g_143_10, g_143_11, p_143_1, Option.bind_some, Option.isSome_some, Option.toList, List.cons_append, List.nil_append, zclr_i, zclr_r, zclr_n, zfit_i, zfit_l, and_self, if_true, if_false]
    rw [h.rd.1, h.rd.2.1]
    simp only [zu_row]
    by_cases h1 : x = 0
    · simp [h1]
    · by_cases h2 : x = 1 <;> simp [h1, h2]
theorem q_wealth {x : Int32} (h : Inv I J N S) (d : Nat) : Eqv (d + 30) 206 389 [.int x] n m g I J := by
  have hW := h.W
  have h12 := hW.h12
  have h6 := hW.h6
  rcases p_cases x N with ⟨p, hp, rfl⟩ | hx
  · by_cases h1 : I (16 + 6) p = -1
    · refine ⟨.int (tRich I 16 p), zu I 3 0 0, J, st 0 I, J, N, S, ?_, ?_, h.stI⟩
      · have hb : I (16 + 7) p = -1 ∨ ∃ s, s < 6 ∧ I (16 + 7) p = nI s := by
          rcases hW.bears p hp with e | ⟨s, hs, e⟩
          · exact Or.inl e
          · exact Or.inr ⟨s, by omega, e⟩
        rw [m_X11_wealth]
        simp only [e_X11_wealth_0, e_X11_wealth_1, e_X11_wealth_4, e_X11_wealth_5, e_X11_wealth_8, e_X11_wealth_11, e_X11_wealth_12, e_X11_wealth_13, e_X11_wealth_16, e_X11_wealth_17, e_X11_wealth_18, e_X11_wealth_21, e_X11_wealth_22, e_X11_wealth_25, e_X11_wealth_28, e_X11_wealth_29, e_X11_wealth_31, e_X11_wealth_34, e_X11_wealth_35, e_X11_wealth_36, e_X11_wealth_37, e_X11_wealth_40, e_X11_wealth_41, e_X11_wealth_44, e_X11_wealth_47, c_3, c_T0 t16, g_3_7, t_hasP_yes t16 hW.hN h12 hp, t_lives t16 (show p < 12 by omega), t_riches t16 (show p < 12 by omega) hb, n_answer, h1, Option.bind_some, Option.isSome_some, Option.toList, List.cons_append, List.nil_append, zclr_i, zclr_r, zclr_n, zfit_i, zfit_l, and_self, if_true, if_false]
        rfl
      · have hR1 : RT I 16 ((zu (zu (zu I 3 0 0) 143 1 0) 143 0 0) 148) N S := h.R
        rw [m_X12_wealth]
        simp only [e_X12_wealth_0, e_X12_wealth_1, e_X12_wealth_2, e_X12_wealth_5, e_X12_wealth_6, e_X12_wealth_7, e_X12_wealth_10, e_X12_wealth_11, e_X12_wealth_12, e_X12_wealth_15, e_X12_wealth_18, e_X12_wealth_19, e_X12_wealth_20, e_X12_wealth_23, e_X12_wealth_24, e_X12_wealth_25, e_X12_wealth_26, e_X12_wealth_29, e_X12_wealth_32, e_X12_wealth_33, e_X12_wealth_34, e_X12_wealth_37, e_X12_wealth_40, e_X12_wealth_41, e_X12_wealth_43, e_X12_wealth_46, c_143, g_143_0, g_143_1, p_143_0, p_143_1, v_isP_yes hW hR1 hp, v_lives hW hR1 hp, v_wealthOf hW hR1 hp, h1, Option.bind_some, Option.isSome_some, Option.toList, List.cons_append, List.nil_append, zclr_i, zclr_r, zclr_n, zfit_i, zfit_l, and_self, if_true, if_false]
        rfl
    · refine ⟨.int (-1), zu I 3 0 9, J, st 9 I, J, N, S, ?_, ?_, h.stI⟩
      · rw [m_X11_wealth]
        simp only [e_X11_wealth_0, e_X11_wealth_1, e_X11_wealth_4, e_X11_wealth_5, e_X11_wealth_8, e_X11_wealth_11, e_X11_wealth_12, e_X11_wealth_13, e_X11_wealth_16, e_X11_wealth_17, e_X11_wealth_18, e_X11_wealth_21, e_X11_wealth_22, e_X11_wealth_25, e_X11_wealth_28, e_X11_wealth_29, e_X11_wealth_31, e_X11_wealth_34, e_X11_wealth_35, e_X11_wealth_36, e_X11_wealth_37, e_X11_wealth_40, e_X11_wealth_41, e_X11_wealth_44, e_X11_wealth_47, c_3, c_T0 t16, g_3_7, t_hasP_yes t16 hW.hN h12 hp, t_lives t16 (show p < 12 by omega), n_refuse, h1, Option.bind_some, Option.isSome_some, Option.toList, List.cons_append, List.nil_append, zclr_i, zclr_r, zclr_n, zfit_i, zfit_l, and_self, if_true, if_false]
        rfl
      · have hR1 : RT I 16 ((zu (zu (zu I 3 0 9) 143 1 0) 143 0 0) 148) N S := h.R
        rw [m_X12_wealth]
        simp only [e_X12_wealth_0, e_X12_wealth_1, e_X12_wealth_2, e_X12_wealth_5, e_X12_wealth_6, e_X12_wealth_7, e_X12_wealth_10, e_X12_wealth_11, e_X12_wealth_12, e_X12_wealth_15, e_X12_wealth_18, e_X12_wealth_19, e_X12_wealth_20, e_X12_wealth_23, e_X12_wealth_24, e_X12_wealth_25, e_X12_wealth_26, e_X12_wealth_29, e_X12_wealth_32, e_X12_wealth_33, e_X12_wealth_34, e_X12_wealth_37, e_X12_wealth_40, e_X12_wealth_41, e_X12_wealth_43, e_X12_wealth_46, c_143, g_143_0, g_143_1, p_143_0, p_143_1, v_isP_yes hW hR1 hp, v_lives hW hR1 hp, v_refuse, h1, st_eq, Option.bind_some, Option.isSome_some, Option.toList, List.cons_append, List.nil_append, zclr_i, zclr_r, zclr_n, zfit_i, zfit_l, and_self, if_true, if_false]
        rfl
  · refine ⟨.int (-1), zu I 3 0 2, J, st 2 I, J, N, S, ?_, ?_, h.stI⟩
    · rw [m_X11_wealth]
      simp only [e_X11_wealth_0, e_X11_wealth_1, e_X11_wealth_4, e_X11_wealth_5, e_X11_wealth_8, e_X11_wealth_11, e_X11_wealth_12, e_X11_wealth_13, e_X11_wealth_16, e_X11_wealth_17, e_X11_wealth_18, e_X11_wealth_21, e_X11_wealth_22, e_X11_wealth_25, e_X11_wealth_28, e_X11_wealth_29, e_X11_wealth_31, e_X11_wealth_34, e_X11_wealth_35, e_X11_wealth_36, e_X11_wealth_37, e_X11_wealth_40, e_X11_wealth_41, e_X11_wealth_44, e_X11_wealth_47, c_3, c_T0 t16, g_3_7, t_hasP_no t16 hW.hN h12 hx, n_refuse, Option.bind_some, Option.isSome_some, Option.toList, List.cons_append, List.nil_append, zclr_i, zclr_r, zclr_n, zfit_i, zfit_l, and_self, if_true, if_false]
    · have hR1 : RT I 16 ((zu (zu (zu I 3 0 2) 143 1 0) 143 0 0) 148) N S := h.R
      rw [m_X12_wealth]
      simp only [e_X12_wealth_0, e_X12_wealth_1, e_X12_wealth_2, e_X12_wealth_5, e_X12_wealth_6, e_X12_wealth_7, e_X12_wealth_10, e_X12_wealth_11, e_X12_wealth_12, e_X12_wealth_15, e_X12_wealth_18, e_X12_wealth_19, e_X12_wealth_20, e_X12_wealth_23, e_X12_wealth_24, e_X12_wealth_25, e_X12_wealth_26, e_X12_wealth_29, e_X12_wealth_32, e_X12_wealth_33, e_X12_wealth_34, e_X12_wealth_37, e_X12_wealth_40, e_X12_wealth_41, e_X12_wealth_43, e_X12_wealth_46, c_143, g_143_0, g_143_1, p_143_0, p_143_1, v_isP_no hW hR1 hx, v_refuse, st_eq, Option.bind_some, Option.isSome_some, Option.toList, List.cons_append, List.nil_append, zclr_i, zclr_r, zclr_n, zfit_i, zfit_l, and_self, if_true, if_false]
end EQ
