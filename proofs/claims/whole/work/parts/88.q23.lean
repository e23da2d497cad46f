/-! CALLS: feed -/
section QY
variable {n m : Nat} {g : Nat → zC} {I I2 A : Nat → Nat → Int32} {J J2 : Nat → Nat → Int64} {N S : Nat}
/-- a memory with the row a and the cell (b, k) put in place -/
def mF (a b k : Nat) (I : Nat → Nat → Int32) (r : Nat → Int32) (c : Int32) : Nat → Nat → Int32 := zu (zr I a r) b k c
theorem mF_row {a b k : Nat} {r : Nat → Int32} {c : Int32} (h : a ≠ b) : mF a b k I r c a = r := by
  unfold mF
  rw [zu_far _ _ _ h, zr_same]
theorem mF_cell {a b k : Nat} {r : Nat → Int32} {c : Int32} : mF a b k I r c b k = c := by
  unfold mF
  rw [zu_row, if_pos rfl]
theorem mF_put {a b k l : Nat} {r : Nat → Int32} {c x : Int32} (h : a ≠ b) : zu (mF a b k I r c) a l x = mF a b k I (fu r l x) c := by
  unfold mF
  rw [zu_comm _ _ _ _ _ _ _ (Ne.symm h), zu_zr]
theorem mF_set {a b k : Nat} {r : Nat → Int32} {c x : Int32} : zu (mF a b k I r c) b k x = mF a b k I r x := by
  unfold mF
  rw [zu_zu]
theorem mF_id {a b k : Nat} (h : a ≠ b) : mF a b k I (I a) (I b k) = I := by
  unfold mF
  rw [zr_id, zu_self _ _ _ _ rfl]
def tb (x s : Int32) : Int32 := (x >>> (s &&& 31)).toInt8.toInt32.toInt8.toInt32
def put4 (r : Nat → Int32) (T : Nat) (x : Int32) : Nat → Int32 := fu (fu (fu (fu r T (tb x 24)) (T + 1) (tb x 16)) (T + 1 + 1) (tb x 8)) (T + 1 + 1 + 1) (tb x 0)
theorem n_put1 {T : Nat} {x s : Int32} {r : Nat → Int32} (hs : ¬ s < 0) (hT : T < 900) (d : Nat) : zexec d 224 3 [some (.ref 3), some (.int x), some (.int s)] [] (mk n m g (mF 12 3 5 I r (nI T)) J) = zexec d 224 3 [some (.ref 3), some (.int x), some (.int (s + -8))] [] (mk n m g (mF 12 3 5 I (fu r T (tb x s)) (nI (T + 1))) J) := by
  have h5 : ∀ {r : Nat → Int32} {c : Int32}, zgf (mk n m g (mF 12 3 5 I r c) J) 3 11 5 = some (.int c) := fun {r c} => by rw [g_3_5, mF_cell]
  have hp : ∀ {r : Nat → Int32} {c x : Int32}, zpf (mk n m g (mF 12 3 5 I r c) J) 3 5 (.int x) = mk n m g (mF 12 3 5 I r x) J := fun {r c x} => by rw [p_3_5, mF_set]
  have hq : ∀ {r : Nat → Int32} {c x : Int32} {k : Nat}, zqb (mk n m g (mF 12 3 5 I r c) J) 12 k x = mk n m g (mF 12 3 5 I (fu r k x) c) J := fun {r c x k} => by rw [q_12, mF_put (by decide)]
  rw [e_X11_putOnTape_3]
  simp only [e_X11_putOnTape_0, e_X11_putOnTape_2, e_X11_putOnTape_4, e_X11_putOnTape_7, e_X11_putOnTape_8, e_X11_putOnTape_11, e_X11_putOnTape_12, e_X11_putOnTape_15, e_X11_putOnTape_16, e_X11_putOnTape_17, e_X11_putOnTape_18, e_X11_putOnTape_19, e_X11_putOnTape_20, e_X11_putOnTape_21, e_X11_putOnTape_22, e_X11_putOnTape_25, e_X11_putOnTape_26, e_X11_putOnTape_27, e_X11_putOnTape_30, e_X11_putOnTape_33, e_X11_putOnTape_36, g_3_4, h5, hp, hq, if_neg hs, nI_1, nI_neg (show T < 2 ^ 31 by omega), nI_clamp (show T < 2 ^ 31 by omega), k_12 hT, Option.bind_some, Option.isSome_some, Option.toList, List.cons_append, List.nil_append, zclr_i, zclr_r, zclr_n, zfit_i, zfit_l, and_self, if_true, if_false]
  rfl
theorem n_put {T : Nat} {x : Int32} {r : Nat → Int32} (hT : T + 4 ≤ 900) (d : Nat) : zcall d 224 [.ref 3, .int x] (mk n m g (mF 12 3 5 I r (nI T)) J) = some (none, mk n m g (mF 12 3 5 I (put4 r T x) (nI (T + 4))) J) := by
  rw [m_X11_putOnTape]
  simp only [e_X11_putOnTape_0, e_X11_putOnTape_2, e_X11_putOnTape_4, e_X11_putOnTape_7, e_X11_putOnTape_8, e_X11_putOnTape_11, e_X11_putOnTape_12, e_X11_putOnTape_15, e_X11_putOnTape_16, e_X11_putOnTape_17, e_X11_putOnTape_18, e_X11_putOnTape_19, e_X11_putOnTape_20, e_X11_putOnTape_21, e_X11_putOnTape_22, e_X11_putOnTape_25, e_X11_putOnTape_26, e_X11_putOnTape_27, e_X11_putOnTape_30, e_X11_putOnTape_33, e_X11_putOnTape_36, Option.bind_some, Option.isSome_some, Option.toList, List.cons_append, List.nil_append, zclr_i, zclr_r, zclr_n, zfit_i, zfit_l, and_self, if_true, if_false]
  rw [n_put1 (by decide) (by omega)]
  rw [show (24 : Int32) + -8 = 16 from rfl, n_put1 (by decide) (by omega)]
  rw [show (16 : Int32) + -8 = 8 from rfl, n_put1 (by decide) (by omega)]
  rw [show (8 : Int32) + -8 = 0 from rfl, n_put1 (by decide) (by omega)]
  rw [show (0 : Int32) + -8 = -8 from rfl, e_X11_putOnTape_3]
  simp only [e_X11_putOnTape_0, e_X11_putOnTape_2, e_X11_putOnTape_4, e_X11_putOnTape_7, e_X11_putOnTape_8, e_X11_putOnTape_11, e_X11_putOnTape_12, e_X11_putOnTape_15, e_X11_putOnTape_16, e_X11_putOnTape_17, e_X11_putOnTape_18, e_X11_putOnTape_19, e_X11_putOnTape_20, e_X11_putOnTape_21, e_X11_putOnTape_22, e_X11_putOnTape_25, e_X11_putOnTape_26, e_X11_putOnTape_27, e_X11_putOnTape_30, e_X11_putOnTape_33, e_X11_putOnTape_36, if_pos (show (-8 : Int32) < 0 by decide), Option.bind_some, Option.isSome_some, Option.toList, List.cons_append, List.nil_append, zclr_i, zclr_r, zclr_n, zfit_i, zfit_l, and_self, if_true, if_false]
  rfl
theorem v_lay1 {T : Nat} {x s : Int32} {r : Nat → Int32} (hs : ¬ s < 0) (hT : T < 900) (d : Nat) : zexec d 286 2 [some (.ref 143), some (.int x), some (.int s)] [] (mk n m g (mF 147 143 8 I r (nI T)) J) = zexec d 286 2 [some (.ref 143), some (.int x), some (.int (s + -1))] [] (mk n m g (mF 147 143 8 I (fu r T (tb x (8 * s))) (nI (T + 1))) J) := by
  have h5 : ∀ {r : Nat → Int32} {c : Int32}, zgf (mk n m g (mF 147 143 8 I r c) J) 143 12 8 = some (.int c) := fun {r c} => by rw [g_143_8, mF_cell]
  have hp : ∀ {r : Nat → Int32} {c x : Int32}, zpf (mk n m g (mF 147 143 8 I r c) J) 143 8 (.int x) = mk n m g (mF 147 143 8 I r x) J := fun {r c x} => by rw [p_143_8, mF_set]
  have hq : ∀ {r : Nat → Int32} {c x : Int32} {k : Nat}, zqb (mk n m g (mF 147 143 8 I r c) J) 147 k x = mk n m g (mF 147 143 8 I (fu r k x) c) J := fun {r c x k} => by rw [q_147, mF_put (by decide)]
  rw [e_X12_lay_2]
  simp only [e_X12_lay_0, e_X12_lay_1, e_X12_lay_3, e_X12_lay_6, e_X12_lay_7, e_X12_lay_10, e_X12_lay_11, e_X12_lay_14, e_X12_lay_15, e_X12_lay_17, e_X12_lay_18, e_X12_lay_19, e_X12_lay_20, e_X12_lay_21, e_X12_lay_22, e_X12_lay_23, e_X12_lay_24, e_X12_lay_27, e_X12_lay_28, e_X12_lay_29, e_X12_lay_32, e_X12_lay_35, e_X12_lay_38, g_143_7, h5, hp, hq, if_neg hs, nI_1, nI_neg (show T < 2 ^ 31 by omega), nI_clamp (show T < 2 ^ 31 by omega), k_147 hT, Option.bind_some, Option.isSome_some, Option.toList, List.cons_append, List.nil_append, zclr_i, zclr_r, zclr_n, zfit_i, zfit_l, and_self, if_true, if_false]
  rfl
theorem v_lay {T : Nat} {x : Int32} {r : Nat → Int32} (hT : T + 4 ≤ 900) (d : Nat) : zcall d 286 [.ref 143, .int x] (mk n m g (mF 147 143 8 I r (nI T)) J) = some (none, mk n m g (mF 147 143 8 I (put4 r T x) (nI (T + 4))) J) := by
  rw [m_X12_lay]
  simp only [e_X12_lay_0, e_X12_lay_1, e_X12_lay_3, e_X12_lay_6, e_X12_lay_7, e_X12_lay_10, e_X12_lay_11, e_X12_lay_14, e_X12_lay_15, e_X12_lay_17, e_X12_lay_18, e_X12_lay_19, e_X12_lay_20, e_X12_lay_21, e_X12_lay_22, e_X12_lay_23, e_X12_lay_24, e_X12_lay_27, e_X12_lay_28, e_X12_lay_29, e_X12_lay_32, e_X12_lay_35, e_X12_lay_38, Option.bind_some, Option.isSome_some, Option.toList, List.cons_append, List.nil_append, zclr_i, zclr_r, zclr_n, zfit_i, zfit_l, and_self, if_true, if_false]
  rw [v_lay1 (by decide) (by omega)]
  rw [show (3 : Int32) + -1 = 2 from rfl, v_lay1 (by decide) (by omega)]
  rw [show (2 : Int32) + -1 = 1 from rfl, v_lay1 (by decide) (by omega)]
  rw [show (1 : Int32) + -1 = 0 from rfl, v_lay1 (by decide) (by omega)]
  rw [show (0 : Int32) + -1 = -1 from rfl, e_X12_lay_2]
  simp only [e_X12_lay_0, e_X12_lay_1, e_X12_lay_3, e_X12_lay_6, e_X12_lay_7, e_X12_lay_10, e_X12_lay_11, e_X12_lay_14, e_X12_lay_15, e_X12_lay_17, e_X12_lay_18, e_X12_lay_19, e_X12_lay_20, e_X12_lay_21, e_X12_lay_22, e_X12_lay_23, e_X12_lay_24, e_X12_lay_27, e_X12_lay_28, e_X12_lay_29, e_X12_lay_32, e_X12_lay_35, e_X12_lay_38, if_pos (show (-1 : Int32) < 0 by decide), Option.bind_some, Option.isSome_some, Option.toList, List.cons_append, List.nil_append, zclr_i, zclr_r, zclr_n, zfit_i, zfit_l, and_self, if_true, if_false]
  rfl
def put20 (r : Nat → Int32) (T : Nat) (a b c e f : Int32) : Nat → Int32 := put4 (put4 (put4 (put4 (put4 r T a) (T + 4) b) (T + 4 + 4) c) (T + 4 + 4 + 4) e) (T + 4 + 4 + 4 + 4) f
theorem put4_eq {r r' : Nat → Int32} {T : Nat} {x : Int32} (h : ∀ k, k < 900 → r k = r' k) : ∀ k, k < 900 → put4 r T x k = put4 r' T x k := by
  intro k hk
  unfold put4 fu
  simp only [h k hk]
theorem isB_tb {x s : Int32} : isB (tb x s) := by
  unfold isB tb
  simp only [Int8.toInt8_toInt32]
theorem isB_fu {r : Nat → Int32} {k : Nat} {v : Int32} (h : ∀ k, k < 900 → isB (r k)) (hv : isB v) : ∀ j, j < 900 → isB (fu r k v j) := by
  intro j hj
  unfold fu
  split
  · exact hv
  · exact h j hj
theorem put4_B {r : Nat → Int32} {T : Nat} {x : Int32} (h : ∀ k, k < 900 → isB (r k)) : ∀ k, k < 900 → isB (put4 r T x k) := by
  unfold put4
  exact isB_fu (isB_fu (isB_fu (isB_fu h isB_tb) isB_tb) isB_tb) isB_tb
/-- the tape alone is another -/
theorem Inv.tp (h : Inv I J N S) (hI : ∀ a, a ≠ 3 → a ≠ 12 → a ≠ 143 → a ≠ 147 → I2 a = I a) (h3 : ∀ k, k ≠ 5 → I2 3 k = I 3 k) (h143 : ∀ k, k ≠ 1 → k ≠ 8 → I2 143 k = I 143 k) (ht : tapeOk I2) : Inv I2 J N S := by
  refine h.build (fun a ha => hI a (keepB_ne ha rfl) (keepB_ne ha rfl) (keepB_ne ha rfl) (keepB_ne ha rfl)) (fun _ _ => rfl) ?_ h.tb ?_ ht ?_ ?_ ?_ ?_ ?_
  · rw [h3 0 (by decide), h143 0 (by decide) (by decide)]; exact h.stq
  · have := h.tray
    unfold trayOk yWellT at *
    rw [hI 5 (by decide) (by decide) (by decide) (by decide), hI 6 (by decide) (by decide) (by decide) (by decide), hI 144 (by decide) (by decide) (by decide) (by decide), hI 145 (by decide) (by decide) (by decide) (by decide)]
    exact this
  · unfold readOk
    rw [h143 10 (by decide) (by decide), h143 11 (by decide) (by decide), hI 13 (by decide) (by decide) (by decide) (by decide)]
    exact h.rd
  · unfold pointOk
    rw [hI 71 (by decide) (by decide) (by decide) (by decide)]
    exact h.pt
  · unfold lifeOk
    rw [h143 34 (by decide) (by decide), hI 62 (by decide) (by decide) (by decide) (by decide), hI 157 (by decide) (by decide) (by decide) (by decide)]
    exact h.life
  · rw [h3 17 (by decide)]
  · rw [h143 24 (by decide) (by decide)]
theorem q_feed {a b c e f : Int32} (h : Inv I J N S) (d : Nat) : Eqv (d + 30) 161 285 [.int a, .int b, .int c, .int e, .int f] n m g I J := by
  obtain ⟨ht, hB, T, hT, e3, e143⟩ := h.tape
  have a20 : nI T + 20 = nI (T + 20) := nI_add T 20
  by_cases hr : T + 20 ≤ 900
  · have hle : nI (T + 20) ≤ 900 := by
      have : nI (T + 20) ≤ nI 900 := by rw [nI_leq (by omega) (by decide)]; exact hr
      exact this
    have m1 : mk n m g I J = mk n m g (mF 12 3 5 I (I 12) (nI T)) J := by rw [← e3, mF_id (by decide)]
    refine ⟨.int (nI (T + 4 + 4 + 4 + 4 + 4)), mF 12 3 5 I (put20 (I 12) T a b c e f) (nI (T + 4 + 4 + 4 + 4 + 4)), J, mF 147 143 8 (zu (mF 12 3 5 I (put20 (I 12) T a b c e f) (nI (T + 4 + 4 + 4 + 4 + 4))) 143 1 0) (put20 (I 147) T a b c e f) (nI (T + 4 + 4 + 4 + 4 + 4)), J, N, S, ?_, ?_, ?_⟩
    · rw [m_X11_feed]
      simp only [e_X11_feed_0, e_X11_feed_1, e_X11_feed_4, e_X11_feed_6, e_X11_feed_7, e_X11_feed_10, e_X11_feed_13, e_X11_feed_14, g_3_5, e3, a20, if_pos hle, Option.bind_some, Option.isSome_some, Option.toList, List.cons_append, List.nil_append, zclr_i, zclr_r, zclr_n, zfit_i, zfit_l, and_self, if_true, if_false]
      rw [m1]
      simp only [e_X11_feed_15, e_X11_feed_16, e_X11_feed_17, e_X11_feed_20, e_X11_feed_21, e_X11_feed_22, e_X11_feed_25, e_X11_feed_26, e_X11_feed_27, e_X11_feed_30, e_X11_feed_31, e_X11_feed_33, e_X11_feed_36, e_X11_feed_37, e_X11_feed_39, e_X11_feed_42, e_X11_feed_43, e_X11_feed_46, c_3, g_3_5, n_put (show T + 4 ≤ 900 by omega), n_put (show T + 4 + 4 ≤ 900 by omega), n_put (show T + 4 + 4 + 4 ≤ 900 by omega), n_put (show T + 4 + 4 + 4 + 4 ≤ 900 by omega), n_put (show T + 4 + 4 + 4 + 4 + 4 ≤ 900 by omega), mF_cell, Option.bind_some, Option.isSome_some, Option.toList, List.cons_append, List.nil_append, zclr_i, zclr_r, zclr_n, zfit_i, zfit_l, and_self, if_true, if_false]
      rfl
    · have k1 : (mF 12 3 5 I (put20 (I 12) T a b c e f) (nI (T + 4 + 4 + 4 + 4 + 4))) 143 8 = nI T := by
        unfold mF
        rw [zu_far _ _ _ (by decide), zr_far _ _ (by decide), e143]
      have k2 : (mF 12 3 5 I (put20 (I 12) T a b c e f) (nI (T + 4 + 4 + 4 + 4 + 4))) 147 = I 147 := by
        unfold mF
        rw [zu_far _ _ _ (by decide), zr_far _ _ (by decide)]
      have m2 : mk n m g (zu (mF 12 3 5 I (put20 (I 12) T a b c e f) (nI (T + 4 + 4 + 4 + 4 + 4))) 143 1 0) J = mk n m g (mF 147 143 8 (zu (mF 12 3 5 I (put20 (I 12) T a b c e f) (nI (T + 4 + 4 + 4 + 4 + 4))) 143 1 0) (I 147) (nI T)) J := by
        have k3 : zu (mF 12 3 5 I (put20 (I 12) T a b c e f) (nI (T + 4 + 4 + 4 + 4 + 4))) 143 1 0 147 = I 147 := by rw [zu_far _ _ _ (by decide), k2]
        have k4 : zu (mF 12 3 5 I (put20 (I 12) T a b c e f) (nI (T + 4 + 4 + 4 + 4 + 4))) 143 1 0 143 8 = nI T := by rw [zu_row, if_neg (by decide), k1]
        rw [← k3, ← k4, mF_id (by decide)]
      rw [m_X12_feed]
      simp only [e_X12_feed_0, e_X12_feed_1, e_X12_feed_2, e_X12_feed_5, e_X12_feed_6, e_X12_feed_9, e_X12_feed_11, e_X12_feed_12, e_X12_feed_15, e_X12_feed_18, e_X12_feed_19, g_143_1, g_143_8, p_143_1, zu_row, k1, a20, if_pos hle, if_neg (show ¬ (8 = 1) by decide), Option.bind_some, Option.isSome_some, Option.toList, List.cons_append, List.nil_append, zclr_i, zclr_r, zclr_n, zfit_i, zfit_l, and_self, if_true, if_false]
      rw [m2]
      simp only [e_X12_feed_20, e_X12_feed_21, e_X12_feed_22, e_X12_feed_25, e_X12_feed_26, e_X12_feed_27, e_X12_feed_30, e_X12_feed_31, e_X12_feed_32, e_X12_feed_35, e_X12_feed_36, e_X12_feed_38, e_X12_feed_41, e_X12_feed_42, e_X12_feed_44, e_X12_feed_47, e_X12_feed_48, e_X12_feed_51, c_143, g_143_8, v_lay (show T + 4 ≤ 900 by omega), v_lay (show T + 4 + 4 ≤ 900 by omega), v_lay (show T + 4 + 4 + 4 ≤ 900 by omega), v_lay (show T + 4 + 4 + 4 + 4 ≤ 900 by omega), v_lay (show T + 4 + 4 + 4 + 4 + 4 ≤ 900 by omega), mF_cell, Option.bind_some, Option.isSome_some, Option.toList, List.cons_append, List.nil_append, zclr_i, zclr_r, zclr_n, zfit_i, zfit_l, and_self, if_true, if_false]
      rfl
    · refine h.tp (fun x x3 x12 x143 x147 => ?_) (fun k hk => ?_) (fun k k1 k8 => ?_) ⟨fun k hk => ?_, fun k hk => ?_, T + 4 + 4 + 4 + 4 + 4, by omega, ?_, ?_⟩
      · unfold mF
        rw [zu_far _ _ _ x143, zr_far _ _ x147, zu_far _ _ _ x143, zu_far _ _ _ x3, zr_far _ _ x12]
      · unfold mF
        rw [zu_far _ _ _ (by decide), zr_far _ _ (by decide), zu_far _ _ _ (by decide), zu_row, if_neg hk, zr_far _ _ (by decide)]
      · unfold mF
        rw [zu_row, if_neg k8, zr_far _ _ (by decide), zu_row, if_neg k1, zu_far _ _ _ (by decide), zr_far _ _ (by decide)]
      · rw [mF_row (by decide)]
        have : mF 147 143 8 (zu (mF 12 3 5 I (put20 (I 12) T a b c e f) (nI (T + 4 + 4 + 4 + 4 + 4))) 143 1 0) (put20 (I 147) T a b c e f) (nI (T + 4 + 4 + 4 + 4 + 4)) 12 = put20 (I 12) T a b c e f := by
          unfold mF
          rw [zu_far _ _ _ (by decide), zr_far _ _ (by decide), zu_far _ _ _ (by decide), zu_far _ _ _ (by decide), zr_same]
        rw [this]
        exact put4_eq (put4_eq (put4_eq (put4_eq (put4_eq ht)))) k hk
      · have : mF 147 143 8 (zu (mF 12 3 5 I (put20 (I 12) T a b c e f) (nI (T + 4 + 4 + 4 + 4 + 4))) 143 1 0) (put20 (I 147) T a b c e f) (nI (T + 4 + 4 + 4 + 4 + 4)) 12 = put20 (I 12) T a b c e f := by
          unfold mF
          rw [zu_far _ _ _ (by decide), zr_far _ _ (by decide), zu_far _ _ _ (by decide), zu_far _ _ _ (by decide), zr_same]
        rw [this]
        exact put4_B (put4_B (put4_B (put4_B (put4_B hB)))) k hk
      · unfold mF
        rw [zu_far _ _ _ (by decide), zr_far _ _ (by decide), zu_far _ _ _ (by decide), zu_row, if_pos rfl]
      · exact mF_cell
  · have hle : ¬ nI (T + 20) ≤ 900 := by
      have : ¬ nI (T + 20) ≤ nI 900 := by rw [nI_leq (by omega) (by decide)]; exact hr
      exact this
    refine ⟨.int (-1), I, J, zu I 143 1 0, J, N, S, ?_, ?_, h.thrown⟩
    · rw [m_X11_feed]
      simp only [e_X11_feed_0, e_X11_feed_1, e_X11_feed_4, e_X11_feed_6, e_X11_feed_7, e_X11_feed_10, e_X11_feed_13, e_X11_feed_14, g_3_5, e3, a20, if_neg hle, Option.bind_some, Option.isSome_some, Option.toList, List.cons_append, List.nil_append, zclr_i, zclr_r, zclr_n, zfit_i, zfit_l, and_self, if_true, if_false]
    · rw [m_X12_feed]
      simp only [e_X12_feed_0, e_X12_feed_1, e_X12_feed_2, e_X12_feed_5, e_X12_feed_6, e_X12_feed_9, e_X12_feed_11, e_X12_feed_12, e_X12_feed_15, e_X12_feed_18, e_X12_feed_19, g_143_1, g_143_8, p_143_1, zu_row, e143, a20, if_neg hle, if_neg (show ¬ (8 = 1) by decide), Option.bind_some, Option.isSome_some, Option.toList, List.cons_append, List.nil_append, zclr_i, zclr_r, zclr_n, zfit_i, zfit_l, and_self, if_true, if_false]
end QY
