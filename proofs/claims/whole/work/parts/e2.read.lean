/-! WHAT IS MADE: trays, the reader -/
section PJS
variable {g : Nat → zC} {ps qs : List zC} {c : zC} {m a i k n ci : Nat} {v : Value} {x : Int32} {f : Nat → Int32} {fl : Nat → Int64} {t : FieldType} {h : zH}
theorem ph_qi (ha : 3 + ps.length = a) (hi : i < qs.length) (hc : qs[i]? = some (.inl (.int, n, .inl f))) : zqi (PH g (ps ++ qs) m) (a + i) k x = PH g (ps ++ qs.set i (.inl (.int, n, .inl (upd f k x)))) m := by
  have e : (PH g (ps ++ qs) m).2.2 (a + i) = .inl (.int, n, .inl f) := by rw [ph_at ha, hc]; rfl
  have e2 : zqi (PH g (ps ++ qs) m) (a + i) k x = (3 + (ps ++ qs).length, m, zup (PH g (ps ++ qs) m).2.2 (a + i) (.inl (.int, n, .inl (upd f k x)))) := by
    unfold zqi
    rw [e]
    rfl
  rw [e2]
  exact ph_up ha hi _
theorem ph_ig (ha : 3 + ps.length = a) (hc : qs[i]? = some (.inl (.int, n, .inl f))) (hk : k < n) : zig (PH g (ps ++ qs) m) (a + i) k = some (f k) := zig_c (by rw [ph_at ha, hc]; rfl) hk
theorem ph_ln (ha : 3 + ps.length = a) (hc : qs[i]? = some (.inl (.int, n, .inl f))) : zlen (PH g (ps ++ qs) m) (a + i) = some n := by
  have e : (PH g (ps ++ qs) m).2.2 (a + i) = .inl (.int, n, .inl f) := by rw [ph_at ha, hc]; rfl
  simp [zlen, e]
theorem ph_ql {y : Int64} (ha : 3 + ps.length = a) (hi : i < qs.length) (hc : qs[i]? = some (.inl (.long, n, .inr (.inl fl)))) : zql (PH g (ps ++ qs) m) (a + i) k y = PH g (ps ++ qs.set i (.inl (.long, n, .inr (.inl (vp_updL fl k y))))) m := by
  have e : (PH g (ps ++ qs) m).2.2 (a + i) = .inl (.long, n, .inr (.inl fl)) := by rw [ph_at ha, hc]; rfl
  have e2 : zql (PH g (ps ++ qs) m) (a + i) k y = (3 + (ps ++ qs).length, m, zup (PH g (ps ++ qs) m).2.2 (a + i) (.inl (.long, n, .inr (.inl (vp_updL fl k y))))) := by
    unfold zql
    rw [e]
    rfl
  rw [e2]
  exact ph_up ha hi _
theorem ph_lg (ha : 3 + ps.length = a) (hc : qs[i]? = some (.inl (.long, n, .inr (.inl fl)))) (hk : k < n) : zlg (PH g (ps ++ qs) m) (a + i) k = some (fl k) := zlg_c (by rw [ph_at ha, hc]; rfl) hk
/-- new long[4][60] -/
def gridL (a : Nat) : List zC := [.inl (.array .long, 4, .inr (.inr (.inr (.inr (fun i => if i < 4 then some (a + 1 + i) else none))))), .inl (.long, 60, .inr (.inl (fun _ => 0))), .inl (.long, 60, .inr (.inl (fun _ => 0))), .inl (.long, 60, .inr (.inl (fun _ => 0))), .inl (.long, 60, .inr (.inl (fun _ => 0)))]
theorem ph_newg (ha : 3 + ps.length = a) : znewg (PH g ps m) 4 60 = PH g (ps ++ gridL a) (m + 244) := by
  have e : (PH g ps m).1 = a := ha
  unfold znewg
  rw [e]
  unfold PH
  refine Prod.ext ?_ (Prod.ext rfl (funext fun b => ?_))
  · show a + (1 + 4) = 3 + (ps ++ gridL a).length
    rw [List.length_append, show (gridL a).length = 5 from rfl]
    omega
  · show (if b = a then _ else if a < b ∧ b < a + 1 + 4 then _ else if b < 3 then g b else (ps[b - 3]?).getD (g b)) = if b < 3 then g b else ((ps ++ gridL a)[b - 3]?).getD (g b)
    by_cases h : b < a
    · rw [if_neg (by omega), if_neg (by omega)]
      by_cases h3 : b < 3
      · rw [if_pos h3, if_pos h3]
      · rw [if_neg h3, if_neg h3, List.getElem?_append_left (by omega)]
    · have hR : (if b < 3 then g b else ((ps ++ gridL a)[b - 3]?).getD (g b)) = ((gridL a)[b - a]?).getD (g b) := by rw [if_neg (by omega), List.getElem?_append_right (by omega), show b - 3 - ps.length = b - a by omega]
      rw [hR]
      by_cases h5 : b < a + 5
      · obtain ⟨j, rfl⟩ : ∃ j, b = a + j := ⟨b - a, by omega⟩
        have hj : j = 0 ∨ j = 1 ∨ j = 2 ∨ j = 3 ∨ j = 4 := by omega
        rw [show a + j - a = j by omega]
        rcases hj with rfl | rfl | rfl | rfl | rfl
        · rw [if_pos (by omega)]
          rfl
        · rw [if_neg (by omega), if_pos (by omega)]
          rfl
        · rw [if_neg (by omega), if_pos (by omega)]
          rfl
        · rw [if_neg (by omega), if_pos (by omega)]
          rfl
        · rw [if_neg (by omega), if_pos (by omega)]
          rfl
      · rw [if_neg (by omega), if_neg (by omega), if_neg (by omega), List.getElem?_eq_none (l := gridL a) (by show 5 ≤ _; omega), List.getElem?_eq_none (by omega)]
def fill4 : Nat → Int32 := upd (upd (upd (upd (fun _ => 0) 0 (-1)) 1 (-1)) 2 (-1)) 3 (-1)
theorem ph_fill (ha : 3 + ps.length = a) {c0 c1 : zC} {r : List zC} (d : Nat) : zcall d 421 [.ref (a + 2), .int (-1)] (PH g (ps ++ c0 :: c1 :: .inl (.int, 4, .inl (fun _ => 0)) :: r) m) = some (none, PH g (ps ++ c0 :: c1 :: .inl (.int, 4, .inl fill4) :: r) m) := by
  have q : ∀ (f : Nat → Int32) k x, zqi (PH g (ps ++ c0 :: c1 :: .inl (.int, 4, .inl f) :: r) m) (a + 2) k x = PH g (ps ++ c0 :: c1 :: .inl (.int, 4, .inl (upd f k x)) :: r) m := fun f k x => ph_qi (i := 2) ha (by simp) rfl
  have l : ∀ (f : Nat → Int32), zlen (PH g (ps ++ c0 :: c1 :: .inl (.int, 4, .inl f) :: r) m) (a + 2) = some 4 := fun f => ph_ln (i := 2) ha rfl
  have ig : ∀ (f : Nat → Int32) k, k < 4 → zig (PH g (ps ++ c0 :: c1 :: .inl (.int, 4, .inl f) :: r) m) (a + 2) k = some (f k) := fun f k hk => ph_ig (i := 2) ha rfl hk
  have st : ∀ (f : Nat → Int32) k, k < 4 → zexec d 421 5 [some (.ref (a + 2)), some (.int (-1)), some (.int (nI k)), some (.int 4)] [] (PH g (ps ++ c0 :: c1 :: .inl (.int, 4, .inl f) :: r) m) = zexec d 421 5 [some (.ref (a + 2)), some (.int (-1)), some (.int (nI (k + 1))), some (.int 4)] [] (PH g (ps ++ c0 :: c1 :: .inl (.int, 4, .inl (upd f k (-1))) :: r) m) := fun f k hk => by
    rw [e_J7_fill_53178_5]
    simp only [e_J7_fill_53178_6, e_J7_fill_53178_7, e_J7_fill_53178_10, e_J7_fill_53178_11, e_J7_fill_53178_12, e_J7_fill_53178_13, e_J7_fill_53178_14, e_J7_fill_53178_17, eq_false (show ¬ (4 : Int32) ≤ nI k from nI_ge (b := 4) hk (by decide)), nI_neg (show k < 2 ^ 31 by omega), nI_clamp (show k < 2 ^ 31 by omega), ig f k hk, q, nI_1, Option.bind_some, Option.isSome_some, Option.toList, List.cons_append, List.nil_append, zclr_i, zclr_r, zclr_n, zfit_i, zfit_l, and_self, if_true, if_false]
  rw [m_J7_fill_53178]
  simp only [e_J7_fill_53178_0, e_J7_fill_53178_1, e_J7_fill_53178_2, e_J7_fill_53178_3, e_J7_fill_53178_4, l, show Int32.ofNat 4 = 4 from rfl, Option.bind_some, Option.isSome_some, Option.toList, List.cons_append, List.nil_append, zclr_i, zclr_r, zclr_n, zfit_i, zfit_l, and_self, if_true, if_false]
  refine (st _ 0 (by decide)).trans ((st _ 1 (by decide)).trans ((st _ 2 (by decide)).trans ((st _ 3 (by decide)).trans ?_)))
  rw [e_J7_fill_53178_5]
  simp only [e_J7_fill_53178_6, e_J7_fill_53178_7, e_J7_fill_53178_20, if_pos (show (4 : Int32) ≤ nI (3 + 1) by decide), Option.bind_some, Option.isSome_some, Option.toList, List.cons_append, List.nil_append, zclr_i, zclr_r, zclr_n, zfit_i, zfit_l, and_self, if_true, if_false]
  rfl
def traysL (a : Nat) : List zC := [.inr (9, [.ref (a + 1), .ref (a + 2), .ref (a + 3)]), .inl (.int, 4, .inl (fun _ => 0)), .inl (.int, 4, .inl fill4)] ++ gridL (a + 3)
set_option maxHeartbeats 4000000 in
theorem i_Trays (ha : 3 + ps.length = a) (d : Nat) : zcall (d + 1) 136 [.ref a] (PH g (ps ++ [.inr (9, zdef 9)]) m) = some (none, PH g (ps ++ traysL a) (m + 252)) := by
  have hg := fun M => ph_newg (g := g) (ps := ps ++ [.inr (9, [.ref (a + 1), .ref (a + 2), .null]), .inl (.int, 4, .inl (fun _ => 0)), .inl (.int, 4, .inl (fun _ => 0))]) (a := a + 3) (m := M) (by rw [List.length_append]; show 3 + (ps.length + 3) = a + 3; omega)
  simp only [List.append_assoc, List.cons_append, List.nil_append] at hg
  rw [m_X9_init, zdef_Trays]
  simp only [e_X9_init_0, e_X9_init_1, e_X9_init_4, e_X9_init_5, e_X9_init_6, e_X9_init_8, e_X9_init_11, e_X9_init_12, e_X9_init_13, e_X9_init_15, e_X9_init_18, e_X9_init_19, e_X9_init_20, e_X9_init_22, e_X9_init_26, e_X9_init_29, e_X9_init_30, e_X9_init_33, e_X9_init_34, e_X9_init_37, ph_1 ha, ph_newi2, ph_gf0 ha, ph_pf0 ha, cgf, List.set, List.getElem?_cons_zero, List.getElem?_cons_succ, List.length_cons, List.length_nil, Nat.zero_add, Nat.reduceAdd, Nat.add_assoc, eq_self, show zsz 4 = true by decide, show zsz 60 = true by decide, show (4 : Int32).toNatClampNeg = 4 by decide, show (60 : Int32).toNatClampNeg = 60 by decide, hg, ph_fill ha, show ∀ x, zfit (zfT 9 0) (.ref x) = true from fun _ => rfl, show ∀ x, zfit (zfT 9 1) (.ref x) = true from fun _ => rfl, show ∀ x, zfit (zfT 9 2) (.ref x) = true from fun _ => rfl, Option.bind_some, Option.isSome_some, Option.toList, List.cons_append, List.nil_append, zclr_i, zclr_r, zclr_n, zfit_i, zfit_l, and_self, if_true, if_false]
  rfl
/-! the text constant -/
def hasText (h : zH) : Prop := h.2.2 1 = .inr (13, [.ref 2, .int 0]) ∧ h.2.2 2 = .inl (.char, 138, .inl (fun j => zby.getD j 0))
theorem zx_chk (d : Nat) (a0 a1 : Int32) (ls : zL) (h : zH) : zexec (d + 1) 414 5 ls [.retAddr 0, .int a1, .int a0] h = (zcall d 423 [.int a0, .int a1, .retAddr 0] h).bind (fun q => zexec (d + 1) 414 8 ls (q.1.toList ++ []) q.2) := by
  have hok : (zok 414 5 (.invokestatic 1059) 8 && 5 + 3 == 8 && decide ((zMk.getD (zow 414) []).lookup 1059 = some (1, 423)) && zpn 423 == 3 && decide (3 ≤ zml 423)) = true := by decide +kernel
  simp only [Bool.and_eq_true, decide_eq_true_eq, beq_iff_eq] at hok
  obtain ⟨⟨⟨⟨h1, h1'⟩, h2⟩, h3⟩, h4⟩ := hok
  rw [List.getD_eq_getElem?_getD] at h2
  obtain ⟨len, ha, h5⟩ := zok_out h1
  refine (zexec_eq ha (d + 1) ls _ h).trans ?_
  have k1 : zcal 414 (.invokestatic 1059) [.retAddr 0, .int a1, .int a0] h = some (423, [.int a0, .int a1, .retAddr 0], []) := by simp [zcal, h2, h3, zargs, h4]
  have k2 : zheap 414 (.invokestatic 1059) [.retAddr 0, .int a1, .int a0] h = none := by simp [zheap, h2]
  simp only [zstep, zpure, zloc, zjmp, k2, zretn, k1]
  rfl
theorem m_chk (d : Nat) (a0 a1 : Int32) (h : zH) : zcall d 423 [.int a0, .int a1, .retAddr 0] h = zexec d 423 0 [some (.int a0), some (.int a1), some (.retAddr 0)] [] h := by
  unfold zcall zent
  rw [show zml 423 = 3 by decide +kernel]
  rfl
theorem j_check (hi : i < 138) (d : Nat) : zcall (d + 1) 414 [.int (nI i), .int 138] h = some (none, h) := by
  have e : zcall d 423 [.int (nI i), .int 138, .retAddr 0] h = some (some (.int (nI i)), h) := by
    rw [m_chk]
    simp only [e_J3_checkIndex_8e157_0, e_J3_checkIndex_8e157_1, e_J3_checkIndex_8e157_4, e_J3_checkIndex_8e157_5, e_J3_checkIndex_8e157_6, e_J3_checkIndex_8e157_16, e_J3_checkIndex_8e157_17, nI_neg (show i < 2 ^ 31 by omega), eq_true (show nI i < 138 from Int32.not_le.mp (nI_ge (b := 138) hi (by decide))), Option.bind_some, Option.isSome_some, Option.toList, List.cons_append, List.nil_append, zclr_i, zclr_r, zclr_n, zfit_i, zfit_l, and_self, if_true, if_false]
  rw [m_J0_checkIndex_df160]
  simp only [e_J0_checkIndex_df160_0, e_J0_checkIndex_df160_1, e_J0_checkIndex_df160_2, e_J0_checkIndex_df160_8, e_J0_checkIndex_df160_9, zx_chk, e, Option.bind_some, Option.isSome_some, Option.toList, List.cons_append, List.nil_append, zclr_i, zclr_r, zclr_n, zfit_i, zfit_l, and_self, if_true, if_false]
theorem j_coder (ht : hasText h) (d : Nat) : zcall d 412 [.ref 1] h = some (some (.int 0), h) := by
  have g1 : zgf h 1 13 1 = some (.int 0) := by simp [zgf, ht.1]
  rw [m_J0_coder_7d493]
  simp only [e_J0_coder_7d493_0, e_J0_coder_7d493_3, e_J0_coder_7d493_6, e_J0_coder_7d493_7, e_J0_coder_7d493_10, e_J0_coder_7d493_13, e_J0_coder_7d493_14, g1, show ((1 : Int32) = 0) = False by decide, show zfit .byte (.int 0) = true from rfl, Option.bind_some, Option.isSome_some, Option.toList, List.cons_append, List.nil_append, zclr_i, zclr_r, zclr_n, zfit_i, zfit_l, and_self, if_true, if_false]
theorem j_latin (ht : hasText h) (d : Nat) : zcall d 413 [.ref 1] h = some (some (.int 1), h) := by
  have g1 : zgf h 1 13 1 = some (.int 0) := by simp [zgf, ht.1]
  rw [m_J0_isLatin1_aae02]
  simp only [e_J0_isLatin1_aae02_0, e_J0_isLatin1_aae02_3, e_J0_isLatin1_aae02_6, e_J0_isLatin1_aae02_7, e_J0_isLatin1_aae02_10, e_J0_isLatin1_aae02_13, e_J0_isLatin1_aae02_14, e_J0_isLatin1_aae02_17, e_J0_isLatin1_aae02_18, g1, show ((1 : Int32) = 0) = False by decide, zfit_b1, Option.bind_some, Option.isSome_some, Option.toList, List.cons_append, List.nil_append, zclr_i, zclr_r, zclr_n, zfit_i, zfit_l, and_self, if_true, if_false]
theorem j_length (ht : hasText h) (d : Nat) : zcall (d + 1) 410 [.ref 1] h = some (some (.int 138), h) := by
  have g0 : zgf h 1 13 0 = some (.ref 2) := by simp [zgf, ht.1]
  have l2 : zlen h 2 = some 138 := by simp [zlen, ht.2]
  have c1 : zcls h 1 = 13 := by simp [zcls, ht.1]
  rw [m_J0_length_8abf5]
  simp only [e_J0_length_8abf5_0, e_J0_length_8abf5_1, e_J0_length_8abf5_4, e_J0_length_8abf5_5, e_J0_length_8abf5_6, e_J0_length_8abf5_9, e_J0_length_8abf5_10, g0, l2, c1, j_coder ht, show Int32.ofNat 138 = 138 from rfl, show (138 : Int32) >>> ((0 : Int32) &&& 31) = 138 by decide, Option.bind_some, Option.isSome_some, Option.toList, List.cons_append, List.nil_append, zclr_i, zclr_r, zclr_n, zfit_i, zfit_l, and_self, if_true, if_false]
theorem zby_all : ∀ i, i < 138 → zfit .char (.int (((zby.getD i 0 &&& 255).toUInt32 % 65536).toInt32)) = true ∧ ((zby.getD i 0 &&& 255).toUInt32 % 65536).toInt32 = zby.getD i 0 := by decide +kernel
theorem j_charAt (ht : hasText h) (hi : i < 138) (d : Nat) : zcall (d + 3) 411 [.ref 1, .int (nI i)] h = some (some (.int (zby.getD i 0)), h) := by
  have g0 : zgf h 1 13 0 = some (.ref 2) := by simp [zgf, ht.1]
  have l2 : zlen h 2 = some 138 := by simp [zlen, ht.2]
  have c1 : zcls h 1 = 13 := by simp [zcls, ht.1]
  have b2 : zbd h 2 (nI i) = some (zby.getD i 0) := by
    have e1 : zbg h 2 i = none := by simp [zbg, ht.2]
    have e2 : zsb h 2 i = some (zby.getD i 0) := by simp [zsb, ht.2, hi]
    unfold zbd
    rw [if_neg (nI_pos (by omega)), nI_clamp (by omega), e1]
    exact e2
  obtain ⟨z1, z2⟩ := zby_all i hi
  rw [z2] at z1
  have e : zcall (d + 2) 422 [.ref 2, .int (nI i)] h = some (some (.int (zby.getD i 0)), h) := by
    rw [m_J1_charAt_3b067]
    simp only [e_J1_charAt_3b067_0, e_J1_charAt_3b067_1, e_J1_charAt_3b067_2, e_J1_charAt_3b067_3, e_J1_charAt_3b067_6, e_J1_charAt_3b067_7, e_J1_charAt_3b067_8, e_J1_charAt_3b067_9, e_J1_charAt_3b067_12, e_J1_charAt_3b067_13, e_J1_charAt_3b067_14, l2, show Int32.ofNat 138 = 138 from rfl, j_check hi, b2, z2, z1, Option.bind_some, Option.isSome_some, Option.toList, List.cons_append, List.nil_append, zclr_i, zclr_r, zclr_n, zfit_i, zfit_l, and_self, if_true, if_false]
  rw [m_J0_charAt_5068e]
  simp only [e_J0_charAt_5068e_0, e_J0_charAt_5068e_1, e_J0_charAt_5068e_4, e_J0_charAt_5068e_7, e_J0_charAt_5068e_8, e_J0_charAt_5068e_11, e_J0_charAt_5068e_12, e_J0_charAt_5068e_15, c1, j_latin ht, show ((1 : Int32) = 0) = False by decide, g0, e, z1, Option.bind_some, Option.isSome_some, Option.toList, List.cons_append, List.nil_append, zclr_i, zclr_r, zclr_n, zfit_i, zfit_l, and_self, if_true, if_false]
end PJS
