/-! THE LAW: its loop (written by wip/whole/gen_law2.py) -/
section LV
variable {n m : Nat} {g : Nat → zC} {I : Nat → Nat → Int32} {J : Nat → Nat → Int64} {L i N S : Nat} {xs : Nat → Int32}
theorem sw_dflt {x : Int32} (h0 : x ≠ 0) (h1 : x ≠ 1) (h2 : x ≠ 2) (h3 : x ≠ 3) (h4 : x ≠ 4) (h5 : x ≠ 5) (h6 : x ≠ 6) (h7 : x ≠ 7) (h8 : x ≠ 8) (h9 : x ≠ 9) (h10 : x ≠ 10) (h11 : x ≠ 11) (h12 : x ≠ 12) (h13 : x ≠ 13) (h14 : x ≠ 14) (h15 : x ≠ 15) (h16 : x ≠ 16) (h17 : x ≠ 17) (h18 : x ≠ 18) (h19 : x ≠ 19) (h20 : x ≠ 20) (h21 : x ≠ 21) (h22 : x ≠ 22) (h23 : x ≠ 23) (h24 : x ≠ 24) (h25 : x ≠ 25) (h26 : x ≠ 26) (h27 : x ≠ 27) (h28 : x ≠ 28) (h29 : x ≠ 29) (h30 : x ≠ 30) (h31 : x ≠ 31) (h32 : x ≠ 32) (h33 : x ≠ 33) (h34 : x ≠ 34) (h35 : x ≠ 35) (h36 : x ≠ 36) (h37 : x ≠ 37) (h38 : x ≠ 38) (h39 : x ≠ 39) (h40 : x ≠ 40) (h41 : x ≠ 41) (h42 : x ≠ 42) (h43 : x ≠ 43) (h44 : x ≠ 44) (h45 : x ≠ 45) (h46 : x ≠ 46) (h47 : x ≠ 47) (h48 : x ≠ 48) (h49 : x ≠ 49) (h50 : x ≠ 50) (h51 : x ≠ 51) (h52 : x ≠ 52) (h53 : x ≠ 53) (h54 : x ≠ 54) (h55 : x ≠ 55) (h56 : x ≠ 56) (h57 : x ≠ 57) (h58 : x ≠ 58) (h59 : x ≠ 59) (h60 : x ≠ 60) : (([(0, 292), (1, 305), (2, 319), (3, 333), (4, 376), (5, 449), (6, 483), (7, 546), (8, 609), (9, 632), (10, 655), (11, 678), (12, 701), (13, 734), (14, 767), (15, 800), (16, 833), (17, 856), (18, 879), (19, 902), (20, 935), (21, 978), (22, 1011), (23, 1044), (24, 1077), (25, 1110), (26, 1159), (27, 1192), (28, 1215), (29, 1248), (30, 1271), (31, 1314), (32, 1337), (33, 1360), (34, 1383), (35, 1416), (36, 1439), (37, 1482), (38, 1525), (39, 1538), (40, 1561), (41, 1584), (42, 1607), (43, 1630), (44, 1643), (45, 1656), (46, 1669), (47, 1702), (48, 1725), (49, 1748), (50, 1781), (51, 1804), (52, 1847), (53, 1870), (54, 1883), (55, 1906), (56, 1929), (57, 1952), (58, 1975), (59, 2008), (60, 2021)] : List (Int32 × Nat)).lookup x).getD 2034 = 2034 := by
  simp only [List.lookup, beq_eq_false_iff_ne.mpr h0, beq_eq_false_iff_ne.mpr h1, beq_eq_false_iff_ne.mpr h2, beq_eq_false_iff_ne.mpr h3, beq_eq_false_iff_ne.mpr h4, beq_eq_false_iff_ne.mpr h5, beq_eq_false_iff_ne.mpr h6, beq_eq_false_iff_ne.mpr h7, beq_eq_false_iff_ne.mpr h8, beq_eq_false_iff_ne.mpr h9, beq_eq_false_iff_ne.mpr h10, beq_eq_false_iff_ne.mpr h11, beq_eq_false_iff_ne.mpr h12, beq_eq_false_iff_ne.mpr h13, beq_eq_false_iff_ne.mpr h14, beq_eq_false_iff_ne.mpr h15, beq_eq_false_iff_ne.mpr h16, beq_eq_false_iff_ne.mpr h17, beq_eq_false_iff_ne.mpr h18, beq_eq_false_iff_ne.mpr h19, beq_eq_false_iff_ne.mpr h20, beq_eq_false_iff_ne.mpr h21, beq_eq_false_iff_ne.mpr h22, beq_eq_false_iff_ne.mpr h23, beq_eq_false_iff_ne.mpr h24, beq_eq_false_iff_ne.mpr h25, beq_eq_false_iff_ne.mpr h26, beq_eq_false_iff_ne.mpr h27, beq_eq_false_iff_ne.mpr h28, beq_eq_false_iff_ne.mpr h29, beq_eq_false_iff_ne.mpr h30, beq_eq_false_iff_ne.mpr h31, beq_eq_false_iff_ne.mpr h32, beq_eq_false_iff_ne.mpr h33, beq_eq_false_iff_ne.mpr h34, beq_eq_false_iff_ne.mpr h35, beq_eq_false_iff_ne.mpr h36, beq_eq_false_iff_ne.mpr h37, beq_eq_false_iff_ne.mpr h38, beq_eq_false_iff_ne.mpr h39, beq_eq_false_iff_ne.mpr h40, beq_eq_false_iff_ne.mpr h41, beq_eq_false_iff_ne.mpr h42, beq_eq_false_iff_ne.mpr h43, beq_eq_false_iff_ne.mpr h44, beq_eq_false_iff_ne.mpr h45, beq_eq_false_iff_ne.mpr h46, beq_eq_false_iff_ne.mpr h47, beq_eq_false_iff_ne.mpr h48, beq_eq_false_iff_ne.mpr h49, beq_eq_false_iff_ne.mpr h50, beq_eq_false_iff_ne.mpr h51, beq_eq_false_iff_ne.mpr h52, beq_eq_false_iff_ne.mpr h53, beq_eq_false_iff_ne.mpr h54, beq_eq_false_iff_ne.mpr h55, beq_eq_false_iff_ne.mpr h56, beq_eq_false_iff_ne.mpr h57, beq_eq_false_iff_ne.mpr h58, beq_eq_false_iff_ne.mpr h59, beq_eq_false_iff_ne.mpr h60]
  rfl
theorem law_case (h : Inv I J N S) (hn : 158 ≤ n) (hs : g 0 = .inl (.short, L, .inl xs)) (hi : i + 6 ≤ L) (hL : L ≤ 3072) : ∃ n' m' g' I2 J2 N' S', zexec 60 415 33 [some (.ref 0), some (.ref 3), some (.ref 143), some (.int (nI i))] [.int (xs i &&& 63)] (mk n m g I J) = zexec 60 415 2034 [some (.ref 0), some (.ref 3), some (.ref 143), some (.int (nI i))] [] (mk n' m' g' I2 J2) ∧ Inv I2 J2 N' S' ∧ n ≤ n' ∧ n' ≤ n + 2 ∧ m' ≤ m + 8 ∧ g' 0 = g 0 := by
  generalize xs i &&& 63 = x
  have go : ∀ pc, LwS i pc n m g I J → zexec 60 415 33 [some (.ref 0), some (.ref 3), some (.ref 143), some (.int (nI i))] [.int x] (mk n m g I J) = zexec 60 415 pc [some (.ref 0), some (.ref 3), some (.ref 143), some (.int (nI i))] [] (mk n m g I J) → ∃ n' m' g' I2 J2 N' S', zexec 60 415 33 [some (.ref 0), some (.ref 3), some (.ref 143), some (.int (nI i))] [.int x] (mk n m g I J) = zexec 60 415 2034 [some (.ref 0), some (.ref 3), some (.ref 143), some (.int (nI i))] [] (mk n' m' g' I2 J2) ∧ Inv I2 J2 N' S' ∧ n ≤ n' ∧ n' ≤ n + 2 ∧ m' ≤ m + 8 ∧ g' 0 = g 0 := fun pc hl he => by
    obtain ⟨n', m', g', I2, J2, N', S', e, r⟩ := hl
    exact ⟨n', m', g', I2, J2, N', S', he.trans e, r⟩
  by_cases h0 : x = 0
  · exact go 292 (law_0 h hn hs hi hL) (by rw [h0, e_L_law_33, zsx_to 292 _ _ rfl])
  by_cases h1 : x = 1
  · exact go 305 (law_1 h hn hs hi hL) (by rw [h1, e_L_law_33, zsx_to 305 _ _ rfl])
  by_cases h2 : x = 2
  · exact go 319 (law_2 h hn hs hi hL) (by rw [h2, e_L_law_33, zsx_to 319 _ _ rfl])
  by_cases h3 : x = 3
  · exact go 333 (law_3 h hn hs hi hL) (by rw [h3, e_L_law_33, zsx_to 333 _ _ rfl])
  by_cases h4 : x = 4
  · exact go 376 (law_4 h hn hs hi hL) (by rw [h4, e_L_law_33, zsx_to 376 _ _ rfl])
  by_cases h5 : x = 5
  · exact go 449 (law_5 h hn hs hi hL) (by rw [h5, e_L_law_33, zsx_to 449 _ _ rfl])
  by_cases h6 : x = 6
  · exact go 483 (law_6 h hn hs hi hL) (by rw [h6, e_L_law_33, zsx_to 483 _ _ rfl])
  by_cases h7 : x = 7
  · exact go 546 (law_7 h hn hs hi hL) (by rw [h7, e_L_law_33, zsx_to 546 _ _ rfl])
  by_cases h8 : x = 8
  · exact go 609 (law_8 h hn hs hi hL) (by rw [h8, e_L_law_33, zsx_to 609 _ _ rfl])
  by_cases h9 : x = 9
  · exact go 632 (law_9 h hn hs hi hL) (by rw [h9, e_L_law_33, zsx_to 632 _ _ rfl])
  by_cases h10 : x = 10
  · exact go 655 (law_10 h hn hs hi hL) (by rw [h10, e_L_law_33, zsx_to 655 _ _ rfl])
  by_cases h11 : x = 11
  · exact go 678 (law_11 h hn hs hi hL) (by rw [h11, e_L_law_33, zsx_to 678 _ _ rfl])
  by_cases h12 : x = 12
  · exact go 701 (law_12 h hn hs hi hL) (by rw [h12, e_L_law_33, zsx_to 701 _ _ rfl])
  by_cases h13 : x = 13
  · exact go 734 (law_13 h hn hs hi hL) (by rw [h13, e_L_law_33, zsx_to 734 _ _ rfl])
  by_cases h14 : x = 14
  · exact go 767 (law_14 h hn hs hi hL) (by rw [h14, e_L_law_33, zsx_to 767 _ _ rfl])
  by_cases h15 : x = 15
  · exact go 800 (law_15 h hn hs hi hL) (by rw [h15, e_L_law_33, zsx_to 800 _ _ rfl])
  by_cases h16 : x = 16
  · exact go 833 (law_16 h hn hs hi hL) (by rw [h16, e_L_law_33, zsx_to 833 _ _ rfl])
  by_cases h17 : x = 17
  · exact go 856 (law_17 h hn hs hi hL) (by rw [h17, e_L_law_33, zsx_to 856 _ _ rfl])
  by_cases h18 : x = 18
  · exact go 879 (law_18 h hn hs hi hL) (by rw [h18, e_L_law_33, zsx_to 879 _ _ rfl])
  by_cases h19 : x = 19
  · exact go 902 (law_19 h hn hs hi hL) (by rw [h19, e_L_law_33, zsx_to 902 _ _ rfl])
  by_cases h20 : x = 20
  · exact go 935 (law_20 h hn hs hi hL) (by rw [h20, e_L_law_33, zsx_to 935 _ _ rfl])
  by_cases h21 : x = 21
  · exact go 978 (law_21 h hn hs hi hL) (by rw [h21, e_L_law_33, zsx_to 978 _ _ rfl])
  by_cases h22 : x = 22
  · exact go 1011 (law_22 h hn hs hi hL) (by rw [h22, e_L_law_33, zsx_to 1011 _ _ rfl])
  by_cases h23 : x = 23
  · exact go 1044 (law_23 h hn hs hi hL) (by rw [h23, e_L_law_33, zsx_to 1044 _ _ rfl])
  by_cases h24 : x = 24
  · exact go 1077 (law_24 h hn hs hi hL) (by rw [h24, e_L_law_33, zsx_to 1077 _ _ rfl])
  by_cases h25 : x = 25
  · exact go 1110 (law_25 h hn hs hi hL) (by rw [h25, e_L_law_33, zsx_to 1110 _ _ rfl])
  by_cases h26 : x = 26
  · exact go 1159 (law_26 h hn hs hi hL) (by rw [h26, e_L_law_33, zsx_to 1159 _ _ rfl])
  by_cases h27 : x = 27
  · exact go 1192 (law_27 h hn hs hi hL) (by rw [h27, e_L_law_33, zsx_to 1192 _ _ rfl])
  by_cases h28 : x = 28
  · exact go 1215 (law_28 h hn hs hi hL) (by rw [h28, e_L_law_33, zsx_to 1215 _ _ rfl])
  by_cases h29 : x = 29
  · exact go 1248 (law_29 h hn hs hi hL) (by rw [h29, e_L_law_33, zsx_to 1248 _ _ rfl])
  by_cases h30 : x = 30
  · exact go 1271 (law_30 h hn hs hi hL) (by rw [h30, e_L_law_33, zsx_to 1271 _ _ rfl])
  by_cases h31 : x = 31
  · exact go 1314 (law_31 h hn hs hi hL) (by rw [h31, e_L_law_33, zsx_to 1314 _ _ rfl])
  by_cases h32 : x = 32
  · exact go 1337 (law_32 h hn hs hi hL) (by rw [h32, e_L_law_33, zsx_to 1337 _ _ rfl])
  by_cases h33 : x = 33
  · exact go 1360 (law_33 h hn hs hi hL) (by rw [h33, e_L_law_33, zsx_to 1360 _ _ rfl])
  by_cases h34 : x = 34
  · exact go 1383 (law_34 h hn hs hi hL) (by rw [h34, e_L_law_33, zsx_to 1383 _ _ rfl])
  by_cases h35 : x = 35
  · exact go 1416 (law_35 h hn hs hi hL) (by rw [h35, e_L_law_33, zsx_to 1416 _ _ rfl])
  by_cases h36 : x = 36
  · exact go 1439 (law_36 h hn hs hi hL) (by rw [h36, e_L_law_33, zsx_to 1439 _ _ rfl])
  by_cases h37 : x = 37
  · exact go 1482 (law_37 h hn hs hi hL) (by rw [h37, e_L_law_33, zsx_to 1482 _ _ rfl])
  by_cases h38 : x = 38
  · exact go 1525 (law_38 h hn hs hi hL) (by rw [h38, e_L_law_33, zsx_to 1525 _ _ rfl])
  by_cases h39 : x = 39
  · exact go 1538 (law_39 h hn hs hi hL) (by rw [h39, e_L_law_33, zsx_to 1538 _ _ rfl])
  by_cases h40 : x = 40
  · exact go 1561 (law_40 h hn hs hi hL) (by rw [h40, e_L_law_33, zsx_to 1561 _ _ rfl])
  by_cases h41 : x = 41
  · exact go 1584 (law_41 h hn hs hi hL) (by rw [h41, e_L_law_33, zsx_to 1584 _ _ rfl])
  by_cases h42 : x = 42
  · exact go 1607 (law_42 h hn hs hi hL) (by rw [h42, e_L_law_33, zsx_to 1607 _ _ rfl])
  by_cases h43 : x = 43
  · exact go 1630 (law_43 h hn hs hi hL) (by rw [h43, e_L_law_33, zsx_to 1630 _ _ rfl])
  by_cases h44 : x = 44
  · exact go 1643 (law_44 h hn hs hi hL) (by rw [h44, e_L_law_33, zsx_to 1643 _ _ rfl])
  by_cases h45 : x = 45
  · exact go 1656 (law_45 h hn hs hi hL) (by rw [h45, e_L_law_33, zsx_to 1656 _ _ rfl])
  by_cases h46 : x = 46
  · exact go 1669 (law_46 h hn hs hi hL) (by rw [h46, e_L_law_33, zsx_to 1669 _ _ rfl])
  by_cases h47 : x = 47
  · exact go 1702 (law_47 h hn hs hi hL) (by rw [h47, e_L_law_33, zsx_to 1702 _ _ rfl])
  by_cases h48 : x = 48
  · exact go 1725 (law_48 h hn hs hi hL) (by rw [h48, e_L_law_33, zsx_to 1725 _ _ rfl])
  by_cases h49 : x = 49
  · exact go 1748 (law_49 h hn hs hi hL) (by rw [h49, e_L_law_33, zsx_to 1748 _ _ rfl])
  by_cases h50 : x = 50
  · exact go 1781 (law_50 h hn hs hi hL) (by rw [h50, e_L_law_33, zsx_to 1781 _ _ rfl])
  by_cases h51 : x = 51
  · exact go 1804 (law_51 h hn hs hi hL) (by rw [h51, e_L_law_33, zsx_to 1804 _ _ rfl])
  by_cases h52 : x = 52
  · exact go 1847 (law_52 h hn hs hi hL) (by rw [h52, e_L_law_33, zsx_to 1847 _ _ rfl])
  by_cases h53 : x = 53
  · exact go 1870 (law_53 h hn hs hi hL) (by rw [h53, e_L_law_33, zsx_to 1870 _ _ rfl])
  by_cases h54 : x = 54
  · exact go 1883 (law_54 h hn hs hi hL) (by rw [h54, e_L_law_33, zsx_to 1883 _ _ rfl])
  by_cases h55 : x = 55
  · exact go 1906 (law_55 h hn hs hi hL) (by rw [h55, e_L_law_33, zsx_to 1906 _ _ rfl])
  by_cases h56 : x = 56
  · exact go 1929 (law_56 h hn hs hi hL) (by rw [h56, e_L_law_33, zsx_to 1929 _ _ rfl])
  by_cases h57 : x = 57
  · exact go 1952 (law_57 h hn hs hi hL) (by rw [h57, e_L_law_33, zsx_to 1952 _ _ rfl])
  by_cases h58 : x = 58
  · exact go 1975 (law_58 h hn hs hi hL) (by rw [h58, e_L_law_33, zsx_to 1975 _ _ rfl])
  by_cases h59 : x = 59
  · exact go 2008 (law_59 h hn hs hi hL) (by rw [h59, e_L_law_33, zsx_to 2008 _ _ rfl])
  by_cases h60 : x = 60
  · exact go 2021 (law_60 h hn hs hi hL) (by rw [h60, e_L_law_33, zsx_to 2021 _ _ rfl])
  refine ⟨n, m, g, I, J, N, S, ?_, h, Nat.le_refl n, by omega, by omega, rfl⟩
  rw [e_L_law_33, zsx_to 2034 _ _ (sw_dflt h0 h1 h2 h3 h4 h5 h6 h7 h8 h9 h10 h11 h12 h13 h14 h15 h16 h17 h18 h19 h20 h21 h22 h23 h24 h25 h26 h27 h28 h29 h30 h31 h32 h33 h34 h35 h36 h37 h38 h39 h40 h41 h42 h43 h44 h45 h46 h47 h48 h49 h50 h51 h52 h53 h54 h55 h56 h57 h58 h59 h60)]
theorem sub6 : ∀ L, L < 6 → ((nI L - 6 : Int32) < 0) = True := by decide +kernel
theorem law_loop (hL : L ≤ 3072) : ∀ f i n m g I J N S, L < i + 6 * f + 6 → i ≤ 3072 → Inv I J N S → 158 ≤ n → g 0 = .inl (.short, L, .inl xs) → ∃ h' : zH, zexec 60 415 18 [some (.ref 0), some (.ref 3), some (.ref 143), some (.int (nI i))] [] (mk n m g I J) = some (some (.int 1), h') ∧ h'.1 ≤ n + 2 * f ∧ h'.2.1 ≤ m + 8 * f := by
  intro f
  induction f with
  | zero =>
    intro i n m g I J N S hf hi h hn hs
    have m0 : (mk n m g I J).2.2 0 = .inl (.short, L, .inl xs) := hs
    have gt : (nI L - 6 < nI i) = True := by
      refine eq_true ?_
      by_cases c : L < 6
      · have h0 : nI L - 6 < 0 := of_eq_true (sub6 L c)
        have h1 : (0 : Int32) ≤ nI i := nI_le (a := 0) (Nat.zero_le i) (by omega)
        exact Int32.lt_of_lt_of_le h0 h1
      · rw [show (6 : Int32) = nI 6 from rfl, nI_subn (by omega)]
        exact Int32.not_le.mp (nI_ge (by omega) (by omega))
    refine ⟨mk n m g I J, ?_, by show n ≤ _; omega, by show m ≤ _; omega⟩
    simp only [e_L_law_18, e_L_law_19, e_L_law_20, e_L_law_21, e_L_law_23, e_L_law_24, e_L_law_2040, e_L_law_2041, sc_len m0, show Int32.ofNat L = nI L from rfl, gt, zfit_b1, Option.bind_some, Option.isSome_some, Option.toList, List.cons_append, List.nil_append, zclr_i, zclr_r, zclr_n, zfit_i, zfit_l, and_self, if_true, if_false]
  | succ f ih =>
    intro i n m g I J N S hf hi h hn hs
    have m0 : (mk n m g I J).2.2 0 = .inl (.short, L, .inl xs) := hs
    by_cases c : i + 6 ≤ L
    · have gt : (nI L - 6 < nI i) = False := by
        refine eq_false ?_
        rw [show (6 : Int32) = nI 6 from rfl, nI_subn (by omega)]
        exact Int32.not_lt.mpr (nI_le (by omega) (by omega))
      obtain ⟨n', m', g', I2, J2, N', S', e, hI, l1, l2, l3, l4⟩ := law_case (m := m) h hn hs c hL
      obtain ⟨h', r1, r2, r3⟩ := ih (i + 6) n' m' g' I2 J2 N' S' (by omega) (by omega) hI (by omega) (l4.trans hs)
      refine ⟨h', ?_, by omega, by omega⟩
      rw [e_L_law_18]
      simp only [e_L_law_19, e_L_law_20, e_L_law_21, e_L_law_23, e_L_law_24, e_L_law_27, e_L_law_28, e_L_law_29, e_L_law_30, e_L_law_32, sc_len m0, show Int32.ofNat L = nI L from rfl, gt, sc_ld m0 (show i < L by omega) (by omega), Option.bind_some, Option.isSome_some, Option.toList, List.cons_append, List.nil_append, zclr_i, zclr_r, zclr_n, zfit_i, zfit_l, and_self, if_true, if_false]
      refine e.trans ?_
      simp only [e_L_law_2034, e_L_law_2037, show nI i + (6 : Int32) = nI (i + 6) from nI_add i 6, Option.bind_some, Option.isSome_some, Option.toList, List.cons_append, List.nil_append, zclr_i, zclr_r, zclr_n, zfit_i, zfit_l, and_self, if_true, if_false]
      exact r1
    · have gt : (nI L - 6 < nI i) = True := by
        refine eq_true ?_
        by_cases c : L < 6
        · have h0 : nI L - 6 < 0 := of_eq_true (sub6 L c)
          have h1 : (0 : Int32) ≤ nI i := nI_le (a := 0) (Nat.zero_le i) (by omega)
          exact Int32.lt_of_lt_of_le h0 h1
        · rw [show (6 : Int32) = nI 6 from rfl, nI_subn (by omega)]
          exact Int32.not_le.mp (nI_ge (by omega) (by omega))
      refine ⟨mk n m g I J, ?_, by show n ≤ _; omega, by show m ≤ _; omega⟩
      simp only [e_L_law_18, e_L_law_19, e_L_law_20, e_L_law_21, e_L_law_23, e_L_law_24, e_L_law_2040, e_L_law_2041, sc_len m0, show Int32.ofNat L = nI L from rfl, gt, zfit_b1, Option.bind_some, Option.isSome_some, Option.toList, List.cons_append, List.nil_append, zclr_i, zclr_r, zclr_n, zfit_i, zfit_l, and_self, if_true, if_false]
end LV
