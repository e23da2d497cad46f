/-! WHAT IS MADE: the reference's own, and the memory as it stands then (written by wip/whole/gen_mo.py) -/
section PMS
variable {g : Nat → zC} {ps qs : List zC} {c : zC} {n m a i k ci : Nat} {I : Nat → Nat → Int32} {J : Nat → Nat → Int64} {v : Option Value}
def modelL (a : Nat) : List zC := [.inr (12, [.int 0, .int 0, .long 0, .long 1, .ref (a + 1), .ref (a + 2), .ref (a + 3), .ref (a + 4), .int 0, .int 0, .int (-1), .int (-1), .int 0, .int 0, .int 0, .int 0, .int 0, .int 0, .int 0, .long 0, .ref (a + 5), .ref (a + 6), .ref (a + 7), .ref (a + 8), .int 0, .int 0, .int 0, .ref (a + 9), .ref (a + 10), .ref (a + 11), .ref (a + 12), .int 0, .ref (a + 13), .ref (a + 14), .int 0, .int 0, .int 0, .int 0, .int 0, .int 0, .int 0, .int 0, .int 0]), .inl (.int, 4, .inl (fun _ => 0)), .inl (.int, 4, .inl (fun _ => 0)), .inl (.long, 240, .inr (.inl (fun _ => 0))), .inl (.byte, 900, .inl (fun _ => 0)), .inl (.int, 2530, .inl (fun _ => 0)), .inl (.int, 234, .inl (fun _ => 0)), .inl (.int, 234, .inl (fun _ => 0)), .inl (.long, 90, .inr (.inl (fun _ => 0))), .inl (.long, 13, .inr (.inl (fun _ => 0))), .inl (.int, 4096, .inl (fun _ => 0)), .inl (.int, 12, .inl (fun _ => 0)), .inl (.int, 12, .inl (fun _ => 0)), .inl (.int, 6, .inl (fun _ => 0)), .inl (.int, 5, .inl (fun _ => 0))]
set_option maxHeartbeats 4000000 in
theorem o_1 (ha : 3 + ps.length = a) (d : Nat) : zexec d 234 0 [some (.ref a), v] [] (PH g (ps ++ [.inr (12, zdef 12)]) m) = zexec d 234 136 [some (.ref a), some (.int 0)] [] (PH g (ps ++ modelL a) (m + 8380)) := by
  rw [zdef_NineNamesModel]
  simp only [e_X12_init_0, e_X12_init_1, e_X12_init_4, e_X12_init_5, e_X12_init_6, e_X12_init_9, e_X12_init_10, e_X12_init_11, e_X12_init_13, e_X12_init_16, e_X12_init_17, e_X12_init_18, e_X12_init_20, e_X12_init_23, e_X12_init_24, e_X12_init_27, e_X12_init_29, e_X12_init_32, e_X12_init_33, e_X12_init_36, e_X12_init_38, e_X12_init_41, e_X12_init_42, e_X12_init_43, e_X12_init_46, e_X12_init_47, e_X12_init_48, e_X12_init_51, e_X12_init_52, e_X12_init_55, e_X12_init_57, e_X12_init_60, e_X12_init_61, e_X12_init_64, e_X12_init_66, e_X12_init_69, e_X12_init_70, e_X12_init_73, e_X12_init_75, e_X12_init_78, e_X12_init_79, e_X12_init_81, e_X12_init_83, e_X12_init_86, e_X12_init_87, e_X12_init_89, e_X12_init_91, e_X12_init_94, e_X12_init_95, e_X12_init_98, e_X12_init_100, e_X12_init_103, e_X12_init_104, e_X12_init_106, e_X12_init_108, e_X12_init_111, e_X12_init_112, e_X12_init_114, e_X12_init_116, e_X12_init_119, e_X12_init_120, e_X12_init_122, e_X12_init_124, e_X12_init_127, e_X12_init_128, e_X12_init_129, e_X12_init_131, e_X12_init_134, e_X12_init_135, ph_1 ha, ph_newi2, ph_newl2, ph_gf0 ha, ph_pf0 ha, cgf, List.set, List.getElem?_cons_zero, List.getElem?_cons_succ, List.length_cons, List.length_nil, Nat.zero_add, Nat.reduceAdd, Nat.add_assoc, eq_self, show zsz 4 = true by decide, show (4 : Int32).toNatClampNeg = 4 by decide, show zsz 5 = true by decide, show (5 : Int32).toNatClampNeg = 5 by decide, show zsz 6 = true by decide, show (6 : Int32).toNatClampNeg = 6 by decide, show zsz 12 = true by decide, show (12 : Int32).toNatClampNeg = 12 by decide, show zsz 13 = true by decide, show (13 : Int32).toNatClampNeg = 13 by decide, show zsz 90 = true by decide, show (90 : Int32).toNatClampNeg = 90 by decide, show zsz 234 = true by decide, show (234 : Int32).toNatClampNeg = 234 by decide, show zsz 240 = true by decide, show (240 : Int32).toNatClampNeg = 240 by decide, show zsz 900 = true by decide, show (900 : Int32).toNatClampNeg = 900 by decide, show zsz 2530 = true by decide, show (2530 : Int32).toNatClampNeg = 2530 by decide, show zsz 4096 = true by decide, show (4096 : Int32).toNatClampNeg = 4096 by decide, show ∀ x, zfit (zfT 12 4) (.ref x) = true from fun _ => rfl, show ∀ x, zfit (zfT 12 5) (.ref x) = true from fun _ => rfl, show ∀ x, zfit (zfT 12 6) (.ref x) = true from fun _ => rfl, show ∀ x, zfit (zfT 12 7) (.ref x) = true from fun _ => rfl, show ∀ x, zfit (zfT 12 20) (.ref x) = true from fun _ => rfl, show ∀ x, zfit (zfT 12 21) (.ref x) = true from fun _ => rfl, show ∀ x, zfit (zfT 12 22) (.ref x) = true from fun _ => rfl, show ∀ x, zfit (zfT 12 23) (.ref x) = true from fun _ => rfl, show ∀ x, zfit (zfT 12 27) (.ref x) = true from fun _ => rfl, show ∀ x, zfit (zfT 12 28) (.ref x) = true from fun _ => rfl, show ∀ x, zfit (zfT 12 29) (.ref x) = true from fun _ => rfl, show ∀ x, zfit (zfT 12 30) (.ref x) = true from fun _ => rfl, show ∀ x, zfit (zfT 12 32) (.ref x) = true from fun _ => rfl, show ∀ x, zfit (zfT 12 33) (.ref x) = true from fun _ => rfl, zfit_l, modelL, Option.bind_some, Option.isSome_some, Option.toList, List.cons_append, List.nil_append, zclr_i, zclr_r, zclr_n, zfit_i, zfit_l, and_self, if_true, if_false]
def rI (a : Nat) : Nat → Int32 := cond (Nat.beq a 6) fill4 (cond (Nat.beq a 13) (fun k => cond (Nat.beq k 1) 15 (cond (Nat.beq k 10) (-1) (cond (Nat.beq k 11) (-1) 0))) (cond (Nat.beq a 16 || Nat.beq a 33 || Nat.beq a 74 || Nat.beq a 97 || Nat.beq a 120) (fun k => cond (Nat.beq k 0) 1800 (cond (Nat.beq k 1) 9 (cond (Nat.beq k 2) 80 0))) (cond (Nat.beq a 143) (fun k => cond (Nat.beq k 10) (-1) (cond (Nat.beq k 11) (-1) 0)) (fun _ => 0))))
def rJ (a : Nat) : Nat → Int64 := cond (Nat.beq a 3) (fun k => cond (Nat.beq k 2) 1 0) (cond (Nat.beq a 14) resF (cond (Nat.beq a 143) (fun k => cond (Nat.beq k 3) 1 0) (fun _ => 0)))
def allL : List zC := cs_17 ++ modelL 143
def atL (i : Nat) : Prop := allL[i]? = some (sh (i + 3) (rI (i + 3)) (rJ (i + 3)))
theorem at_step {P : Nat → Prop} {n : Nat} (h : ∀ i, i < n → P i) (hn : P n) : ∀ i, i < n + 1 → P i := fun i hi => by
  by_cases e : i = n
  · rw [e]
    exact hn
  · exact h i (by omega)
theorem at_7 : atL 4 := congrArg (fun f : Nat → Option Nat => some (Sum.inl (FieldType.array .long, 4, .inr (.inr (.inr (.inr f)))) : zC)) (show (fun i : Nat => if i < 4 then some (7 + 1 + i) else none) = fun k => ([8, 9, 10, 11] : List Nat)[k]? from funext fun i => match i with | 0 => rfl | 1 => rfl | 2 => rfl | 3 => rfl | n + 4 => if_neg (by omega))
theorem at_72 : atL 69 := by
  have e : allL[69]? = some (.inl (.object (zcN 7), 3, .inr (.inr (.inr (.inr (va_up (va_up (va_up (fun _ => none) 0 (some 74)) 1 (some 97)) 2 (some 120))))))) := rfl
  unfold atL
  rw [e, zcN_7]
  exact congrArg (fun f : Nat → Option Nat => some (Sum.inl (FieldType.object "NineNames$Town", 3, .inr (.inr (.inr (.inr f)))) : zC)) (show (va_up (va_up (va_up (fun _ => none) 0 (some 74)) 1 (some 97)) 2 (some 120)) = fun k => ([74, 97, 120] : List Nat)[k]? from funext fun i => match i with | 0 => rfl | 1 => rfl | 2 => rfl | n + 3 => by simp [va_up])
theorem at_73 : atL 70 := by
  have e : allL[70]? = some (.inl (.object (zcN 6), 3, .inr (.inr (.inr (.inr (va_up (va_up (va_up (fun _ => none) 0 (some 91)) 1 (some 114)) 2 (some 137))))))) := rfl
  unfold atL
  rw [e, zcN_6]
  exact congrArg (fun f : Nat → Option Nat => some (Sum.inl (FieldType.object "NineNames$Script", 3, .inr (.inr (.inr (.inr f)))) : zC)) (show (va_up (va_up (va_up (fun _ => none) 0 (some 91)) 1 (some 114)) 2 (some 137)) = fun k => ([91, 114, 137] : List Nat)[k]? from funext fun i => match i with | 0 => rfl | 1 => rfl | 2 => rfl | n + 3 => by simp [va_up])
theorem at_b0 (h0 : ∀ i, i < 0 → atL i) : ∀ i, i < 31 → atL i := by
  replace h0 := at_step h0 (show atL 0 from rfl)
  replace h0 := at_step h0 (show atL 1 from rfl)
  replace h0 := at_step h0 (show atL 2 from rfl)
  replace h0 := at_step h0 (show atL 3 from rfl)
  replace h0 := at_step h0 at_7
  replace h0 := at_step h0 (show atL 5 from rfl)
  replace h0 := at_step h0 (show atL 6 from rfl)
  replace h0 := at_step h0 (show atL 7 from rfl)
  replace h0 := at_step h0 (show atL 8 from rfl)
  replace h0 := at_step h0 (show atL 9 from rfl)
  replace h0 := at_step h0 (show atL 10 from rfl)
  replace h0 := at_step h0 (show atL 11 from rfl)
  replace h0 := at_step h0 (show atL 12 from rfl)
  replace h0 := at_step h0 (show atL 13 from rfl)
  replace h0 := at_step h0 (show atL 14 from rfl)
  replace h0 := at_step h0 (show atL 15 from rfl)
  replace h0 := at_step h0 (show atL 16 from rfl)
  replace h0 := at_step h0 (show atL 17 from rfl)
  replace h0 := at_step h0 (show atL 18 from rfl)
  replace h0 := at_step h0 (show atL 19 from rfl)
  replace h0 := at_step h0 (show atL 20 from rfl)
  replace h0 := at_step h0 (show atL 21 from rfl)
  replace h0 := at_step h0 (show atL 22 from rfl)
  replace h0 := at_step h0 (show atL 23 from rfl)
  replace h0 := at_step h0 (show atL 24 from rfl)
  replace h0 := at_step h0 (show atL 25 from rfl)
  replace h0 := at_step h0 (show atL 26 from rfl)
  replace h0 := at_step h0 (show atL 27 from rfl)
  replace h0 := at_step h0 (show atL 28 from rfl)
  replace h0 := at_step h0 (show atL 29 from rfl)
  replace h0 := at_step h0 (show atL 30 from rfl)
  exact h0
theorem at_b1 (h0 : ∀ i, i < 31 → atL i) : ∀ i, i < 62 → atL i := by
  replace h0 := at_step h0 (show atL 31 from rfl)
  replace h0 := at_step h0 (show atL 32 from rfl)
  replace h0 := at_step h0 (show atL 33 from rfl)
  replace h0 := at_step h0 (show atL 34 from rfl)
  replace h0 := at_step h0 (show atL 35 from rfl)
  replace h0 := at_step h0 (show atL 36 from rfl)
  replace h0 := at_step h0 (show atL 37 from rfl)
  replace h0 := at_step h0 (show atL 38 from rfl)
  replace h0 := at_step h0 (show atL 39 from rfl)
  replace h0 := at_step h0 (show atL 40 from rfl)
  replace h0 := at_step h0 (show atL 41 from rfl)
  replace h0 := at_step h0 (show atL 42 from rfl)
  replace h0 := at_step h0 (show atL 43 from rfl)
  replace h0 := at_step h0 (show atL 44 from rfl)
  replace h0 := at_step h0 (show atL 45 from rfl)
  replace h0 := at_step h0 (show atL 46 from rfl)
  replace h0 := at_step h0 (show atL 47 from rfl)
  replace h0 := at_step h0 (show atL 48 from rfl)
  replace h0 := at_step h0 (show atL 49 from rfl)
  replace h0 := at_step h0 (show atL 50 from rfl)
  replace h0 := at_step h0 (show atL 51 from rfl)
  replace h0 := at_step h0 (show atL 52 from rfl)
  replace h0 := at_step h0 (show atL 53 from rfl)
  replace h0 := at_step h0 (show atL 54 from rfl)
  replace h0 := at_step h0 (show atL 55 from rfl)
  replace h0 := at_step h0 (show atL 56 from rfl)
  replace h0 := at_step h0 (show atL 57 from rfl)
  replace h0 := at_step h0 (show atL 58 from rfl)
  replace h0 := at_step h0 (show atL 59 from rfl)
  replace h0 := at_step h0 (show atL 60 from rfl)
  replace h0 := at_step h0 (show atL 61 from rfl)
  exact h0
theorem at_b2 (h0 : ∀ i, i < 62 → atL i) : ∀ i, i < 93 → atL i := by
  replace h0 := at_step h0 (show atL 62 from rfl)
  replace h0 := at_step h0 (show atL 63 from rfl)
  replace h0 := at_step h0 (show atL 64 from rfl)
  replace h0 := at_step h0 (show atL 65 from rfl)
  replace h0 := at_step h0 (show atL 66 from rfl)
  replace h0 := at_step h0 (show atL 67 from rfl)
  replace h0 := at_step h0 (show atL 68 from rfl)
  replace h0 := at_step h0 at_72
  replace h0 := at_step h0 at_73
  replace h0 := at_step h0 (show atL 71 from rfl)
  replace h0 := at_step h0 (show atL 72 from rfl)
  replace h0 := at_step h0 (show atL 73 from rfl)
  replace h0 := at_step h0 (show atL 74 from rfl)
  replace h0 := at_step h0 (show atL 75 from rfl)
  replace h0 := at_step h0 (show atL 76 from rfl)
  replace h0 := at_step h0 (show atL 77 from rfl)
  replace h0 := at_step h0 (show atL 78 from rfl)
  replace h0 := at_step h0 (show atL 79 from rfl)
  replace h0 := at_step h0 (show atL 80 from rfl)
  replace h0 := at_step h0 (show atL 81 from rfl)
  replace h0 := at_step h0 (show atL 82 from rfl)
  replace h0 := at_step h0 (show atL 83 from rfl)
  replace h0 := at_step h0 (show atL 84 from rfl)
  replace h0 := at_step h0 (show atL 85 from rfl)
  replace h0 := at_step h0 (show atL 86 from rfl)
  replace h0 := at_step h0 (show atL 87 from rfl)
  replace h0 := at_step h0 (show atL 88 from rfl)
  replace h0 := at_step h0 (show atL 89 from rfl)
  replace h0 := at_step h0 (show atL 90 from rfl)
  replace h0 := at_step h0 (show atL 91 from rfl)
  replace h0 := at_step h0 (show atL 92 from rfl)
  exact h0
theorem at_b3 (h0 : ∀ i, i < 93 → atL i) : ∀ i, i < 124 → atL i := by
  replace h0 := at_step h0 (show atL 93 from rfl)
  replace h0 := at_step h0 (show atL 94 from rfl)
  replace h0 := at_step h0 (show atL 95 from rfl)
  replace h0 := at_step h0 (show atL 96 from rfl)
  replace h0 := at_step h0 (show atL 97 from rfl)
  replace h0 := at_step h0 (show atL 98 from rfl)
  replace h0 := at_step h0 (show atL 99 from rfl)
  replace h0 := at_step h0 (show atL 100 from rfl)
  replace h0 := at_step h0 (show atL 101 from rfl)
  replace h0 := at_step h0 (show atL 102 from rfl)
  replace h0 := at_step h0 (show atL 103 from rfl)
  replace h0 := at_step h0 (show atL 104 from rfl)
  replace h0 := at_step h0 (show atL 105 from rfl)
  replace h0 := at_step h0 (show atL 106 from rfl)
  replace h0 := at_step h0 (show atL 107 from rfl)
  replace h0 := at_step h0 (show atL 108 from rfl)
  replace h0 := at_step h0 (show atL 109 from rfl)
  replace h0 := at_step h0 (show atL 110 from rfl)
  replace h0 := at_step h0 (show atL 111 from rfl)
  replace h0 := at_step h0 (show atL 112 from rfl)
  replace h0 := at_step h0 (show atL 113 from rfl)
  replace h0 := at_step h0 (show atL 114 from rfl)
  replace h0 := at_step h0 (show atL 115 from rfl)
  replace h0 := at_step h0 (show atL 116 from rfl)
  replace h0 := at_step h0 (show atL 117 from rfl)
  replace h0 := at_step h0 (show atL 118 from rfl)
  replace h0 := at_step h0 (show atL 119 from rfl)
  replace h0 := at_step h0 (show atL 120 from rfl)
  replace h0 := at_step h0 (show atL 121 from rfl)
  replace h0 := at_step h0 (show atL 122 from rfl)
  replace h0 := at_step h0 (show atL 123 from rfl)
  exact h0
theorem at_b4 (h0 : ∀ i, i < 124 → atL i) : ∀ i, i < 155 → atL i := by
  replace h0 := at_step h0 (show atL 124 from rfl)
  replace h0 := at_step h0 (show atL 125 from rfl)
  replace h0 := at_step h0 (show atL 126 from rfl)
  replace h0 := at_step h0 (show atL 127 from rfl)
  replace h0 := at_step h0 (show atL 128 from rfl)
  replace h0 := at_step h0 (show atL 129 from rfl)
  replace h0 := at_step h0 (show atL 130 from rfl)
  replace h0 := at_step h0 (show atL 131 from rfl)
  replace h0 := at_step h0 (show atL 132 from rfl)
  replace h0 := at_step h0 (show atL 133 from rfl)
  replace h0 := at_step h0 (show atL 134 from rfl)
  replace h0 := at_step h0 (show atL 135 from rfl)
  replace h0 := at_step h0 (show atL 136 from rfl)
  replace h0 := at_step h0 (show atL 137 from rfl)
  replace h0 := at_step h0 (show atL 138 from rfl)
  replace h0 := at_step h0 (show atL 139 from rfl)
  replace h0 := at_step h0 (show atL 140 from rfl)
  replace h0 := at_step h0 (show atL 141 from rfl)
  replace h0 := at_step h0 (show atL 142 from rfl)
  replace h0 := at_step h0 (show atL 143 from rfl)
  replace h0 := at_step h0 (show atL 144 from rfl)
  replace h0 := at_step h0 (show atL 145 from rfl)
  replace h0 := at_step h0 (show atL 146 from rfl)
  replace h0 := at_step h0 (show atL 147 from rfl)
  replace h0 := at_step h0 (show atL 148 from rfl)
  replace h0 := at_step h0 (show atL 149 from rfl)
  replace h0 := at_step h0 (show atL 150 from rfl)
  replace h0 := at_step h0 (show atL 151 from rfl)
  replace h0 := at_step h0 (show atL 152 from rfl)
  replace h0 := at_step h0 (show atL 153 from rfl)
  replace h0 := at_step h0 (show atL 154 from rfl)
  exact h0
theorem at_all : ∀ i, i < 155 → atL i := at_b4 (at_b3 (at_b2 (at_b1 (at_b0 (fun i hi => absurd hi (Nat.not_lt_zero i))))))
theorem ph_mk : PH g allL m = mk 158 m g rI rJ := by
  have hl : allL.length = 155 := rfl
  refine Prod.ext (show 3 + allL.length = 158 by rw [hl]) (Prod.ext rfl (funext fun a => ?_))
  show (if a < 3 then g a else (allL[a - 3]?).getD (g a)) = if a < 3 then g a else if a < 158 then sh a (rI a) (rJ a) else g a
  by_cases h3 : a < 3
  · rw [if_pos h3, if_pos h3]
  · rw [if_neg h3, if_neg h3]
    by_cases h : a < 158
    · have := at_all (a - 3) (by omega)
      unfold atL at this
      rw [show a - 3 + 3 = a by omega] at this
      rw [if_pos h, this]
      rfl
    · rw [if_neg h, List.getElem?_eq_none (by omega)]
      rfl
theorem o_2 (hk : k < 4) (d : Nat) : zexec d 234 136 [some (.ref 143), some (.int (nI k))] [] (mk n m g I J) = zexec d 234 136 [some (.ref 143), some (.int (nI (k + 1)))] [] (mk n m g (zu I 145 k (-1)) J) := by
  rw [e_X12_init_136]
  simp only [e_X12_init_137, e_X12_init_138, e_X12_init_141, e_X12_init_142, e_X12_init_145, e_X12_init_146, e_X12_init_147, e_X12_init_148, e_X12_init_151, g_143_5, if_neg (show ¬ (4 : Int32) ≤ nI k from nI_ge (b := 4) hk (by decide)), nI_neg (show k < 2 ^ 31 by omega), nI_clamp (show k < 2 ^ 31 by omega), k_148 (show k < 2530 by omega), l_148 (show k < 2530 by omega), k_145 hk, q_145, nI_1, Option.bind_some, Option.isSome_some, Option.toList, List.cons_append, List.nil_append, zclr_i, zclr_r, zclr_n, zfit_i, zfit_l, and_self, if_true, if_false]
def rI4 : Nat → Nat → Int32 := zu (zu (zu (zu rI 145 0 (-1)) 145 1 (-1)) 145 2 (-1)) 145 3 (-1)
def rI5 : Nat → Nat → Int32 := zr rI4 148 (emp 0 (rI4 148))
set_option maxRecDepth 100000 in
theorem i_Model (d : Nat) : zcall (d + 2) 234 [.ref 143] (PH g (cs_17 ++ [.inr (12, zdef 12)]) m) = some (none, mk 158 (m + 8380) g rI5 rJ) := by
  have he := v_empties (n := 158) (m := m + 8380) (g := g) (Y := rI4) (JY := rJ) (B := 0) (by decide) d
  rw [m_X12_init, o_1 (a := 143) rfl]
  show zexec (d + 2) 234 136 [some (.ref 143), some (.int (nI 0))] [] (PH g allL (m + 8380)) = _
  rw [ph_mk, o_2 (by decide), o_2 (by decide), o_2 (by decide), o_2 (by decide), e_X12_init_136]
  show zexec (d + 2) 234 137 [some (.ref 143), some (.int (nI 4))] [.int (nI 4)] (mk 158 (m + 8380) g rI4 rJ) = _
  simp only [e_X12_init_137, e_X12_init_138, e_X12_init_154, e_X12_init_155, e_X12_init_156, e_X12_init_159, c_143, if_pos (show (4 : Int32) ≤ nI 4 by decide), show (0 : Int32) = nI 0 from rfl, he, Option.bind_some, Option.isSome_some, Option.toList, List.cons_append, List.nil_append, zclr_i, zclr_r, zclr_n, zfit_i, zfit_l, and_self, if_true, if_false]
  rfl
end PMS
