/-! THE LAW (written by wip/whole/gen_law.py) -/
section LW
variable {n m : Nat} {g : Nat → zC} {I : Nat → Nat → Int32} {J : Nat → Nat → Int64} {L i N S : Nat} {xs : Nat → Int32}
def LwS (i pc : Nat) (n m : Nat) (g : Nat → zC) (I : Nat → Nat → Int32) (J : Nat → Nat → Int64) : Prop := ∃ n' m' g' I2 J2 N' S', zexec 60 415 pc [some (.ref 0), some (.ref 3), some (.ref 143), some (.int (nI i))] [] (mk n m g I J) = zexec 60 415 2034 [some (.ref 0), some (.ref 3), some (.ref 143), some (.int (nI i))] [] (mk n' m' g' I2 J2) ∧ Inv I2 J2 N' S' ∧ n ≤ n' ∧ n' ≤ n + 2 ∧ m' ≤ m + 8 ∧ g' 0 = g 0
theorem i_1 (i : Nat) : nI i + 1 = nI (i + 1) := nI_add i 1
theorem i_2 (i : Nat) : nI i + 2 = nI (i + 2) := nI_add i 2
theorem i_3 (i : Nat) : nI i + 3 = nI (i + 3) := nI_add i 3
theorem i_4 (i : Nat) : nI i + 4 = nI (i + 4) := nI_add i 4
theorem i_5 (i : Nat) : nI i + 5 = nI (i + 5) := nI_add i 5
theorem law_0 (h : Inv I J N S) (hn : 158 ≤ n) (hs : g 0 = .inl (.short, L, .inl xs)) (hi : i + 6 ≤ L) (hL : L ≤ 3072) : LwS i 292 n m g I J := by
  have h31 : L < 2 ^ 31 := by omega
  obtain ⟨v, M1, n', m', g', I2, J2, N', S', c1, c2, hI, l1, l2, l3, l4, l5, l6⟩ := (q_status (n := n) (m := m) (g := g)  h 29).w
  obtain ⟨u, rfl⟩ := zcall_int c1 (by decide +kernel)
  have s0 : M1.2.2 0 = .inl (.short, L, .inl xs) := (l5 0 (by decide)).trans hs
  have m0 : (mk n m g I J).2.2 0 = .inl (.short, L, .inl xs) := hs
  have c1 : zcall 59 154 _ _ = _ := c1
  have c2 : zcall 59 235 _ _ = _ := c2
  refine ⟨n', m', g', I2, J2, N', S', ?_, hI, l1, l2, l3, l4 0 (by decide)⟩
  simp only [e_L_law_292, e_L_law_293, e_L_law_296, e_L_law_297, e_L_law_300, e_L_law_303, e_L_law_304, c_3, c1, l6, c2, sc_ld m0 (show i + 1 < L by omega) h31, sc_ld s0 (show i + 1 < L by omega) h31, sc_ld m0 (show i + 2 < L by omega) h31, sc_ld s0 (show i + 2 < L by omega) h31, sc_ld m0 (show i + 3 < L by omega) h31, sc_ld s0 (show i + 3 < L by omega) h31, sc_ld m0 (show i + 4 < L by omega) h31, sc_ld s0 (show i + 4 < L by omega) h31, sc_ld m0 (show i + 5 < L by omega) h31, sc_ld s0 (show i + 5 < L by omega) h31, i_1, i_2, i_3, i_4, i_5, lg_eq, eq_self, Option.bind_some, Option.isSome_some, Option.toList, List.cons_append, List.nil_append, zclr_i, zclr_r, zclr_n, zfit_i, zfit_l, and_self, if_true, if_false]
theorem law_1 (h : Inv I J N S) (hn : 158 ≤ n) (hs : g 0 = .inl (.short, L, .inl xs)) (hi : i + 6 ≤ L) (hL : L ≤ 3072) : LwS i 305 n m g I J := by
  have h31 : L < 2 ^ 31 := by omega
  obtain ⟨v, M1, n', m', g', I2, J2, N', S', c1, c2, hI, l1, l2, l3, l4, l5, l6⟩ := (q_top (n := n) (m := m) (g := g)  h 29).w
  obtain ⟨u, rfl⟩ := zcall_long c1 (by decide +kernel)
  have s0 : M1.2.2 0 = .inl (.short, L, .inl xs) := (l5 0 (by decide)).trans hs
  have m0 : (mk n m g I J).2.2 0 = .inl (.short, L, .inl xs) := hs
  have c1 : zcall 59 155 _ _ = _ := c1
  have c2 : zcall 59 236 _ _ = _ := c2
  refine ⟨n', m', g', I2, J2, N', S', ?_, hI, l1, l2, l3, l4 0 (by decide)⟩
  simp only [e_L_law_305, e_L_law_306, e_L_law_309, e_L_law_310, e_L_law_313, e_L_law_314, e_L_law_317, e_L_law_318, c_3, c1, l6, c2, sc_ld m0 (show i + 1 < L by omega) h31, sc_ld s0 (show i + 1 < L by omega) h31, sc_ld m0 (show i + 2 < L by omega) h31, sc_ld s0 (show i + 2 < L by omega) h31, sc_ld m0 (show i + 3 < L by omega) h31, sc_ld s0 (show i + 3 < L by omega) h31, sc_ld m0 (show i + 4 < L by omega) h31, sc_ld s0 (show i + 4 < L by omega) h31, sc_ld m0 (show i + 5 < L by omega) h31, sc_ld s0 (show i + 5 < L by omega) h31, i_1, i_2, i_3, i_4, i_5, lg_eq, eq_self, Option.bind_some, Option.isSome_some, Option.toList, List.cons_append, List.nil_append, zclr_i, zclr_r, zclr_n, zfit_i, zfit_l, and_self, if_true, if_false]
theorem law_2 (h : Inv I J N S) (hn : 158 ≤ n) (hs : g 0 = .inl (.short, L, .inl xs)) (hi : i + 6 ≤ L) (hL : L ≤ 3072) : LwS i 319 n m g I J := by
  have h31 : L < 2 ^ 31 := by omega
  obtain ⟨v, M1, n', m', g', I2, J2, N', S', c1, c2, hI, l1, l2, l3, l4, l5, l6⟩ := (q_bottom (n := n) (m := m) (g := g)  h 29).w
  obtain ⟨u, rfl⟩ := zcall_long c1 (by decide +kernel)
  have s0 : M1.2.2 0 = .inl (.short, L, .inl xs) := (l5 0 (by decide)).trans hs
  have m0 : (mk n m g I J).2.2 0 = .inl (.short, L, .inl xs) := hs
  have c1 : zcall 59 156 _ _ = _ := c1
  have c2 : zcall 59 237 _ _ = _ := c2
  refine ⟨n', m', g', I2, J2, N', S', ?_, hI, l1, l2, l3, l4 0 (by decide)⟩
  simp only [e_L_law_319, e_L_law_320, e_L_law_323, e_L_law_324, e_L_law_327, e_L_law_328, e_L_law_331, e_L_law_332, c_3, c1, l6, c2, sc_ld m0 (show i + 1 < L by omega) h31, sc_ld s0 (show i + 1 < L by omega) h31, sc_ld m0 (show i + 2 < L by omega) h31, sc_ld s0 (show i + 2 < L by omega) h31, sc_ld m0 (show i + 3 < L by omega) h31, sc_ld s0 (show i + 3 < L by omega) h31, sc_ld m0 (show i + 4 < L by omega) h31, sc_ld s0 (show i + 4 < L by omega) h31, sc_ld m0 (show i + 5 < L by omega) h31, sc_ld s0 (show i + 5 < L by omega) h31, i_1, i_2, i_3, i_4, i_5, lg_eq, eq_self, Option.bind_some, Option.isSome_some, Option.toList, List.cons_append, List.nil_append, zclr_i, zclr_r, zclr_n, zfit_i, zfit_l, and_self, if_true, if_false]
theorem law_3 (h : Inv I J N S) (hn : 158 ≤ n) (hs : g 0 = .inl (.short, L, .inl xs)) (hi : i + 6 ≤ L) (hL : L ≤ 3072) : LwS i 333 n m g I J := by
  have h31 : L < 2 ^ 31 := by omega
  obtain ⟨v, M1, n', m', g', I2, J2, N', S', c1, c2, hI, l1, l2, l3, l4, l5, l6⟩ := (q_tray (n := n) (m := m) (g := g) (x := xs (i + 1)) (s := xs (i + 2)) (k := xs (i + 3)) h 29).w
  obtain ⟨u, rfl⟩ := zcall_int c1 (by decide +kernel)
  have s0 : M1.2.2 0 = .inl (.short, L, .inl xs) := (l5 0 (by decide)).trans hs
  have m0 : (mk n m g I J).2.2 0 = .inl (.short, L, .inl xs) := hs
  have c1 : zcall 59 157 _ _ = _ := c1
  have c2 : zcall 59 243 _ _ = _ := c2
  refine ⟨n', m', g', I2, J2, N', S', ?_, hI, l1, l2, l3, l4 0 (by decide)⟩
  simp only [e_L_law_333, e_L_law_334, e_L_law_335, e_L_law_336, e_L_law_337, e_L_law_338, e_L_law_339, e_L_law_340, e_L_law_341, e_L_law_342, e_L_law_343, e_L_law_344, e_L_law_345, e_L_law_346, e_L_law_347, e_L_law_348, e_L_law_349, e_L_law_352, e_L_law_353, e_L_law_354, e_L_law_355, e_L_law_356, e_L_law_357, e_L_law_358, e_L_law_359, e_L_law_360, e_L_law_361, e_L_law_362, e_L_law_363, e_L_law_364, e_L_law_365, e_L_law_366, e_L_law_367, e_L_law_368, e_L_law_371, e_L_law_374, e_L_law_375, c_3, c1, l6, c2, sc_ld m0 (show i + 1 < L by omega) h31, sc_ld s0 (show i + 1 < L by omega) h31, sc_ld m0 (show i + 2 < L by omega) h31, sc_ld s0 (show i + 2 < L by omega) h31, sc_ld m0 (show i + 3 < L by omega) h31, sc_ld s0 (show i + 3 < L by omega) h31, sc_ld m0 (show i + 4 < L by omega) h31, sc_ld s0 (show i + 4 < L by omega) h31, sc_ld m0 (show i + 5 < L by omega) h31, sc_ld s0 (show i + 5 < L by omega) h31, i_1, i_2, i_3, i_4, i_5, lg_eq, eq_self, Option.bind_some, Option.isSome_some, Option.toList, List.cons_append, List.nil_append, zclr_i, zclr_r, zclr_n, zfit_i, zfit_l, and_self, if_true, if_false]
theorem law_4 (h : Inv I J N S) (hn : 158 ≤ n) (hs : g 0 = .inl (.short, L, .inl xs)) (hi : i + 6 ≤ L) (hL : L ≤ 3072) : LwS i 376 n m g I J := by
  have h31 : L < 2 ^ 31 := by omega
  obtain ⟨v, M1, n', m', g', I2, J2, N', S', c1, c2, hI, l1, l2, l3, l4, l5, l6⟩ := (q_write (n := n) (m := m) (g := g) (x := xs (i + 1)) (p := xs (i + 2)) (v := (xs (i + 3)).toInt64 <<< ((32 : Int32).toInt64 &&& 63) ||| (xs (i + 4)).toInt64 &&& 4294967295) h 29).w
  obtain ⟨u, rfl⟩ := zcall_int c1 (by decide +kernel)
  have s0 : M1.2.2 0 = .inl (.short, L, .inl xs) := (l5 0 (by decide)).trans hs
  have m0 : (mk n m g I J).2.2 0 = .inl (.short, L, .inl xs) := hs
  have c1 : zcall 59 158 _ _ = _ := c1
  have c2 : zcall 59 246 _ _ = _ := c2
  refine ⟨n', m', g', I2, J2, N', S', ?_, hI, l1, l2, l3, l4 0 (by decide)⟩
  simp only [e_L_law_376, e_L_law_377, e_L_law_378, e_L_law_379, e_L_law_380, e_L_law_381, e_L_law_382, e_L_law_383, e_L_law_384, e_L_law_385, e_L_law_386, e_L_law_387, e_L_law_388, e_L_law_389, e_L_law_390, e_L_law_391, e_L_law_392, e_L_law_393, e_L_law_395, e_L_law_396, e_L_law_397, e_L_law_398, e_L_law_399, e_L_law_400, e_L_law_401, e_L_law_402, e_L_law_405, e_L_law_406, e_L_law_407, e_L_law_410, e_L_law_411, e_L_law_412, e_L_law_413, e_L_law_414, e_L_law_415, e_L_law_416, e_L_law_417, e_L_law_418, e_L_law_419, e_L_law_420, e_L_law_421, e_L_law_422, e_L_law_423, e_L_law_424, e_L_law_425, e_L_law_426, e_L_law_427, e_L_law_429, e_L_law_430, e_L_law_431, e_L_law_432, e_L_law_433, e_L_law_434, e_L_law_435, e_L_law_436, e_L_law_439, e_L_law_440, e_L_law_441, e_L_law_444, e_L_law_447, e_L_law_448, c_3, c1, l6, c2, sc_ld m0 (show i + 1 < L by omega) h31, sc_ld s0 (show i + 1 < L by omega) h31, sc_ld m0 (show i + 2 < L by omega) h31, sc_ld s0 (show i + 2 < L by omega) h31, sc_ld m0 (show i + 3 < L by omega) h31, sc_ld s0 (show i + 3 < L by omega) h31, sc_ld m0 (show i + 4 < L by omega) h31, sc_ld s0 (show i + 4 < L by omega) h31, sc_ld m0 (show i + 5 < L by omega) h31, sc_ld s0 (show i + 5 < L by omega) h31, i_1, i_2, i_3, i_4, i_5, eq_self, Option.bind_some, Option.isSome_some, Option.toList, List.cons_append, List.nil_append, zclr_i, zclr_r, zclr_n, zfit_i, zfit_l, and_self, if_true, if_false]
theorem law_5 (h : Inv I J N S) (hn : 158 ≤ n) (hs : g 0 = .inl (.short, L, .inl xs)) (hi : i + 6 ≤ L) (hL : L ≤ 3072) : LwS i 449 n m g I J := by
  have h31 : L < 2 ^ 31 := by omega
  obtain ⟨v, M1, n', m', g', I2, J2, N', S', c1, c2, hI, l1, l2, l3, l4, l5, l6⟩ := (q_read (n := n) (m := m) (g := g) (x := xs (i + 1)) (p := xs (i + 2)) h 29).w
  obtain ⟨u, rfl⟩ := zcall_long c1 (by decide +kernel)
  have s0 : M1.2.2 0 = .inl (.short, L, .inl xs) := (l5 0 (by decide)).trans hs
  have m0 : (mk n m g I J).2.2 0 = .inl (.short, L, .inl xs) := hs
  have c1 : zcall 59 159 _ _ = _ := c1
  have c2 : zcall 59 247 _ _ = _ := c2
  refine ⟨n', m', g', I2, J2, N', S', ?_, hI, l1, l2, l3, l4 0 (by decide)⟩
  simp only [e_L_law_449, e_L_law_450, e_L_law_451, e_L_law_452, e_L_law_453, e_L_law_454, e_L_law_455, e_L_law_456, e_L_law_457, e_L_law_458, e_L_law_459, e_L_law_460, e_L_law_463, e_L_law_464, e_L_law_465, e_L_law_466, e_L_law_467, e_L_law_468, e_L_law_469, e_L_law_470, e_L_law_471, e_L_law_472, e_L_law_473, e_L_law_474, e_L_law_477, e_L_law_478, e_L_law_481, e_L_law_482, c_3, c1, l6, c2, sc_ld m0 (show i + 1 < L by omega) h31, sc_ld s0 (show i + 1 < L by omega) h31, sc_ld m0 (show i + 2 < L by omega) h31, sc_ld s0 (show i + 2 < L by omega) h31, sc_ld m0 (show i + 3 < L by omega) h31, sc_ld s0 (show i + 3 < L by omega) h31, sc_ld m0 (show i + 4 < L by omega) h31, sc_ld s0 (show i + 4 < L by omega) h31, sc_ld m0 (show i + 5 < L by omega) h31, sc_ld s0 (show i + 5 < L by omega) h31, i_1, i_2, i_3, i_4, i_5, lg_eq, eq_self, Option.bind_some, Option.isSome_some, Option.toList, List.cons_append, List.nil_append, zclr_i, zclr_r, zclr_n, zfit_i, zfit_l, and_self, if_true, if_false]
theorem law_6 (h : Inv I J N S) (hn : 158 ≤ n) (hs : g 0 = .inl (.short, L, .inl xs)) (hi : i + 6 ≤ L) (hL : L ≤ 3072) : LwS i 483 n m g I J := by
  have h31 : L < 2 ^ 31 := by omega
  obtain ⟨v, M1, n', m', g', I2, J2, N', S', c1, c2, hI, l1, l2, l3, l4, l5, l6⟩ := (q_pour (n := n) (m := m) (g := g) (x := xs (i + 1)) (i := xs (i + 2)) (y := xs (i + 3)) (j := xs (i + 4)) (k := xs (i + 5)) h 29).w
  obtain ⟨u, rfl⟩ := zcall_int c1 (by decide +kernel)
  have s0 : M1.2.2 0 = .inl (.short, L, .inl xs) := (l5 0 (by decide)).trans hs
  have m0 : (mk n m g I J).2.2 0 = .inl (.short, L, .inl xs) := hs
  have c1 : zcall 59 160 _ _ = _ := c1
  have c2 : zcall 59 248 _ _ = _ := c2
  refine ⟨n', m', g', I2, J2, N', S', ?_, hI, l1, l2, l3, l4 0 (by decide)⟩
  simp only [e_L_law_483, e_L_law_484, e_L_law_485, e_L_law_486, e_L_law_487, e_L_law_488, e_L_law_489, e_L_law_490, e_L_law_491, e_L_law_492, e_L_law_493, e_L_law_494, e_L_law_495, e_L_law_496, e_L_law_497, e_L_law_498, e_L_law_499, e_L_law_500, e_L_law_501, e_L_law_502, e_L_law_503, e_L_law_504, e_L_law_505, e_L_law_506, e_L_law_507, e_L_law_508, e_L_law_509, e_L_law_512, e_L_law_513, e_L_law_514, e_L_law_515, e_L_law_516, e_L_law_517, e_L_law_518, e_L_law_519, e_L_law_520, e_L_law_521, e_L_law_522, e_L_law_523, e_L_law_524, e_L_law_525, e_L_law_526, e_L_law_527, e_L_law_528, e_L_law_529, e_L_law_530, e_L_law_531, e_L_law_532, e_L_law_533, e_L_law_534, e_L_law_535, e_L_law_536, e_L_law_537, e_L_law_538, e_L_law_541, e_L_law_544, e_L_law_545, c_3, c1, l6, c2, sc_ld m0 (show i + 1 < L by omega) h31, sc_ld s0 (show i + 1 < L by omega) h31, sc_ld m0 (show i + 2 < L by omega) h31, sc_ld s0 (show i + 2 < L by omega) h31, sc_ld m0 (show i + 3 < L by omega) h31, sc_ld s0 (show i + 3 < L by omega) h31, sc_ld m0 (show i + 4 < L by omega) h31, sc_ld s0 (show i + 4 < L by omega) h31, sc_ld m0 (show i + 5 < L by omega) h31, sc_ld s0 (show i + 5 < L by omega) h31, i_1, i_2, i_3, i_4, i_5, lg_eq, eq_self, Option.bind_some, Option.isSome_some, Option.toList, List.cons_append, List.nil_append, zclr_i, zclr_r, zclr_n, zfit_i, zfit_l, and_self, if_true, if_false]
theorem law_7 (h : Inv I J N S) (hn : 158 ≤ n) (hs : g 0 = .inl (.short, L, .inl xs)) (hi : i + 6 ≤ L) (hL : L ≤ 3072) : LwS i 546 n m g I J := by
  have h31 : L < 2 ^ 31 := by omega
  obtain ⟨v, M1, n', m', g', I2, J2, N', S', c1, c2, hI, l1, l2, l3, l4, l5, l6⟩ := (q_feed (n := n) (m := m) (g := g) (a := xs (i + 1)) (b := xs (i + 2)) (c := xs (i + 3)) (e := xs (i + 4)) (f := xs (i + 5)) h 29).w
  obtain ⟨u, rfl⟩ := zcall_int c1 (by decide +kernel)
  have s0 : M1.2.2 0 = .inl (.short, L, .inl xs) := (l5 0 (by decide)).trans hs
  have m0 : (mk n m g I J).2.2 0 = .inl (.short, L, .inl xs) := hs
  have c1 : zcall 59 161 _ _ = _ := c1
  have c2 : zcall 59 285 _ _ = _ := c2
  refine ⟨n', m', g', I2, J2, N', S', ?_, hI, l1, l2, l3, l4 0 (by decide)⟩
  simp only [e_L_law_546, e_L_law_547, e_L_law_548, e_L_law_549, e_L_law_550, e_L_law_551, e_L_law_552, e_L_law_553, e_L_law_554, e_L_law_555, e_L_law_556, e_L_law_557, e_L_law_558, e_L_law_559, e_L_law_560, e_L_law_561, e_L_law_562, e_L_law_563, e_L_law_564, e_L_law_565, e_L_law_566, e_L_law_567, e_L_law_568, e_L_law_569, e_L_law_570, e_L_law_571, e_L_law_572, e_L_law_575, e_L_law_576, e_L_law_577, e_L_law_578, e_L_law_579, e_L_law_580, e_L_law_581, e_L_law_582, e_L_law_583, e_L_law_584, e_L_law_585, e_L_law_586, e_L_law_587, e_L_law_588, e_L_law_589, e_L_law_590, e_L_law_591, e_L_law_592, e_L_law_593, e_L_law_594, e_L_law_595, e_L_law_596, e_L_law_597, e_L_law_598, e_L_law_599, e_L_law_600, e_L_law_601, e_L_law_604, e_L_law_607, e_L_law_608, c_3, c1, l6, c2, sc_ld m0 (show i + 1 < L by omega) h31, sc_ld s0 (show i + 1 < L by omega) h31, sc_ld m0 (show i + 2 < L by omega) h31, sc_ld s0 (show i + 2 < L by omega) h31, sc_ld m0 (show i + 3 < L by omega) h31, sc_ld s0 (show i + 3 < L by omega) h31, sc_ld m0 (show i + 4 < L by omega) h31, sc_ld s0 (show i + 4 < L by omega) h31, sc_ld m0 (show i + 5 < L by omega) h31, sc_ld s0 (show i + 5 < L by omega) h31, i_1, i_2, i_3, i_4, i_5, lg_eq, eq_self, Option.bind_some, Option.isSome_some, Option.toList, List.cons_append, List.nil_append, zclr_i, zclr_r, zclr_n, zfit_i, zfit_l, and_self, if_true, if_false]
theorem law_8 (h : Inv I J N S) (hn : 158 ≤ n) (hs : g 0 = .inl (.short, L, .inl xs)) (hi : i + 6 ≤ L) (hL : L ≤ 3072) : LwS i 609 n m g I J := by
  have h31 : L < 2 ^ 31 := by omega
  obtain ⟨v, M1, n', m', g', I2, J2, N', S', c1, c2, hI, l1, l2, l3, l4, l5, l6⟩ := (q_town (n := n) (m := m) (g := g) (x := xs (i + 1)) h hn 29)
  obtain ⟨u, rfl⟩ := zcall_int c1 (by decide +kernel)
  have s0 : M1.2.2 0 = .inl (.short, L, .inl xs) := (l5 0 (by decide)).trans hs
  have m0 : (mk n m g I J).2.2 0 = .inl (.short, L, .inl xs) := hs
  have c1 : zcall 59 162 _ _ = _ := c1
  have c2 : zcall 59 306 _ _ = _ := c2
  refine ⟨n', m', g', I2, J2, N', S', ?_, hI, l1, l2, l3, l4 0 (by decide)⟩
  simp only [e_L_law_609, e_L_law_610, e_L_law_611, e_L_law_612, e_L_law_613, e_L_law_614, e_L_law_615, e_L_law_618, e_L_law_619, e_L_law_620, e_L_law_621, e_L_law_622, e_L_law_623, e_L_law_624, e_L_law_627, e_L_law_630, e_L_law_631, c_3, c1, l6, c2, sc_ld m0 (show i + 1 < L by omega) h31, sc_ld s0 (show i + 1 < L by omega) h31, sc_ld m0 (show i + 2 < L by omega) h31, sc_ld s0 (show i + 2 < L by omega) h31, sc_ld m0 (show i + 3 < L by omega) h31, sc_ld s0 (show i + 3 < L by omega) h31, sc_ld m0 (show i + 4 < L by omega) h31, sc_ld s0 (show i + 4 < L by omega) h31, sc_ld m0 (show i + 5 < L by omega) h31, sc_ld s0 (show i + 5 < L by omega) h31, i_1, i_2, i_3, i_4, i_5, lg_eq, eq_self, Option.bind_some, Option.isSome_some, Option.toList, List.cons_append, List.nil_append, zclr_i, zclr_r, zclr_n, zfit_i, zfit_l, and_self, if_true, if_false]
theorem law_9 (h : Inv I J N S) (hn : 158 ≤ n) (hs : g 0 = .inl (.short, L, .inl xs)) (hi : i + 6 ≤ L) (hL : L ≤ 3072) : LwS i 632 n m g I J := by
  have h31 : L < 2 ^ 31 := by omega
  obtain ⟨v, M1, n', m', g', I2, J2, N', S', c1, c2, hI, l1, l2, l3, l4, l5, l6⟩ := (q_centuries (n := n) (m := m) (g := g) (x := xs (i + 1)) h hn 29)
  obtain ⟨u, rfl⟩ := zcall_int c1 (by decide +kernel)
  have s0 : M1.2.2 0 = .inl (.short, L, .inl xs) := (l5 0 (by decide)).trans hs
  have m0 : (mk n m g I J).2.2 0 = .inl (.short, L, .inl xs) := hs
  have c1 : zcall 59 163 _ _ = _ := c1
  have c2 : zcall 59 310 _ _ = _ := c2
  refine ⟨n', m', g', I2, J2, N', S', ?_, hI, l1, l2, l3, l4 0 (by decide)⟩
  simp only [e_L_law_632, e_L_law_633, e_L_law_634, e_L_law_635, e_L_law_636, e_L_law_637, e_L_law_638, e_L_law_641, e_L_law_642, e_L_law_643, e_L_law_644, e_L_law_645, e_L_law_646, e_L_law_647, e_L_law_650, e_L_law_653, e_L_law_654, c_3, c1, l6, c2, sc_ld m0 (show i + 1 < L by omega) h31, sc_ld s0 (show i + 1 < L by omega) h31, sc_ld m0 (show i + 2 < L by omega) h31, sc_ld s0 (show i + 2 < L by omega) h31, sc_ld m0 (show i + 3 < L by omega) h31, sc_ld s0 (show i + 3 < L by omega) h31, sc_ld m0 (show i + 4 < L by omega) h31, sc_ld s0 (show i + 4 < L by omega) h31, sc_ld m0 (show i + 5 < L by omega) h31, sc_ld s0 (show i + 5 < L by omega) h31, i_1, i_2, i_3, i_4, i_5, lg_eq, eq_self, Option.bind_some, Option.isSome_some, Option.toList, List.cons_append, List.nil_append, zclr_i, zclr_r, zclr_n, zfit_i, zfit_l, and_self, if_true, if_false]
theorem law_10 (h : Inv I J N S) (hn : 158 ≤ n) (hs : g 0 = .inl (.short, L, .inl xs)) (hi : i + 6 ≤ L) (hL : L ≤ 3072) : LwS i 655 n m g I J := by
  have h31 : L < 2 ^ 31 := by omega
  obtain ⟨v, M1, n', m', g', I2, J2, N', S', c1, c2, hI, l1, l2, l3, l4, l5, l6⟩ := (q_fault (n := n) (m := m) (g := g) (x := xs (i + 1)) h 29).w
  obtain ⟨u, rfl⟩ := zcall_int c1 (by decide +kernel)
  have s0 : M1.2.2 0 = .inl (.short, L, .inl xs) := (l5 0 (by decide)).trans hs
  have m0 : (mk n m g I J).2.2 0 = .inl (.short, L, .inl xs) := hs
  have c1 : zcall 59 164 _ _ = _ := c1
  have c2 : zcall 59 289 _ _ = _ := c2
  refine ⟨n', m', g', I2, J2, N', S', ?_, hI, l1, l2, l3, l4 0 (by decide)⟩
  simp only [e_L_law_655, e_L_law_656, e_L_law_657, e_L_law_658, e_L_law_659, e_L_law_660, e_L_law_661, e_L_law_664, e_L_law_665, e_L_law_666, e_L_law_667, e_L_law_668, e_L_law_669, e_L_law_670, e_L_law_673, e_L_law_676, e_L_law_677, c_3, c1, l6, c2, sc_ld m0 (show i + 1 < L by omega) h31, sc_ld s0 (show i + 1 < L by omega) h31, sc_ld m0 (show i + 2 < L by omega) h31, sc_ld s0 (show i + 2 < L by omega) h31, sc_ld m0 (show i + 3 < L by omega) h31, sc_ld s0 (show i + 3 < L by omega) h31, sc_ld m0 (show i + 4 < L by omega) h31, sc_ld s0 (show i + 4 < L by omega) h31, sc_ld m0 (show i + 5 < L by omega) h31, sc_ld s0 (show i + 5 < L by omega) h31, i_1, i_2, i_3, i_4, i_5, lg_eq, eq_self, Option.bind_some, Option.isSome_some, Option.toList, List.cons_append, List.nil_append, zclr_i, zclr_r, zclr_n, zfit_i, zfit_l, and_self, if_true, if_false]
theorem law_11 (h : Inv I J N S) (hn : 158 ≤ n) (hs : g 0 = .inl (.short, L, .inl xs)) (hi : i + 6 ≤ L) (hL : L ≤ 3072) : LwS i 678 n m g I J := by
  have h31 : L < 2 ^ 31 := by omega
  obtain ⟨v, M1, n', m', g', I2, J2, N', S', c1, c2, hI, l1, l2, l3, l4, l5, l6⟩ := (q_many (n := n) (m := m) (g := g) (x := xs (i + 1)) h 29).w
  obtain ⟨u, rfl⟩ := zcall_int c1 (by decide +kernel)
  have s0 : M1.2.2 0 = .inl (.short, L, .inl xs) := (l5 0 (by decide)).trans hs
  have m0 : (mk n m g I J).2.2 0 = .inl (.short, L, .inl xs) := hs
  have c1 : zcall 59 165 _ _ = _ := c1
  have c2 : zcall 59 321 _ _ = _ := c2
  refine ⟨n', m', g', I2, J2, N', S', ?_, hI, l1, l2, l3, l4 0 (by decide)⟩
  simp only [e_L_law_678, e_L_law_679, e_L_law_680, e_L_law_681, e_L_law_682, e_L_law_683, e_L_law_684, e_L_law_687, e_L_law_688, e_L_law_689, e_L_law_690, e_L_law_691, e_L_law_692, e_L_law_693, e_L_law_696, e_L_law_699, e_L_law_700, c_3, c1, l6, c2, sc_ld m0 (show i + 1 < L by omega) h31, sc_ld s0 (show i + 1 < L by omega) h31, sc_ld m0 (show i + 2 < L by omega) h31, sc_ld s0 (show i + 2 < L by omega) h31, sc_ld m0 (show i + 3 < L by omega) h31, sc_ld s0 (show i + 3 < L by omega) h31, sc_ld m0 (show i + 4 < L by omega) h31, sc_ld s0 (show i + 4 < L by omega) h31, sc_ld m0 (show i + 5 < L by omega) h31, sc_ld s0 (show i + 5 < L by omega) h31, i_1, i_2, i_3, i_4, i_5, lg_eq, eq_self, Option.bind_some, Option.isSome_some, Option.toList, List.cons_append, List.nil_append, zclr_i, zclr_r, zclr_n, zfit_i, zfit_l, and_self, if_true, if_false]
theorem law_12 (h : Inv I J N S) (hn : 158 ≤ n) (hs : g 0 = .inl (.short, L, .inl xs)) (hi : i + 6 ≤ L) (hL : L ≤ 3072) : LwS i 701 n m g I J := by
  have h31 : L < 2 ^ 31 := by omega
  obtain ⟨v, M1, n', m', g', I2, J2, N', S', c1, c2, hI, l1, l2, l3, l4, l5, l6⟩ := (q_surname (n := n) (m := m) (g := g) (x := xs (i + 1)) (y := xs (i + 2)) h 29).w
  obtain ⟨u, rfl⟩ := zcall_int c1 (by decide +kernel)
  have s0 : M1.2.2 0 = .inl (.short, L, .inl xs) := (l5 0 (by decide)).trans hs
  have m0 : (mk n m g I J).2.2 0 = .inl (.short, L, .inl xs) := hs
  have c1 : zcall 59 166 _ _ = _ := c1
  have c2 : zcall 59 322 _ _ = _ := c2
  refine ⟨n', m', g', I2, J2, N', S', ?_, hI, l1, l2, l3, l4 0 (by decide)⟩
  simp only [e_L_law_701, e_L_law_702, e_L_law_703, e_L_law_704, e_L_law_705, e_L_law_706, e_L_law_707, e_L_law_708, e_L_law_709, e_L_law_710, e_L_law_711, e_L_law_712, e_L_law_715, e_L_law_716, e_L_law_717, e_L_law_718, e_L_law_719, e_L_law_720, e_L_law_721, e_L_law_722, e_L_law_723, e_L_law_724, e_L_law_725, e_L_law_726, e_L_law_729, e_L_law_732, e_L_law_733, c_3, c1, l6, c2, sc_ld m0 (show i + 1 < L by omega) h31, sc_ld s0 (show i + 1 < L by omega) h31, sc_ld m0 (show i + 2 < L by omega) h31, sc_ld s0 (show i + 2 < L by omega) h31, sc_ld m0 (show i + 3 < L by omega) h31, sc_ld s0 (show i + 3 < L by omega) h31, sc_ld m0 (show i + 4 < L by omega) h31, sc_ld s0 (show i + 4 < L by omega) h31, sc_ld m0 (show i + 5 < L by omega) h31, sc_ld s0 (show i + 5 < L by omega) h31, i_1, i_2, i_3, i_4, i_5, lg_eq, eq_self, Option.bind_some, Option.isSome_some, Option.toList, List.cons_append, List.nil_append, zclr_i, zclr_r, zclr_n, zfit_i, zfit_l, and_self, if_true, if_false]
theorem law_13 (h : Inv I J N S) (hn : 158 ≤ n) (hs : g 0 = .inl (.short, L, .inl xs)) (hi : i + 6 ≤ L) (hL : L ≤ 3072) : LwS i 734 n m g I J := by
  have h31 : L < 2 ^ 31 := by omega
  obtain ⟨v, M1, n', m', g', I2, J2, N', S', c1, c2, hI, l1, l2, l3, l4, l5, l6⟩ := (q_person (n := n) (m := m) (g := g) (x := xs (i + 1)) (y := xs (i + 2)) h 29).w
  obtain ⟨u, rfl⟩ := zcall_int c1 (by decide +kernel)
  have s0 : M1.2.2 0 = .inl (.short, L, .inl xs) := (l5 0 (by decide)).trans hs
  have m0 : (mk n m g I J).2.2 0 = .inl (.short, L, .inl xs) := hs
  have c1 : zcall 59 167 _ _ = _ := c1
  have c2 : zcall 59 323 _ _ = _ := c2
  refine ⟨n', m', g', I2, J2, N', S', ?_, hI, l1, l2, l3, l4 0 (by decide)⟩
  simp only [e_L_law_734, e_L_law_735, e_L_law_736, e_L_law_737, e_L_law_738, e_L_law_739, e_L_law_740, e_L_law_741, e_L_law_742, e_L_law_743, e_L_law_744, e_L_law_745, e_L_law_748, e_L_law_749, e_L_law_750, e_L_law_751, e_L_law_752, e_L_law_753, e_L_law_754, e_L_law_755, e_L_law_756, e_L_law_757, e_L_law_758, e_L_law_759, e_L_law_762, e_L_law_765, e_L_law_766, c_3, c1, l6, c2, sc_ld m0 (show i + 1 < L by omega) h31, sc_ld s0 (show i + 1 < L by omega) h31, sc_ld m0 (show i + 2 < L by omega) h31, sc_ld s0 (show i + 2 < L by omega) h31, sc_ld m0 (show i + 3 < L by omega) h31, sc_ld s0 (show i + 3 < L by omega) h31, sc_ld m0 (show i + 4 < L by omega) h31, sc_ld s0 (show i + 4 < L by omega) h31, sc_ld m0 (show i + 5 < L by omega) h31, sc_ld s0 (show i + 5 < L by omega) h31, i_1, i_2, i_3, i_4, i_5, lg_eq, eq_self, Option.bind_some, Option.isSome_some, Option.toList, List.cons_append, List.nil_append, zclr_i, zclr_r, zclr_n, zfit_i, zfit_l, and_self, if_true, if_false]
theorem law_14 (h : Inv I J N S) (hn : 158 ≤ n) (hs : g 0 = .inl (.short, L, .inl xs)) (hi : i + 6 ≤ L) (hL : L ≤ 3072) : LwS i 767 n m g I J := by
  have h31 : L < 2 ^ 31 := by omega
  obtain ⟨v, M1, n', m', g', I2, J2, N', S', c1, c2, hI, l1, l2, l3, l4, l5, l6⟩ := (q_waiting (n := n) (m := m) (g := g) (x := xs (i + 1)) (y := xs (i + 2)) h 29).w
  obtain ⟨u, rfl⟩ := zcall_int c1 (by decide +kernel)
  have s0 : M1.2.2 0 = .inl (.short, L, .inl xs) := (l5 0 (by decide)).trans hs
  have m0 : (mk n m g I J).2.2 0 = .inl (.short, L, .inl xs) := hs
  have c1 : zcall 59 168 _ _ = _ := c1
  have c2 : zcall 59 324 _ _ = _ := c2
  refine ⟨n', m', g', I2, J2, N', S', ?_, hI, l1, l2, l3, l4 0 (by decide)⟩
  simp only [e_L_law_767, e_L_law_768, e_L_law_769, e_L_law_770, e_L_law_771, e_L_law_772, e_L_law_773, e_L_law_774, e_L_law_775, e_L_law_776, e_L_law_777, e_L_law_778, e_L_law_781, e_L_law_782, e_L_law_783, e_L_law_784, e_L_law_785, e_L_law_786, e_L_law_787, e_L_law_788, e_L_law_789, e_L_law_790, e_L_law_791, e_L_law_792, e_L_law_795, e_L_law_798, e_L_law_799, c_3, c1, l6, c2, sc_ld m0 (show i + 1 < L by omega) h31, sc_ld s0 (show i + 1 < L by omega) h31, sc_ld m0 (show i + 2 < L by omega) h31, sc_ld s0 (show i + 2 < L by omega) h31, sc_ld m0 (show i + 3 < L by omega) h31, sc_ld s0 (show i + 3 < L by omega) h31, sc_ld m0 (show i + 4 < L by omega) h31, sc_ld s0 (show i + 4 < L by omega) h31, sc_ld m0 (show i + 5 < L by omega) h31, sc_ld s0 (show i + 5 < L by omega) h31, i_1, i_2, i_3, i_4, i_5, lg_eq, eq_self, Option.bind_some, Option.isSome_some, Option.toList, List.cons_append, List.nil_append, zclr_i, zclr_r, zclr_n, zfit_i, zfit_l, and_self, if_true, if_false]
theorem law_15 (h : Inv I J N S) (hn : 158 ≤ n) (hs : g 0 = .inl (.short, L, .inl xs)) (hi : i + 6 ≤ L) (hL : L ≤ 3072) : LwS i 800 n m g I J := by
  have h31 : L < 2 ^ 31 := by omega
  obtain ⟨v, M1, n', m', g', I2, J2, N', S', c1, c2, hI, l1, l2, l3, l4, l5, l6⟩ := (q_liked (n := n) (m := m) (g := g) (x := xs (i + 1)) (y := xs (i + 2)) h 29).w
  obtain ⟨u, rfl⟩ := zcall_int c1 (by decide +kernel)
  have s0 : M1.2.2 0 = .inl (.short, L, .inl xs) := (l5 0 (by decide)).trans hs
  have m0 : (mk n m g I J).2.2 0 = .inl (.short, L, .inl xs) := hs
  have c1 : zcall 59 169 _ _ = _ := c1
  have c2 : zcall 59 325 _ _ = _ := c2
  refine ⟨n', m', g', I2, J2, N', S', ?_, hI, l1, l2, l3, l4 0 (by decide)⟩
  simp only [e_L_law_800, e_L_law_801, e_L_law_802, e_L_law_803, e_L_law_804, e_L_law_805, e_L_law_806, e_L_law_807, e_L_law_808, e_L_law_809, e_L_law_810, e_L_law_811, e_L_law_814, e_L_law_815, e_L_law_816, e_L_law_817, e_L_law_818, e_L_law_819, e_L_law_820, e_L_law_821, e_L_law_822, e_L_law_823, e_L_law_824, e_L_law_825, e_L_law_828, e_L_law_831, e_L_law_832, c_3, c1, l6, c2, sc_ld m0 (show i + 1 < L by omega) h31, sc_ld s0 (show i + 1 < L by omega) h31, sc_ld m0 (show i + 2 < L by omega) h31, sc_ld s0 (show i + 2 < L by omega) h31, sc_ld m0 (show i + 3 < L by omega) h31, sc_ld s0 (show i + 3 < L by omega) h31, sc_ld m0 (show i + 4 < L by omega) h31, sc_ld s0 (show i + 4 < L by omega) h31, sc_ld m0 (show i + 5 < L by omega) h31, sc_ld s0 (show i + 5 < L by omega) h31, i_1, i_2, i_3, i_4, i_5, lg_eq, eq_self, Option.bind_some, Option.isSome_some, Option.toList, List.cons_append, List.nil_append, zclr_i, zclr_r, zclr_n, zfit_i, zfit_l, and_self, if_true, if_false]
theorem law_16 (h : Inv I J N S) (hn : 158 ≤ n) (hs : g 0 = .inl (.short, L, .inl xs)) (hi : i + 6 ≤ L) (hL : L ≤ 3072) : LwS i 833 n m g I J := by
  have h31 : L < 2 ^ 31 := by omega
  obtain ⟨v, M1, n', m', g', I2, J2, N', S', c1, c2, hI, l1, l2, l3, l4, l5, l6⟩ := (q_copyNames (n := n) (m := m) (g := g) (x := xs (i + 1)) h 29).w
  obtain ⟨u, rfl⟩ := zcall_int c1 (by decide +kernel)
  have s0 : M1.2.2 0 = .inl (.short, L, .inl xs) := (l5 0 (by decide)).trans hs
  have m0 : (mk n m g I J).2.2 0 = .inl (.short, L, .inl xs) := hs
  have c1 : zcall 59 170 _ _ = _ := c1
  have c2 : zcall 59 326 _ _ = _ := c2
  refine ⟨n', m', g', I2, J2, N', S', ?_, hI, l1, l2, l3, l4 0 (by decide)⟩
  simp only [e_L_law_833, e_L_law_834, e_L_law_835, e_L_law_836, e_L_law_837, e_L_law_838, e_L_law_839, e_L_law_842, e_L_law_843, e_L_law_844, e_L_law_845, e_L_law_846, e_L_law_847, e_L_law_848, e_L_law_851, e_L_law_854, e_L_law_855, c_3, c1, l6, c2, sc_ld m0 (show i + 1 < L by omega) h31, sc_ld s0 (show i + 1 < L by omega) h31, sc_ld m0 (show i + 2 < L by omega) h31, sc_ld s0 (show i + 2 < L by omega) h31, sc_ld m0 (show i + 3 < L by omega) h31, sc_ld s0 (show i + 3 < L by omega) h31, sc_ld m0 (show i + 4 < L by omega) h31, sc_ld s0 (show i + 4 < L by omega) h31, sc_ld m0 (show i + 5 < L by omega) h31, sc_ld s0 (show i + 5 < L by omega) h31, i_1, i_2, i_3, i_4, i_5, lg_eq, eq_self, Option.bind_some, Option.isSome_some, Option.toList, List.cons_append, List.nil_append, zclr_i, zclr_r, zclr_n, zfit_i, zfit_l, and_self, if_true, if_false]
theorem law_17 (h : Inv I J N S) (hn : 158 ≤ n) (hs : g 0 = .inl (.short, L, .inl xs)) (hi : i + 6 ≤ L) (hL : L ≤ 3072) : LwS i 856 n m g I J := by
  have h31 : L < 2 ^ 31 := by omega
  obtain ⟨v, M1, n', m', g', I2, J2, N', S', c1, c2, hI, l1, l2, l3, l4, l5, l6⟩ := (q_year (n := n) (m := m) (g := g) (x := xs (i + 1)) h 29).w
  obtain ⟨u, rfl⟩ := zcall_int c1 (by decide +kernel)
  have s0 : M1.2.2 0 = .inl (.short, L, .inl xs) := (l5 0 (by decide)).trans hs
  have m0 : (mk n m g I J).2.2 0 = .inl (.short, L, .inl xs) := hs
  have c1 : zcall 59 171 _ _ = _ := c1
  have c2 : zcall 59 333 _ _ = _ := c2
  refine ⟨n', m', g', I2, J2, N', S', ?_, hI, l1, l2, l3, l4 0 (by decide)⟩
  simp only [e_L_law_856, e_L_law_857, e_L_law_858, e_L_law_859, e_L_law_860, e_L_law_861, e_L_law_862, e_L_law_865, e_L_law_866, e_L_law_867, e_L_law_868, e_L_law_869, e_L_law_870, e_L_law_871, e_L_law_874, e_L_law_877, e_L_law_878, c_3, c1, l6, c2, sc_ld m0 (show i + 1 < L by omega) h31, sc_ld s0 (show i + 1 < L by omega) h31, sc_ld m0 (show i + 2 < L by omega) h31, sc_ld s0 (show i + 2 < L by omega) h31, sc_ld m0 (show i + 3 < L by omega) h31, sc_ld s0 (show i + 3 < L by omega) h31, sc_ld m0 (show i + 4 < L by omega) h31, sc_ld s0 (show i + 4 < L by omega) h31, sc_ld m0 (show i + 5 < L by omega) h31, sc_ld s0 (show i + 5 < L by omega) h31, i_1, i_2, i_3, i_4, i_5, lg_eq, eq_self, Option.bind_some, Option.isSome_some, Option.toList, List.cons_append, List.nil_append, zclr_i, zclr_r, zclr_n, zfit_i, zfit_l, and_self, if_true, if_false]
theorem law_18 (h : Inv I J N S) (hn : 158 ≤ n) (hs : g 0 = .inl (.short, L, .inl xs)) (hi : i + 6 ≤ L) (hL : L ≤ 3072) : LwS i 879 n m g I J := by
  have h31 : L < 2 ^ 31 := by omega
  obtain ⟨v, M1, n', m', g', I2, J2, N', S', c1, c2, hI, l1, l2, l3, l4, l5, l6⟩ := (q_die (n := n) (m := m) (g := g) (x := xs (i + 1)) h 29).w
  obtain ⟨u, rfl⟩ := zcall_int c1 (by decide +kernel)
  have s0 : M1.2.2 0 = .inl (.short, L, .inl xs) := (l5 0 (by decide)).trans hs
  have m0 : (mk n m g I J).2.2 0 = .inl (.short, L, .inl xs) := hs
  have c1 : zcall 59 172 _ _ = _ := c1
  have c2 : zcall 59 334 _ _ = _ := c2
  refine ⟨n', m', g', I2, J2, N', S', ?_, hI, l1, l2, l3, l4 0 (by decide)⟩
  simp only [e_L_law_879, e_L_law_880, e_L_law_881, e_L_law_882, e_L_law_883, e_L_law_884, e_L_law_885, e_L_law_888, e_L_law_889, e_L_law_890, e_L_law_891, e_L_law_892, e_L_law_893, e_L_law_894, e_L_law_897, e_L_law_900, e_L_law_901, c_3, c1, l6, c2, sc_ld m0 (show i + 1 < L by omega) h31, sc_ld s0 (show i + 1 < L by omega) h31, sc_ld m0 (show i + 2 < L by omega) h31, sc_ld s0 (show i + 2 < L by omega) h31, sc_ld m0 (show i + 3 < L by omega) h31, sc_ld s0 (show i + 3 < L by omega) h31, sc_ld m0 (show i + 4 < L by omega) h31, sc_ld s0 (show i + 4 < L by omega) h31, sc_ld m0 (show i + 5 < L by omega) h31, sc_ld s0 (show i + 5 < L by omega) h31, i_1, i_2, i_3, i_4, i_5, lg_eq, eq_self, Option.bind_some, Option.isSome_some, Option.toList, List.cons_append, List.nil_append, zclr_i, zclr_r, zclr_n, zfit_i, zfit_l, and_self, if_true, if_false]
theorem law_19 (h : Inv I J N S) (hn : 158 ≤ n) (hs : g 0 = .inl (.short, L, .inl xs)) (hi : i + 6 ≤ L) (hL : L ≤ 3072) : LwS i 902 n m g I J := by
  have h31 : L < 2 ^ 31 := by omega
  obtain ⟨v, M1, n', m', g', I2, J2, N', S', c1, c2, hI, l1, l2, l3, l4, l5, l6⟩ := (q_birth (n := n) (m := m) (g := g) (x := xs (i + 1)) (y := xs (i + 2)) h 29).w
  obtain ⟨u, rfl⟩ := zcall_int c1 (by decide +kernel)
  have s0 : M1.2.2 0 = .inl (.short, L, .inl xs) := (l5 0 (by decide)).trans hs
  have m0 : (mk n m g I J).2.2 0 = .inl (.short, L, .inl xs) := hs
  have c1 : zcall 59 173 _ _ = _ := c1
  have c2 : zcall 59 338 _ _ = _ := c2
  refine ⟨n', m', g', I2, J2, N', S', ?_, hI, l1, l2, l3, l4 0 (by decide)⟩
  simp only [e_L_law_902, e_L_law_903, e_L_law_904, e_L_law_905, e_L_law_906, e_L_law_907, e_L_law_908, e_L_law_909, e_L_law_910, e_L_law_911, e_L_law_912, e_L_law_913, e_L_law_916, e_L_law_917, e_L_law_918, e_L_law_919, e_L_law_920, e_L_law_921, e_L_law_922, e_L_law_923, e_L_law_924, e_L_law_925, e_L_law_926, e_L_law_927, e_L_law_930, e_L_law_933, e_L_law_934, c_3, c1, l6, c2, sc_ld m0 (show i + 1 < L by omega) h31, sc_ld s0 (show i + 1 < L by omega) h31, sc_ld m0 (show i + 2 < L by omega) h31, sc_ld s0 (show i + 2 < L by omega) h31, sc_ld m0 (show i + 3 < L by omega) h31, sc_ld s0 (show i + 3 < L by omega) h31, sc_ld m0 (show i + 4 < L by omega) h31, sc_ld s0 (show i + 4 < L by omega) h31, sc_ld m0 (show i + 5 < L by omega) h31, sc_ld s0 (show i + 5 < L by omega) h31, i_1, i_2, i_3, i_4, i_5, lg_eq, eq_self, Option.bind_some, Option.isSome_some, Option.toList, List.cons_append, List.nil_append, zclr_i, zclr_r, zclr_n, zfit_i, zfit_l, and_self, if_true, if_false]
theorem law_20 (h : Inv I J N S) (hn : 158 ≤ n) (hs : g 0 = .inl (.short, L, .inl xs)) (hi : i + 6 ≤ L) (hL : L ≤ 3072) : LwS i 935 n m g I J := by
  have h31 : L < 2 ^ 31 := by omega
  obtain ⟨v, M1, n', m', g', I2, J2, N', S', c1, c2, hI, l1, l2, l3, l4, l5, l6⟩ := (q_wed (n := n) (m := m) (g := g) (x := xs (i + 1)) (y := xs (i + 2)) (w := xs (i + 3)) h 29).w
  obtain ⟨u, rfl⟩ := zcall_int c1 (by decide +kernel)
  have s0 : M1.2.2 0 = .inl (.short, L, .inl xs) := (l5 0 (by decide)).trans hs
  have m0 : (mk n m g I J).2.2 0 = .inl (.short, L, .inl xs) := hs
  have c1 : zcall 59 174 _ _ = _ := c1
  have c2 : zcall 59 345 _ _ = _ := c2
  refine ⟨n', m', g', I2, J2, N', S', ?_, hI, l1, l2, l3, l4 0 (by decide)⟩
  simp only [e_L_law_935, e_L_law_936, e_L_law_937, e_L_law_938, e_L_law_939, e_L_law_940, e_L_law_941, e_L_law_942, e_L_law_943, e_L_law_944, e_L_law_945, e_L_law_946, e_L_law_947, e_L_law_948, e_L_law_949, e_L_law_950, e_L_law_951, e_L_law_954, e_L_law_955, e_L_law_956, e_L_law_957, e_L_law_958, e_L_law_959, e_L_law_960, e_L_law_961, e_L_law_962, e_L_law_963, e_L_law_964, e_L_law_965, e_L_law_966, e_L_law_967, e_L_law_968, e_L_law_969, e_L_law_970, e_L_law_973, e_L_law_976, e_L_law_977, c_3, c1, l6, c2, sc_ld m0 (show i + 1 < L by omega) h31, sc_ld s0 (show i + 1 < L by omega) h31, sc_ld m0 (show i + 2 < L by omega) h31, sc_ld s0 (show i + 2 < L by omega) h31, sc_ld m0 (show i + 3 < L by omega) h31, sc_ld s0 (show i + 3 < L by omega) h31, sc_ld m0 (show i + 4 < L by omega) h31, sc_ld s0 (show i + 4 < L by omega) h31, sc_ld m0 (show i + 5 < L by omega) h31, sc_ld s0 (show i + 5 < L by omega) h31, i_1, i_2, i_3, i_4, i_5, lg_eq, eq_self, Option.bind_some, Option.isSome_some, Option.toList, List.cons_append, List.nil_append, zclr_i, zclr_r, zclr_n, zfit_i, zfit_l, and_self, if_true, if_false]
theorem law_21 (h : Inv I J N S) (hn : 158 ≤ n) (hs : g 0 = .inl (.short, L, .inl xs)) (hi : i + 6 ≤ L) (hL : L ≤ 3072) : LwS i 978 n m g I J := by
  have h31 : L < 2 ^ 31 := by omega
  obtain ⟨v, M1, n', m', g', I2, J2, N', S', c1, c2, hI, l1, l2, l3, l4, l5, l6⟩ := (q_part (n := n) (m := m) (g := g) (x := xs (i + 1)) (y := xs (i + 2)) h 29).w
  obtain ⟨u, rfl⟩ := zcall_int c1 (by decide +kernel)
  have s0 : M1.2.2 0 = .inl (.short, L, .inl xs) := (l5 0 (by decide)).trans hs
  have m0 : (mk n m g I J).2.2 0 = .inl (.short, L, .inl xs) := hs
  have c1 : zcall 59 175 _ _ = _ := c1
  have c2 : zcall 59 346 _ _ = _ := c2
  refine ⟨n', m', g', I2, J2, N', S', ?_, hI, l1, l2, l3, l4 0 (by decide)⟩
  simp only [e_L_law_978, e_L_law_979, e_L_law_980, e_L_law_981, e_L_law_982, e_L_law_983, e_L_law_984, e_L_law_985, e_L_law_986, e_L_law_987, e_L_law_988, e_L_law_989, e_L_law_992, e_L_law_993, e_L_law_994, e_L_law_995, e_L_law_996, e_L_law_997, e_L_law_998, e_L_law_999, e_L_law_1000, e_L_law_1001, e_L_law_1002, e_L_law_1003, e_L_law_1006, e_L_law_1009, e_L_law_1010, c_3, c1, l6, c2, sc_ld m0 (show i + 1 < L by omega) h31, sc_ld s0 (show i + 1 < L by omega) h31, sc_ld m0 (show i + 2 < L by omega) h31, sc_ld s0 (show i + 2 < L by omega) h31, sc_ld m0 (show i + 3 < L by omega) h31, sc_ld s0 (show i + 3 < L by omega) h31, sc_ld m0 (show i + 4 < L by omega) h31, sc_ld s0 (show i + 4 < L by omega) h31, sc_ld m0 (show i + 5 < L by omega) h31, sc_ld s0 (show i + 5 < L by omega) h31, i_1, i_2, i_3, i_4, i_5, lg_eq, eq_self, Option.bind_some, Option.isSome_some, Option.toList, List.cons_append, List.nil_append, zclr_i, zclr_r, zclr_n, zfit_i, zfit_l, and_self, if_true, if_false]
theorem law_22 (h : Inv I J N S) (hn : 158 ≤ n) (hs : g 0 = .inl (.short, L, .inl xs)) (hi : i + 6 ≤ L) (hL : L ≤ 3072) : LwS i 1011 n m g I J := by
  have h31 : L < 2 ^ 31 := by omega
  obtain ⟨v, M1, n', m', g', I2, J2, N', S', c1, c2, hI, l1, l2, l3, l4, l5, l6⟩ := (q_sell (n := n) (m := m) (g := g) (x := xs (i + 1)) (y := xs (i + 2)) h 29).w
  obtain ⟨u, rfl⟩ := zcall_int c1 (by decide +kernel)
  have s0 : M1.2.2 0 = .inl (.short, L, .inl xs) := (l5 0 (by decide)).trans hs
  have m0 : (mk n m g I J).2.2 0 = .inl (.short, L, .inl xs) := hs
  have c1 : zcall 59 176 _ _ = _ := c1
  have c2 : zcall 59 349 _ _ = _ := c2
  refine ⟨n', m', g', I2, J2, N', S', ?_, hI, l1, l2, l3, l4 0 (by decide)⟩
  simp only [e_L_law_1011, e_L_law_1012, e_L_law_1013, e_L_law_1014, e_L_law_1015, e_L_law_1016, e_L_law_1017, e_L_law_1018, e_L_law_1019, e_L_law_1020, e_L_law_1021, e_L_law_1022, e_L_law_1025, e_L_law_1026, e_L_law_1027, e_L_law_1028, e_L_law_1029, e_L_law_1030, e_L_law_1031, e_L_law_1032, e_L_law_1033, e_L_law_1034, e_L_law_1035, e_L_law_1036, e_L_law_1039, e_L_law_1042, e_L_law_1043, c_3, c1, l6, c2, sc_ld m0 (show i + 1 < L by omega) h31, sc_ld s0 (show i + 1 < L by omega) h31, sc_ld m0 (show i + 2 < L by omega) h31, sc_ld s0 (show i + 2 < L by omega) h31, sc_ld m0 (show i + 3 < L by omega) h31, sc_ld s0 (show i + 3 < L by omega) h31, sc_ld m0 (show i + 4 < L by omega) h31, sc_ld s0 (show i + 4 < L by omega) h31, sc_ld m0 (show i + 5 < L by omega) h31, sc_ld s0 (show i + 5 < L by omega) h31, i_1, i_2, i_3, i_4, i_5, lg_eq, eq_self, Option.bind_some, Option.isSome_some, Option.toList, List.cons_append, List.nil_append, zclr_i, zclr_r, zclr_n, zfit_i, zfit_l, and_self, if_true, if_false]
theorem law_23 (h : Inv I J N S) (hn : 158 ≤ n) (hs : g 0 = .inl (.short, L, .inl xs)) (hi : i + 6 ≤ L) (hL : L ≤ 3072) : LwS i 1044 n m g I J := by
  have h31 : L < 2 ^ 31 := by omega
  obtain ⟨v, M1, n', m', g', I2, J2, N', S', c1, c2, hI, l1, l2, l3, l4, l5, l6⟩ := (q_swap (n := n) (m := m) (g := g) (x := xs (i + 1)) (y := xs (i + 2)) h 29).w
  obtain ⟨u, rfl⟩ := zcall_int c1 (by decide +kernel)
  have s0 : M1.2.2 0 = .inl (.short, L, .inl xs) := (l5 0 (by decide)).trans hs
  have m0 : (mk n m g I J).2.2 0 = .inl (.short, L, .inl xs) := hs
  have c1 : zcall 59 177 _ _ = _ := c1
  have c2 : zcall 59 351 _ _ = _ := c2
  refine ⟨n', m', g', I2, J2, N', S', ?_, hI, l1, l2, l3, l4 0 (by decide)⟩
  simp only [e_L_law_1044, e_L_law_1045, e_L_law_1046, e_L_law_1047, e_L_law_1048, e_L_law_1049, e_L_law_1050, e_L_law_1051, e_L_law_1052, e_L_law_1053, e_L_law_1054, e_L_law_1055, e_L_law_1058, e_L_law_1059, e_L_law_1060, e_L_law_1061, e_L_law_1062, e_L_law_1063, e_L_law_1064, e_L_law_1065, e_L_law_1066, e_L_law_1067, e_L_law_1068, e_L_law_1069, e_L_law_1072, e_L_law_1075, e_L_law_1076, c_3, c1, l6, c2, sc_ld m0 (show i + 1 < L by omega) h31, sc_ld s0 (show i + 1 < L by omega) h31, sc_ld m0 (show i + 2 < L by omega) h31, sc_ld s0 (show i + 2 < L by omega) h31, sc_ld m0 (show i + 3 < L by omega) h31, sc_ld s0 (show i + 3 < L by omega) h31, sc_ld m0 (show i + 4 < L by omega) h31, sc_ld s0 (show i + 4 < L by omega) h31, sc_ld m0 (show i + 5 < L by omega) h31, sc_ld s0 (show i + 5 < L by omega) h31, i_1, i_2, i_3, i_4, i_5, lg_eq, eq_self, Option.bind_some, Option.isSome_some, Option.toList, List.cons_append, List.nil_append, zclr_i, zclr_r, zclr_n, zfit_i, zfit_l, and_self, if_true, if_false]
theorem law_24 (h : Inv I J N S) (hn : 158 ≤ n) (hs : g 0 = .inl (.short, L, .inl xs)) (hi : i + 6 ≤ L) (hL : L ≤ 3072) : LwS i 1077 n m g I J := by
  have h31 : L < 2 ^ 31 := by omega
  obtain ⟨v, M1, n', m', g', I2, J2, N', S', c1, c2, hI, l1, l2, l3, l4, l5, l6⟩ := (q_duel (n := n) (m := m) (g := g) (x := xs (i + 1)) (y := xs (i + 2)) h 29).w
  obtain ⟨u, rfl⟩ := zcall_int c1 (by decide +kernel)
  have s0 : M1.2.2 0 = .inl (.short, L, .inl xs) := (l5 0 (by decide)).trans hs
  have m0 : (mk n m g I J).2.2 0 = .inl (.short, L, .inl xs) := hs
  have c1 : zcall 59 178 _ _ = _ := c1
  have c2 : zcall 59 352 _ _ = _ := c2
  refine ⟨n', m', g', I2, J2, N', S', ?_, hI, l1, l2, l3, l4 0 (by decide)⟩
  simp only [e_L_law_1077, e_L_law_1078, e_L_law_1079, e_L_law_1080, e_L_law_1081, e_L_law_1082, e_L_law_1083, e_L_law_1084, e_L_law_1085, e_L_law_1086, e_L_law_1087, e_L_law_1088, e_L_law_1091, e_L_law_1092, e_L_law_1093, e_L_law_1094, e_L_law_1095, e_L_law_1096, e_L_law_1097, e_L_law_1098, e_L_law_1099, e_L_law_1100, e_L_law_1101, e_L_law_1102, e_L_law_1105, e_L_law_1108, e_L_law_1109, c_3, c1, l6, c2, sc_ld m0 (show i + 1 < L by omega) h31, sc_ld s0 (show i + 1 < L by omega) h31, sc_ld m0 (show i + 2 < L by omega) h31, sc_ld s0 (show i + 2 < L by omega) h31, sc_ld m0 (show i + 3 < L by omega) h31, sc_ld s0 (show i + 3 < L by omega) h31, sc_ld m0 (show i + 4 < L by omega) h31, sc_ld s0 (show i + 4 < L by omega) h31, sc_ld m0 (show i + 5 < L by omega) h31, sc_ld s0 (show i + 5 < L by omega) h31, i_1, i_2, i_3, i_4, i_5, lg_eq, eq_self, Option.bind_some, Option.isSome_some, Option.toList, List.cons_append, List.nil_append, zclr_i, zclr_r, zclr_n, zfit_i, zfit_l, and_self, if_true, if_false]
theorem law_25f (h : Inv I J N S) (hn : 158 ≤ n) (hs : g 0 = .inl (.short, L, .inl xs)) (hi : i + 6 ≤ L) (hL : L ≤ 3072) (hz : xs (i + 2) = 0) : LwS i 1110 n m g I J := by
  have h31 : L < 2 ^ 31 := by omega
  obtain ⟨v, M1, n', m', g', I2, J2, N', S', c1, c2, hI, l1, l2, l3, l4, l5, l6⟩ := (q_abroad (n := n) (m := m) (g := g) (x := xs (i + 1)) (y := 0) h (.inl rfl) 29).w
  obtain ⟨u, rfl⟩ := zcall_int c1 (by decide +kernel)
  have s0 : M1.2.2 0 = .inl (.short, L, .inl xs) := (l5 0 (by decide)).trans hs
  have m0 : (mk n m g I J).2.2 0 = .inl (.short, L, .inl xs) := hs
  have c1 : zcall 59 179 _ _ = _ := c1
  have c2 : zcall 59 353 _ _ = _ := c2
  refine ⟨n', m', g', I2, J2, N', S', ?_, hI, l1, l2, l3, l4 0 (by decide)⟩
  simp only [e_L_law_1110, e_L_law_1111, e_L_law_1112, e_L_law_1113, e_L_law_1114, e_L_law_1115, e_L_law_1116, e_L_law_1117, e_L_law_1118, e_L_law_1119, e_L_law_1120, e_L_law_1121, e_L_law_1124, e_L_law_1125, e_L_law_1128, e_L_law_1129, e_L_law_1132, e_L_law_1133, e_L_law_1134, e_L_law_1135, e_L_law_1136, e_L_law_1137, e_L_law_1138, e_L_law_1139, e_L_law_1140, e_L_law_1141, e_L_law_1142, e_L_law_1143, e_L_law_1146, e_L_law_1147, e_L_law_1150, e_L_law_1151, e_L_law_1154, e_L_law_1157, e_L_law_1158, c_3, c1, l6, c2, sc_ld m0 (show i + 1 < L by omega) h31, sc_ld s0 (show i + 1 < L by omega) h31, sc_ld m0 (show i + 2 < L by omega) h31, sc_ld s0 (show i + 2 < L by omega) h31, sc_ld m0 (show i + 3 < L by omega) h31, sc_ld s0 (show i + 3 < L by omega) h31, sc_ld m0 (show i + 4 < L by omega) h31, sc_ld s0 (show i + 4 < L by omega) h31, sc_ld m0 (show i + 5 < L by omega) h31, sc_ld s0 (show i + 5 < L by omega) h31, i_1, i_2, i_3, i_4, i_5, hz, eq_self, Option.bind_some, Option.isSome_some, Option.toList, List.cons_append, List.nil_append, zclr_i, zclr_r, zclr_n, zfit_i, zfit_l, and_self, if_true, if_false]
theorem law_25t (h : Inv I J N S) (hn : 158 ≤ n) (hs : g 0 = .inl (.short, L, .inl xs)) (hi : i + 6 ≤ L) (hL : L ≤ 3072) (hz : xs (i + 2) ≠ 0) : LwS i 1110 n m g I J := by
  have h31 : L < 2 ^ 31 := by omega
  obtain ⟨v, M1, n', m', g', I2, J2, N', S', c1, c2, hI, l1, l2, l3, l4, l5, l6⟩ := (q_abroad (n := n) (m := m) (g := g) (x := xs (i + 1)) (y := 1) h (.inr rfl) 29).w
  obtain ⟨u, rfl⟩ := zcall_int c1 (by decide +kernel)
  have s0 : M1.2.2 0 = .inl (.short, L, .inl xs) := (l5 0 (by decide)).trans hs
  have m0 : (mk n m g I J).2.2 0 = .inl (.short, L, .inl xs) := hs
  have c1 : zcall 59 179 _ _ = _ := c1
  have c2 : zcall 59 353 _ _ = _ := c2
  refine ⟨n', m', g', I2, J2, N', S', ?_, hI, l1, l2, l3, l4 0 (by decide)⟩
  simp only [e_L_law_1110, e_L_law_1111, e_L_law_1112, e_L_law_1113, e_L_law_1114, e_L_law_1115, e_L_law_1116, e_L_law_1117, e_L_law_1118, e_L_law_1119, e_L_law_1120, e_L_law_1121, e_L_law_1124, e_L_law_1125, e_L_law_1128, e_L_law_1129, e_L_law_1132, e_L_law_1133, e_L_law_1134, e_L_law_1135, e_L_law_1136, e_L_law_1137, e_L_law_1138, e_L_law_1139, e_L_law_1140, e_L_law_1141, e_L_law_1142, e_L_law_1143, e_L_law_1146, e_L_law_1147, e_L_law_1150, e_L_law_1151, e_L_law_1154, e_L_law_1157, e_L_law_1158, c_3, c1, l6, c2, sc_ld m0 (show i + 1 < L by omega) h31, sc_ld s0 (show i + 1 < L by omega) h31, sc_ld m0 (show i + 2 < L by omega) h31, sc_ld s0 (show i + 2 < L by omega) h31, sc_ld m0 (show i + 3 < L by omega) h31, sc_ld s0 (show i + 3 < L by omega) h31, sc_ld m0 (show i + 4 < L by omega) h31, sc_ld s0 (show i + 4 < L by omega) h31, sc_ld m0 (show i + 5 < L by omega) h31, sc_ld s0 (show i + 5 < L by omega) h31, i_1, i_2, i_3, i_4, i_5, hz, eq_self, Option.bind_some, Option.isSome_some, Option.toList, List.cons_append, List.nil_append, zclr_i, zclr_r, zclr_n, zfit_i, zfit_l, and_self, if_true, if_false]
theorem law_25 (h : Inv I J N S) (hn : 158 ≤ n) (hs : g 0 = .inl (.short, L, .inl xs)) (hi : i + 6 ≤ L) (hL : L ≤ 3072) : LwS i 1110 n m g I J := by
  by_cases hz : xs (i + 2) = 0
  · exact law_25f h hn hs hi hL hz
  · exact law_25t h hn hs hi hL hz
theorem law_26 (h : Inv I J N S) (hn : 158 ≤ n) (hs : g 0 = .inl (.short, L, .inl xs)) (hi : i + 6 ≤ L) (hL : L ≤ 3072) : LwS i 1159 n m g I J := by
  have h31 : L < 2 ^ 31 := by omega
  obtain ⟨v, M1, n', m', g', I2, J2, N', S', c1, c2, hI, l1, l2, l3, l4, l5, l6⟩ := (q_ask (n := n) (m := m) (g := g) (x := xs (i + 1)) (y := xs (i + 2)) h 29).w
  obtain ⟨u, rfl⟩ := zcall_int c1 (by decide +kernel)
  have s0 : M1.2.2 0 = .inl (.short, L, .inl xs) := (l5 0 (by decide)).trans hs
  have m0 : (mk n m g I J).2.2 0 = .inl (.short, L, .inl xs) := hs
  have c1 : zcall 59 180 _ _ = _ := c1
  have c2 : zcall 59 354 _ _ = _ := c2
  refine ⟨n', m', g', I2, J2, N', S', ?_, hI, l1, l2, l3, l4 0 (by decide)⟩
  simp only [e_L_law_1159, e_L_law_1160, e_L_law_1161, e_L_law_1162, e_L_law_1163, e_L_law_1164, e_L_law_1165, e_L_law_1166, e_L_law_1167, e_L_law_1168, e_L_law_1169, e_L_law_1170, e_L_law_1173, e_L_law_1174, e_L_law_1175, e_L_law_1176, e_L_law_1177, e_L_law_1178, e_L_law_1179, e_L_law_1180, e_L_law_1181, e_L_law_1182, e_L_law_1183, e_L_law_1184, e_L_law_1187, e_L_law_1190, e_L_law_1191, c_3, c1, l6, c2, sc_ld m0 (show i + 1 < L by omega) h31, sc_ld s0 (show i + 1 < L by omega) h31, sc_ld m0 (show i + 2 < L by omega) h31, sc_ld s0 (show i + 2 < L by omega) h31, sc_ld m0 (show i + 3 < L by omega) h31, sc_ld s0 (show i + 3 < L by omega) h31, sc_ld m0 (show i + 4 < L by omega) h31, sc_ld s0 (show i + 4 < L by omega) h31, sc_ld m0 (show i + 5 < L by omega) h31, sc_ld s0 (show i + 5 < L by omega) h31, i_1, i_2, i_3, i_4, i_5, lg_eq, eq_self, Option.bind_some, Option.isSome_some, Option.toList, List.cons_append, List.nil_append, zclr_i, zclr_r, zclr_n, zfit_i, zfit_l, and_self, if_true, if_false]
theorem law_27 (h : Inv I J N S) (hn : 158 ≤ n) (hs : g 0 = .inl (.short, L, .inl xs)) (hi : i + 6 ≤ L) (hL : L ≤ 3072) : LwS i 1192 n m g I J := by
  have h31 : L < 2 ^ 31 := by omega
  obtain ⟨v, M1, n', m', g', I2, J2, N', S', c1, c2, hI, l1, l2, l3, l4, l5, l6⟩ := (q_leave (n := n) (m := m) (g := g) (x := xs (i + 1)) h 29).w
  obtain ⟨u, rfl⟩ := zcall_int c1 (by decide +kernel)
  have s0 : M1.2.2 0 = .inl (.short, L, .inl xs) := (l5 0 (by decide)).trans hs
  have m0 : (mk n m g I J).2.2 0 = .inl (.short, L, .inl xs) := hs
  have c1 : zcall 59 181 _ _ = _ := c1
  have c2 : zcall 59 355 _ _ = _ := c2
  refine ⟨n', m', g', I2, J2, N', S', ?_, hI, l1, l2, l3, l4 0 (by decide)⟩
  simp only [e_L_law_1192, e_L_law_1193, e_L_law_1194, e_L_law_1195, e_L_law_1196, e_L_law_1197, e_L_law_1198, e_L_law_1201, e_L_law_1202, e_L_law_1203, e_L_law_1204, e_L_law_1205, e_L_law_1206, e_L_law_1207, e_L_law_1210, e_L_law_1213, e_L_law_1214, c_3, c1, l6, c2, sc_ld m0 (show i + 1 < L by omega) h31, sc_ld s0 (show i + 1 < L by omega) h31, sc_ld m0 (show i + 2 < L by omega) h31, sc_ld s0 (show i + 2 < L by omega) h31, sc_ld m0 (show i + 3 < L by omega) h31, sc_ld s0 (show i + 3 < L by omega) h31, sc_ld m0 (show i + 4 < L by omega) h31, sc_ld s0 (show i + 4 < L by omega) h31, sc_ld m0 (show i + 5 < L by omega) h31, sc_ld s0 (show i + 5 < L by omega) h31, i_1, i_2, i_3, i_4, i_5, lg_eq, eq_self, Option.bind_some, Option.isSome_some, Option.toList, List.cons_append, List.nil_append, zclr_i, zclr_r, zclr_n, zfit_i, zfit_l, and_self, if_true, if_false]
theorem law_28 (h : Inv I J N S) (hn : 158 ≤ n) (hs : g 0 = .inl (.short, L, .inl xs)) (hi : i + 6 ≤ L) (hL : L ≤ 3072) : LwS i 1215 n m g I J := by
  have h31 : L < 2 ^ 31 := by omega
  obtain ⟨v, M1, n', m', g', I2, J2, N', S', c1, c2, hI, l1, l2, l3, l4, l5, l6⟩ := (q_earn (n := n) (m := m) (g := g) (x := xs (i + 1)) (y := xs (i + 2)) h 29).w
  obtain ⟨u, rfl⟩ := zcall_int c1 (by decide +kernel)
  have s0 : M1.2.2 0 = .inl (.short, L, .inl xs) := (l5 0 (by decide)).trans hs
  have m0 : (mk n m g I J).2.2 0 = .inl (.short, L, .inl xs) := hs
  have c1 : zcall 59 182 _ _ = _ := c1
  have c2 : zcall 59 356 _ _ = _ := c2
  refine ⟨n', m', g', I2, J2, N', S', ?_, hI, l1, l2, l3, l4 0 (by decide)⟩
  simp only [e_L_law_1215, e_L_law_1216, e_L_law_1217, e_L_law_1218, e_L_law_1219, e_L_law_1220, e_L_law_1221, e_L_law_1222, e_L_law_1223, e_L_law_1224, e_L_law_1225, e_L_law_1226, e_L_law_1229, e_L_law_1230, e_L_law_1231, e_L_law_1232, e_L_law_1233, e_L_law_1234, e_L_law_1235, e_L_law_1236, e_L_law_1237, e_L_law_1238, e_L_law_1239, e_L_law_1240, e_L_law_1243, e_L_law_1246, e_L_law_1247, c_3, c1, l6, c2, sc_ld m0 (show i + 1 < L by omega) h31, sc_ld s0 (show i + 1 < L by omega) h31, sc_ld m0 (show i + 2 < L by omega) h31, sc_ld s0 (show i + 2 < L by omega) h31, sc_ld m0 (show i + 3 < L by omega) h31, sc_ld s0 (show i + 3 < L by omega) h31, sc_ld m0 (show i + 4 < L by omega) h31, sc_ld s0 (show i + 4 < L by omega) h31, sc_ld m0 (show i + 5 < L by omega) h31, sc_ld s0 (show i + 5 < L by omega) h31, i_1, i_2, i_3, i_4, i_5, lg_eq, eq_self, Option.bind_some, Option.isSome_some, Option.toList, List.cons_append, List.nil_append, zclr_i, zclr_r, zclr_n, zfit_i, zfit_l, and_self, if_true, if_false]
theorem law_29 (h : Inv I J N S) (hn : 158 ≤ n) (hs : g 0 = .inl (.short, L, .inl xs)) (hi : i + 6 ≤ L) (hL : L ≤ 3072) : LwS i 1248 n m g I J := by
  have h31 : L < 2 ^ 31 := by omega
  obtain ⟨v, M1, n', m', g', I2, J2, N', S', c1, c2, hI, l1, l2, l3, l4, l5, l6⟩ := (q_rule (n := n) (m := m) (g := g) (x := xs (i + 1)) h 29).w
  obtain ⟨u, rfl⟩ := zcall_int c1 (by decide +kernel)
  have s0 : M1.2.2 0 = .inl (.short, L, .inl xs) := (l5 0 (by decide)).trans hs
  have m0 : (mk n m g I J).2.2 0 = .inl (.short, L, .inl xs) := hs
  have c1 : zcall 59 183 _ _ = _ := c1
  have c2 : zcall 59 357 _ _ = _ := c2
  refine ⟨n', m', g', I2, J2, N', S', ?_, hI, l1, l2, l3, l4 0 (by decide)⟩
  simp only [e_L_law_1248, e_L_law_1249, e_L_law_1250, e_L_law_1251, e_L_law_1252, e_L_law_1253, e_L_law_1254, e_L_law_1257, e_L_law_1258, e_L_law_1259, e_L_law_1260, e_L_law_1261, e_L_law_1262, e_L_law_1263, e_L_law_1266, e_L_law_1269, e_L_law_1270, c_3, c1, l6, c2, sc_ld m0 (show i + 1 < L by omega) h31, sc_ld s0 (show i + 1 < L by omega) h31, sc_ld m0 (show i + 2 < L by omega) h31, sc_ld s0 (show i + 2 < L by omega) h31, sc_ld m0 (show i + 3 < L by omega) h31, sc_ld s0 (show i + 3 < L by omega) h31, sc_ld m0 (show i + 4 < L by omega) h31, sc_ld s0 (show i + 4 < L by omega) h31, sc_ld m0 (show i + 5 < L by omega) h31, sc_ld s0 (show i + 5 < L by omega) h31, i_1, i_2, i_3, i_4, i_5, lg_eq, eq_self, Option.bind_some, Option.isSome_some, Option.toList, List.cons_append, List.nil_append, zclr_i, zclr_r, zclr_n, zfit_i, zfit_l, and_self, if_true, if_false]
theorem law_30 (h : Inv I J N S) (hn : 158 ≤ n) (hs : g 0 = .inl (.short, L, .inl xs)) (hi : i + 6 ≤ L) (hL : L ≤ 3072) : LwS i 1271 n m g I J := by
  have h31 : L < 2 ^ 31 := by omega
  obtain ⟨v, M1, n', m', g', I2, J2, N', S', c1, c2, hI, l1, l2, l3, l4, l5, l6⟩ := (q_wish (n := n) (m := m) (g := g) (x := xs (i + 1)) (y := xs (i + 2)) (z := xs (i + 3)) h 29).w
  obtain ⟨u, rfl⟩ := zcall_int c1 (by decide +kernel)
  have s0 : M1.2.2 0 = .inl (.short, L, .inl xs) := (l5 0 (by decide)).trans hs
  have m0 : (mk n m g I J).2.2 0 = .inl (.short, L, .inl xs) := hs
  have c1 : zcall 59 184 _ _ = _ := c1
  have c2 : zcall 59 358 _ _ = _ := c2
  refine ⟨n', m', g', I2, J2, N', S', ?_, hI, l1, l2, l3, l4 0 (by decide)⟩
  simp only [e_L_law_1271, e_L_law_1272, e_L_law_1273, e_L_law_1274, e_L_law_1275, e_L_law_1276, e_L_law_1277, e_L_law_1278, e_L_law_1279, e_L_law_1280, e_L_law_1281, e_L_law_1282, e_L_law_1283, e_L_law_1284, e_L_law_1285, e_L_law_1286, e_L_law_1287, e_L_law_1290, e_L_law_1291, e_L_law_1292, e_L_law_1293, e_L_law_1294, e_L_law_1295, e_L_law_1296, e_L_law_1297, e_L_law_1298, e_L_law_1299, e_L_law_1300, e_L_law_1301, e_L_law_1302, e_L_law_1303, e_L_law_1304, e_L_law_1305, e_L_law_1306, e_L_law_1309, e_L_law_1312, e_L_law_1313, c_3, c1, l6, c2, sc_ld m0 (show i + 1 < L by omega) h31, sc_ld s0 (show i + 1 < L by omega) h31, sc_ld m0 (show i + 2 < L by omega) h31, sc_ld s0 (show i + 2 < L by omega) h31, sc_ld m0 (show i + 3 < L by omega) h31, sc_ld s0 (show i + 3 < L by omega) h31, sc_ld m0 (show i + 4 < L by omega) h31, sc_ld s0 (show i + 4 < L by omega) h31, sc_ld m0 (show i + 5 < L by omega) h31, sc_ld s0 (show i + 5 < L by omega) h31, i_1, i_2, i_3, i_4, i_5, lg_eq, eq_self, Option.bind_some, Option.isSome_some, Option.toList, List.cons_append, List.nil_append, zclr_i, zclr_r, zclr_n, zfit_i, zfit_l, and_self, if_true, if_false]
theorem law_31 (h : Inv I J N S) (hn : 158 ≤ n) (hs : g 0 = .inl (.short, L, .inl xs)) (hi : i + 6 ≤ L) (hL : L ≤ 3072) : LwS i 1314 n m g I J := by
  have h31 : L < 2 ^ 31 := by omega
  obtain ⟨v, M1, n', m', g', I2, J2, N', S', c1, c2, hI, l1, l2, l3, l4, l5, l6⟩ := (q_turn (n := n) (m := m) (g := g) (x := xs (i + 1)) h 29).w
  obtain ⟨u, rfl⟩ := zcall_int c1 (by decide +kernel)
  have s0 : M1.2.2 0 = .inl (.short, L, .inl xs) := (l5 0 (by decide)).trans hs
  have m0 : (mk n m g I J).2.2 0 = .inl (.short, L, .inl xs) := hs
  have c1 : zcall 59 185 _ _ = _ := c1
  have c2 : zcall 59 361 _ _ = _ := c2
  refine ⟨n', m', g', I2, J2, N', S', ?_, hI, l1, l2, l3, l4 0 (by decide)⟩
  simp only [e_L_law_1314, e_L_law_1315, e_L_law_1316, e_L_law_1317, e_L_law_1318, e_L_law_1319, e_L_law_1320, e_L_law_1323, e_L_law_1324, e_L_law_1325, e_L_law_1326, e_L_law_1327, e_L_law_1328, e_L_law_1329, e_L_law_1332, e_L_law_1335, e_L_law_1336, c_3, c1, l6, c2, sc_ld m0 (show i + 1 < L by omega) h31, sc_ld s0 (show i + 1 < L by omega) h31, sc_ld m0 (show i + 2 < L by omega) h31, sc_ld s0 (show i + 2 < L by omega) h31, sc_ld m0 (show i + 3 < L by omega) h31, sc_ld s0 (show i + 3 < L by omega) h31, sc_ld m0 (show i + 4 < L by omega) h31, sc_ld s0 (show i + 4 < L by omega) h31, sc_ld m0 (show i + 5 < L by omega) h31, sc_ld s0 (show i + 5 < L by omega) h31, i_1, i_2, i_3, i_4, i_5, lg_eq, eq_self, Option.bind_some, Option.isSome_some, Option.toList, List.cons_append, List.nil_append, zclr_i, zclr_r, zclr_n, zfit_i, zfit_l, and_self, if_true, if_false]
theorem law_32 (h : Inv I J N S) (hn : 158 ≤ n) (hs : g 0 = .inl (.short, L, .inl xs)) (hi : i + 6 ≤ L) (hL : L ≤ 3072) : LwS i 1337 n m g I J := by
  have h31 : L < 2 ^ 31 := by omega
  obtain ⟨v, M1, n', m', g', I2, J2, N', S', c1, c2, hI, l1, l2, l3, l4, l5, l6⟩ := (q_gone (n := n) (m := m) (g := g) (x := xs (i + 1)) h 29).w
  obtain ⟨u, rfl⟩ := zcall_int c1 (by decide +kernel)
  have s0 : M1.2.2 0 = .inl (.short, L, .inl xs) := (l5 0 (by decide)).trans hs
  have m0 : (mk n m g I J).2.2 0 = .inl (.short, L, .inl xs) := hs
  have c1 : zcall 59 186 _ _ = _ := c1
  have c2 : zcall 59 362 _ _ = _ := c2
  refine ⟨n', m', g', I2, J2, N', S', ?_, hI, l1, l2, l3, l4 0 (by decide)⟩
  simp only [e_L_law_1337, e_L_law_1338, e_L_law_1339, e_L_law_1340, e_L_law_1341, e_L_law_1342, e_L_law_1343, e_L_law_1346, e_L_law_1347, e_L_law_1348, e_L_law_1349, e_L_law_1350, e_L_law_1351, e_L_law_1352, e_L_law_1355, e_L_law_1358, e_L_law_1359, c_3, c1, l6, c2, sc_ld m0 (show i + 1 < L by omega) h31, sc_ld s0 (show i + 1 < L by omega) h31, sc_ld m0 (show i + 2 < L by omega) h31, sc_ld s0 (show i + 2 < L by omega) h31, sc_ld m0 (show i + 3 < L by omega) h31, sc_ld s0 (show i + 3 < L by omega) h31, sc_ld m0 (show i + 4 < L by omega) h31, sc_ld s0 (show i + 4 < L by omega) h31, sc_ld m0 (show i + 5 < L by omega) h31, sc_ld s0 (show i + 5 < L by omega) h31, i_1, i_2, i_3, i_4, i_5, lg_eq, eq_self, Option.bind_some, Option.isSome_some, Option.toList, List.cons_append, List.nil_append, zclr_i, zclr_r, zclr_n, zfit_i, zfit_l, and_self, if_true, if_false]
theorem law_33 (h : Inv I J N S) (hn : 158 ≤ n) (hs : g 0 = .inl (.short, L, .inl xs)) (hi : i + 6 ≤ L) (hL : L ≤ 3072) : LwS i 1360 n m g I J := by
  have h31 : L < 2 ^ 31 := by omega
  obtain ⟨v, M1, n', m', g', I2, J2, N', S', c1, c2, hI, l1, l2, l3, l4, l5, l6⟩ := (q_livingIn (n := n) (m := m) (g := g) (x := xs (i + 1)) h 29).w
  obtain ⟨u, rfl⟩ := zcall_int c1 (by decide +kernel)
  have s0 : M1.2.2 0 = .inl (.short, L, .inl xs) := (l5 0 (by decide)).trans hs
  have m0 : (mk n m g I J).2.2 0 = .inl (.short, L, .inl xs) := hs
  have c1 : zcall 59 187 _ _ = _ := c1
  have c2 : zcall 59 363 _ _ = _ := c2
  refine ⟨n', m', g', I2, J2, N', S', ?_, hI, l1, l2, l3, l4 0 (by decide)⟩
  simp only [e_L_law_1360, e_L_law_1361, e_L_law_1362, e_L_law_1363, e_L_law_1364, e_L_law_1365, e_L_law_1366, e_L_law_1369, e_L_law_1370, e_L_law_1371, e_L_law_1372, e_L_law_1373, e_L_law_1374, e_L_law_1375, e_L_law_1378, e_L_law_1381, e_L_law_1382, c_3, c1, l6, c2, sc_ld m0 (show i + 1 < L by omega) h31, sc_ld s0 (show i + 1 < L by omega) h31, sc_ld m0 (show i + 2 < L by omega) h31, sc_ld s0 (show i + 2 < L by omega) h31, sc_ld m0 (show i + 3 < L by omega) h31, sc_ld s0 (show i + 3 < L by omega) h31, sc_ld m0 (show i + 4 < L by omega) h31, sc_ld s0 (show i + 4 < L by omega) h31, sc_ld m0 (show i + 5 < L by omega) h31, sc_ld s0 (show i + 5 < L by omega) h31, i_1, i_2, i_3, i_4, i_5, lg_eq, eq_self, Option.bind_some, Option.isSome_some, Option.toList, List.cons_append, List.nil_append, zclr_i, zclr_r, zclr_n, zfit_i, zfit_l, and_self, if_true, if_false]
theorem law_34 (h : Inv I J N S) (hn : 158 ≤ n) (hs : g 0 = .inl (.short, L, .inl xs)) (hi : i + 6 ≤ L) (hL : L ≤ 3072) : LwS i 1383 n m g I J := by
  have h31 : L < 2 ^ 31 := by omega
  obtain ⟨v, M1, n', m', g', I2, J2, N', S', c1, c2, hI, l1, l2, l3, l4, l5, l6⟩ := (q_bearsIn (n := n) (m := m) (g := g) (x := xs (i + 1)) (y := xs (i + 2)) h 29).w
  obtain ⟨u, rfl⟩ := zcall_int c1 (by decide +kernel)
  have s0 : M1.2.2 0 = .inl (.short, L, .inl xs) := (l5 0 (by decide)).trans hs
  have m0 : (mk n m g I J).2.2 0 = .inl (.short, L, .inl xs) := hs
  have c1 : zcall 59 188 _ _ = _ := c1
  have c2 : zcall 59 364 _ _ = _ := c2
  refine ⟨n', m', g', I2, J2, N', S', ?_, hI, l1, l2, l3, l4 0 (by decide)⟩
  simp only [e_L_law_1383, e_L_law_1384, e_L_law_1385, e_L_law_1386, e_L_law_1387, e_L_law_1388, e_L_law_1389, e_L_law_1390, e_L_law_1391, e_L_law_1392, e_L_law_1393, e_L_law_1394, e_L_law_1397, e_L_law_1398, e_L_law_1399, e_L_law_1400, e_L_law_1401, e_L_law_1402, e_L_law_1403, e_L_law_1404, e_L_law_1405, e_L_law_1406, e_L_law_1407, e_L_law_1408, e_L_law_1411, e_L_law_1414, e_L_law_1415, c_3, c1, l6, c2, sc_ld m0 (show i + 1 < L by omega) h31, sc_ld s0 (show i + 1 < L by omega) h31, sc_ld m0 (show i + 2 < L by omega) h31, sc_ld s0 (show i + 2 < L by omega) h31, sc_ld m0 (show i + 3 < L by omega) h31, sc_ld s0 (show i + 3 < L by omega) h31, sc_ld m0 (show i + 4 < L by omega) h31, sc_ld s0 (show i + 4 < L by omega) h31, sc_ld m0 (show i + 5 < L by omega) h31, sc_ld s0 (show i + 5 < L by omega) h31, i_1, i_2, i_3, i_4, i_5, lg_eq, eq_self, Option.bind_some, Option.isSome_some, Option.toList, List.cons_append, List.nil_append, zclr_i, zclr_r, zclr_n, zfit_i, zfit_l, and_self, if_true, if_false]
theorem law_35 (h : Inv I J N S) (hn : 158 ≤ n) (hs : g 0 = .inl (.short, L, .inl xs)) (hi : i + 6 ≤ L) (hL : L ≤ 3072) : LwS i 1416 n m g I J := by
  have h31 : L < 2 ^ 31 := by omega
  obtain ⟨v, M1, n', m', g', I2, J2, N', S', c1, c2, hI, l1, l2, l3, l4, l5, l6⟩ := (q_dashesIn (n := n) (m := m) (g := g) (x := xs (i + 1)) h 29).w
  obtain ⟨u, rfl⟩ := zcall_int c1 (by decide +kernel)
  have s0 : M1.2.2 0 = .inl (.short, L, .inl xs) := (l5 0 (by decide)).trans hs
  have m0 : (mk n m g I J).2.2 0 = .inl (.short, L, .inl xs) := hs
  have c1 : zcall 59 189 _ _ = _ := c1
  have c2 : zcall 59 365 _ _ = _ := c2
  refine ⟨n', m', g', I2, J2, N', S', ?_, hI, l1, l2, l3, l4 0 (by decide)⟩
  simp only [e_L_law_1416, e_L_law_1417, e_L_law_1418, e_L_law_1419, e_L_law_1420, e_L_law_1421, e_L_law_1422, e_L_law_1425, e_L_law_1426, e_L_law_1427, e_L_law_1428, e_L_law_1429, e_L_law_1430, e_L_law_1431, e_L_law_1434, e_L_law_1437, e_L_law_1438, c_3, c1, l6, c2, sc_ld m0 (show i + 1 < L by omega) h31, sc_ld s0 (show i + 1 < L by omega) h31, sc_ld m0 (show i + 2 < L by omega) h31, sc_ld s0 (show i + 2 < L by omega) h31, sc_ld m0 (show i + 3 < L by omega) h31, sc_ld s0 (show i + 3 < L by omega) h31, sc_ld m0 (show i + 4 < L by omega) h31, sc_ld s0 (show i + 4 < L by omega) h31, sc_ld m0 (show i + 5 < L by omega) h31, sc_ld s0 (show i + 5 < L by omega) h31, i_1, i_2, i_3, i_4, i_5, lg_eq, eq_self, Option.bind_some, Option.isSome_some, Option.toList, List.cons_append, List.nil_append, zclr_i, zclr_r, zclr_n, zfit_i, zfit_l, and_self, if_true, if_false]
theorem law_36 (h : Inv I J N S) (hn : 158 ≤ n) (hs : g 0 = .inl (.short, L, .inl xs)) (hi : i + 6 ≤ L) (hL : L ≤ 3072) : LwS i 1439 n m g I J := by
  have h31 : L < 2 ^ 31 := by omega
  obtain ⟨v, M1, n', m', g', I2, J2, N', S', c1, c2, hI, l1, l2, l3, l4, l5, l6⟩ := (q_luck (n := n) (m := m) (g := g) (x := xs (i + 1)) (k := xs (i + 2)) (o := xs (i + 3)) h 29).w
  obtain ⟨u, rfl⟩ := zcall_int c1 (by decide +kernel)
  have s0 : M1.2.2 0 = .inl (.short, L, .inl xs) := (l5 0 (by decide)).trans hs
  have m0 : (mk n m g I J).2.2 0 = .inl (.short, L, .inl xs) := hs
  have c1 : zcall 59 190 _ _ = _ := c1
  have c2 : zcall 59 366 _ _ = _ := c2
  refine ⟨n', m', g', I2, J2, N', S', ?_, hI, l1, l2, l3, l4 0 (by decide)⟩
  simp only [e_L_law_1439, e_L_law_1440, e_L_law_1441, e_L_law_1442, e_L_law_1443, e_L_law_1444, e_L_law_1445, e_L_law_1446, e_L_law_1447, e_L_law_1448, e_L_law_1449, e_L_law_1450, e_L_law_1451, e_L_law_1452, e_L_law_1453, e_L_law_1454, e_L_law_1455, e_L_law_1458, e_L_law_1459, e_L_law_1460, e_L_law_1461, e_L_law_1462, e_L_law_1463, e_L_law_1464, e_L_law_1465, e_L_law_1466, e_L_law_1467, e_L_law_1468, e_L_law_1469, e_L_law_1470, e_L_law_1471, e_L_law_1472, e_L_law_1473, e_L_law_1474, e_L_law_1477, e_L_law_1480, e_L_law_1481, c_3, c1, l6, c2, sc_ld m0 (show i + 1 < L by omega) h31, sc_ld s0 (show i + 1 < L by omega) h31, sc_ld m0 (show i + 2 < L by omega) h31, sc_ld s0 (show i + 2 < L by omega) h31, sc_ld m0 (show i + 3 < L by omega) h31, sc_ld s0 (show i + 3 < L by omega) h31, sc_ld m0 (show i + 4 < L by omega) h31, sc_ld s0 (show i + 4 < L by omega) h31, sc_ld m0 (show i + 5 < L by omega) h31, sc_ld s0 (show i + 5 < L by omega) h31, i_1, i_2, i_3, i_4, i_5, lg_eq, eq_self, Option.bind_some, Option.isSome_some, Option.toList, List.cons_append, List.nil_append, zclr_i, zclr_r, zclr_n, zfit_i, zfit_l, and_self, if_true, if_false]
theorem law_37 (h : Inv I J N S) (hn : 158 ≤ n) (hs : g 0 = .inl (.short, L, .inl xs)) (hi : i + 6 ≤ L) (hL : L ≤ 3072) : LwS i 1482 n m g I J := by
  have h31 : L < 2 ^ 31 := by omega
  obtain ⟨v, M1, n', m', g', I2, J2, N', S', c1, c2, hI, l1, l2, l3, l4, l5, l6⟩ := (q_canWed (n := n) (m := m) (g := g) (x := xs (i + 1)) (y := xs (i + 2)) (w := xs (i + 3)) h 29).w
  obtain ⟨u, rfl⟩ := zcall_int c1 (by decide +kernel)
  have s0 : M1.2.2 0 = .inl (.short, L, .inl xs) := (l5 0 (by decide)).trans hs
  have m0 : (mk n m g I J).2.2 0 = .inl (.short, L, .inl xs) := hs
  have c1 : zcall 59 191 _ _ = _ := c1
  have c2 : zcall 59 367 _ _ = _ := c2
  refine ⟨n', m', g', I2, J2, N', S', ?_, hI, l1, l2, l3, l4 0 (by decide)⟩
  simp only [e_L_law_1482, e_L_law_1483, e_L_law_1484, e_L_law_1485, e_L_law_1486, e_L_law_1487, e_L_law_1488, e_L_law_1489, e_L_law_1490, e_L_law_1491, e_L_law_1492, e_L_law_1493, e_L_law_1494, e_L_law_1495, e_L_law_1496, e_L_law_1497, e_L_law_1498, e_L_law_1501, e_L_law_1502, e_L_law_1503, e_L_law_1504, e_L_law_1505, e_L_law_1506, e_L_law_1507, e_L_law_1508, e_L_law_1509, e_L_law_1510, e_L_law_1511, e_L_law_1512, e_L_law_1513, e_L_law_1514, e_L_law_1515, e_L_law_1516, e_L_law_1517, e_L_law_1520, e_L_law_1523, e_L_law_1524, c_3, c1, l6, c2, sc_ld m0 (show i + 1 < L by omega) h31, sc_ld s0 (show i + 1 < L by omega) h31, sc_ld m0 (show i + 2 < L by omega) h31, sc_ld s0 (show i + 2 < L by omega) h31, sc_ld m0 (show i + 3 < L by omega) h31, sc_ld s0 (show i + 3 < L by omega) h31, sc_ld m0 (show i + 4 < L by omega) h31, sc_ld s0 (show i + 4 < L by omega) h31, sc_ld m0 (show i + 5 < L by omega) h31, sc_ld s0 (show i + 5 < L by omega) h31, i_1, i_2, i_3, i_4, i_5, lg_eq, eq_self, Option.bind_some, Option.isSome_some, Option.toList, List.cons_append, List.nil_append, zclr_i, zclr_r, zclr_n, zfit_i, zfit_l, and_self, if_true, if_false]
theorem law_38 (h : Inv I J N S) (hn : 158 ≤ n) (hs : g 0 = .inl (.short, L, .inl xs)) (hi : i + 6 ≤ L) (hL : L ≤ 3072) : LwS i 1525 n m g I J := by
  have h31 : L < 2 ^ 31 := by omega
  obtain ⟨v, M1, n', m', g', I2, J2, N', S', c1, c2, hI, l1, l2, l3, l4, l5, l6⟩ := (q_couples (n := n) (m := m) (g := g)  h 29).w
  obtain ⟨u, rfl⟩ := zcall_int c1 (by decide +kernel)
  have s0 : M1.2.2 0 = .inl (.short, L, .inl xs) := (l5 0 (by decide)).trans hs
  have m0 : (mk n m g I J).2.2 0 = .inl (.short, L, .inl xs) := hs
  have c1 : zcall 59 192 _ _ = _ := c1
  have c2 : zcall 59 369 _ _ = _ := c2
  refine ⟨n', m', g', I2, J2, N', S', ?_, hI, l1, l2, l3, l4 0 (by decide)⟩
  simp only [e_L_law_1525, e_L_law_1526, e_L_law_1529, e_L_law_1530, e_L_law_1533, e_L_law_1536, e_L_law_1537, c_3, c1, l6, c2, sc_ld m0 (show i + 1 < L by omega) h31, sc_ld s0 (show i + 1 < L by omega) h31, sc_ld m0 (show i + 2 < L by omega) h31, sc_ld s0 (show i + 2 < L by omega) h31, sc_ld m0 (show i + 3 < L by omega) h31, sc_ld s0 (show i + 3 < L by omega) h31, sc_ld m0 (show i + 4 < L by omega) h31, sc_ld s0 (show i + 4 < L by omega) h31, sc_ld m0 (show i + 5 < L by omega) h31, sc_ld s0 (show i + 5 < L by omega) h31, i_1, i_2, i_3, i_4, i_5, lg_eq, eq_self, Option.bind_some, Option.isSome_some, Option.toList, List.cons_append, List.nil_append, zclr_i, zclr_r, zclr_n, zfit_i, zfit_l, and_self, if_true, if_false]
theorem law_39 (h : Inv I J N S) (hn : 158 ≤ n) (hs : g 0 = .inl (.short, L, .inl xs)) (hi : i + 6 ≤ L) (hL : L ≤ 3072) : LwS i 1538 n m g I J := by
  have h31 : L < 2 ^ 31 := by omega
  obtain ⟨v, M1, n', m', g', I2, J2, N', S', c1, c2, hI, l1, l2, l3, l4, l5, l6⟩ := (q_couplesOf (n := n) (m := m) (g := g) (x := xs (i + 1)) h 29).w
  obtain ⟨u, rfl⟩ := zcall_int c1 (by decide +kernel)
  have s0 : M1.2.2 0 = .inl (.short, L, .inl xs) := (l5 0 (by decide)).trans hs
  have m0 : (mk n m g I J).2.2 0 = .inl (.short, L, .inl xs) := hs
  have c1 : zcall 59 193 _ _ = _ := c1
  have c2 : zcall 59 370 _ _ = _ := c2
  refine ⟨n', m', g', I2, J2, N', S', ?_, hI, l1, l2, l3, l4 0 (by decide)⟩
  simp only [e_L_law_1538, e_L_law_1539, e_L_law_1540, e_L_law_1541, e_L_law_1542, e_L_law_1543, e_L_law_1544, e_L_law_1547, e_L_law_1548, e_L_law_1549, e_L_law_1550, e_L_law_1551, e_L_law_1552, e_L_law_1553, e_L_law_1556, e_L_law_1559, e_L_law_1560, c_3, c1, l6, c2, sc_ld m0 (show i + 1 < L by omega) h31, sc_ld s0 (show i + 1 < L by omega) h31, sc_ld m0 (show i + 2 < L by omega) h31, sc_ld s0 (show i + 2 < L by omega) h31, sc_ld m0 (show i + 3 < L by omega) h31, sc_ld s0 (show i + 3 < L by omega) h31, sc_ld m0 (show i + 4 < L by omega) h31, sc_ld s0 (show i + 4 < L by omega) h31, sc_ld m0 (show i + 5 < L by omega) h31, sc_ld s0 (show i + 5 < L by omega) h31, i_1, i_2, i_3, i_4, i_5, lg_eq, eq_self, Option.bind_some, Option.isSome_some, Option.toList, List.cons_append, List.nil_append, zclr_i, zclr_r, zclr_n, zfit_i, zfit_l, and_self, if_true, if_false]
theorem law_40 (h : Inv I J N S) (hn : 158 ≤ n) (hs : g 0 = .inl (.short, L, .inl xs)) (hi : i + 6 ≤ L) (hL : L ≤ 3072) : LwS i 1561 n m g I J := by
  have h31 : L < 2 ^ 31 := by omega
  obtain ⟨v, M1, n', m', g', I2, J2, N', S', c1, c2, hI, l1, l2, l3, l4, l5, l6⟩ := (q_match (n := n) (m := m) (g := g) (x := xs (i + 1)) h 29).w
  obtain ⟨u, rfl⟩ := zcall_int c1 (by decide +kernel)
  have s0 : M1.2.2 0 = .inl (.short, L, .inl xs) := (l5 0 (by decide)).trans hs
  have m0 : (mk n m g I J).2.2 0 = .inl (.short, L, .inl xs) := hs
  have c1 : zcall 59 194 _ _ = _ := c1
  have c2 : zcall 59 371 _ _ = _ := c2
  refine ⟨n', m', g', I2, J2, N', S', ?_, hI, l1, l2, l3, l4 0 (by decide)⟩
  simp only [e_L_law_1561, e_L_law_1562, e_L_law_1563, e_L_law_1564, e_L_law_1565, e_L_law_1566, e_L_law_1567, e_L_law_1570, e_L_law_1571, e_L_law_1572, e_L_law_1573, e_L_law_1574, e_L_law_1575, e_L_law_1576, e_L_law_1579, e_L_law_1582, e_L_law_1583, c_3, c1, l6, c2, sc_ld m0 (show i + 1 < L by omega) h31, sc_ld s0 (show i + 1 < L by omega) h31, sc_ld m0 (show i + 2 < L by omega) h31, sc_ld s0 (show i + 2 < L by omega) h31, sc_ld m0 (show i + 3 < L by omega) h31, sc_ld s0 (show i + 3 < L by omega) h31, sc_ld m0 (show i + 4 < L by omega) h31, sc_ld s0 (show i + 4 < L by omega) h31, sc_ld m0 (show i + 5 < L by omega) h31, sc_ld s0 (show i + 5 < L by omega) h31, i_1, i_2, i_3, i_4, i_5, lg_eq, eq_self, Option.bind_some, Option.isSome_some, Option.toList, List.cons_append, List.nil_append, zclr_i, zclr_r, zclr_n, zfit_i, zfit_l, and_self, if_true, if_false]
theorem law_41 (h : Inv I J N S) (hn : 158 ≤ n) (hs : g 0 = .inl (.short, L, .inl xs)) (hi : i + 6 ≤ L) (hL : L ≤ 3072) : LwS i 1584 n m g I J := by
  have h31 : L < 2 ^ 31 := by omega
  obtain ⟨v, M1, n', m', g', I2, J2, N', S', c1, c2, hI, l1, l2, l3, l4, l5, l6⟩ := (q_suitors (n := n) (m := m) (g := g) (x := xs (i + 1)) h 29).w
  obtain ⟨u, rfl⟩ := zcall_int c1 (by decide +kernel)
  have s0 : M1.2.2 0 = .inl (.short, L, .inl xs) := (l5 0 (by decide)).trans hs
  have m0 : (mk n m g I J).2.2 0 = .inl (.short, L, .inl xs) := hs
  have c1 : zcall 59 195 _ _ = _ := c1
  have c2 : zcall 59 372 _ _ = _ := c2
  refine ⟨n', m', g', I2, J2, N', S', ?_, hI, l1, l2, l3, l4 0 (by decide)⟩
  simp only [e_L_law_1584, e_L_law_1585, e_L_law_1586, e_L_law_1587, e_L_law_1588, e_L_law_1589, e_L_law_1590, e_L_law_1593, e_L_law_1594, e_L_law_1595, e_L_law_1596, e_L_law_1597, e_L_law_1598, e_L_law_1599, e_L_law_1602, e_L_law_1605, e_L_law_1606, c_3, c1, l6, c2, sc_ld m0 (show i + 1 < L by omega) h31, sc_ld s0 (show i + 1 < L by omega) h31, sc_ld m0 (show i + 2 < L by omega) h31, sc_ld s0 (show i + 2 < L by omega) h31, sc_ld m0 (show i + 3 < L by omega) h31, sc_ld s0 (show i + 3 < L by omega) h31, sc_ld m0 (show i + 4 < L by omega) h31, sc_ld s0 (show i + 4 < L by omega) h31, sc_ld m0 (show i + 5 < L by omega) h31, sc_ld s0 (show i + 5 < L by omega) h31, i_1, i_2, i_3, i_4, i_5, lg_eq, eq_self, Option.bind_some, Option.isSome_some, Option.toList, List.cons_append, List.nil_append, zclr_i, zclr_r, zclr_n, zfit_i, zfit_l, and_self, if_true, if_false]
theorem law_42 (h : Inv I J N S) (hn : 158 ≤ n) (hs : g 0 = .inl (.short, L, .inl xs)) (hi : i + 6 ≤ L) (hL : L ≤ 3072) : LwS i 1607 n m g I J := by
  have h31 : L < 2 ^ 31 := by omega
  obtain ⟨v, M1, n', m', g', I2, J2, N', S', c1, c2, hI, l1, l2, l3, l4, l5, l6⟩ := (q_ringed (n := n) (m := m) (g := g) (x := xs (i + 1)) h 29).w
  obtain ⟨u, rfl⟩ := zcall_int c1 (by decide +kernel)
  have s0 : M1.2.2 0 = .inl (.short, L, .inl xs) := (l5 0 (by decide)).trans hs
  have m0 : (mk n m g I J).2.2 0 = .inl (.short, L, .inl xs) := hs
  have c1 : zcall 59 196 _ _ = _ := c1
  have c2 : zcall 59 377 _ _ = _ := c2
  refine ⟨n', m', g', I2, J2, N', S', ?_, hI, l1, l2, l3, l4 0 (by decide)⟩
  simp only [e_L_law_1607, e_L_law_1608, e_L_law_1609, e_L_law_1610, e_L_law_1611, e_L_law_1612, e_L_law_1613, e_L_law_1616, e_L_law_1617, e_L_law_1618, e_L_law_1619, e_L_law_1620, e_L_law_1621, e_L_law_1622, e_L_law_1625, e_L_law_1628, e_L_law_1629, c_3, c1, l6, c2, sc_ld m0 (show i + 1 < L by omega) h31, sc_ld s0 (show i + 1 < L by omega) h31, sc_ld m0 (show i + 2 < L by omega) h31, sc_ld s0 (show i + 2 < L by omega) h31, sc_ld m0 (show i + 3 < L by omega) h31, sc_ld s0 (show i + 3 < L by omega) h31, sc_ld m0 (show i + 4 < L by omega) h31, sc_ld s0 (show i + 4 < L by omega) h31, sc_ld m0 (show i + 5 < L by omega) h31, sc_ld s0 (show i + 5 < L by omega) h31, i_1, i_2, i_3, i_4, i_5, lg_eq, eq_self, Option.bind_some, Option.isSome_some, Option.toList, List.cons_append, List.nil_append, zclr_i, zclr_r, zclr_n, zfit_i, zfit_l, and_self, if_true, if_false]
theorem law_43 (h : Inv I J N S) (hn : 158 ≤ n) (hs : g 0 = .inl (.short, L, .inl xs)) (hi : i + 6 ≤ L) (hL : L ≤ 3072) : LwS i 1630 n m g I J := by
  have h31 : L < 2 ^ 31 := by omega
  obtain ⟨v, M1, n', m', g', I2, J2, N', S', c1, c2, hI, l1, l2, l3, l4, l5, l6⟩ := (q_rings (n := n) (m := m) (g := g)  h 29).w
  obtain ⟨u, rfl⟩ := zcall_int c1 (by decide +kernel)
  have s0 : M1.2.2 0 = .inl (.short, L, .inl xs) := (l5 0 (by decide)).trans hs
  have m0 : (mk n m g I J).2.2 0 = .inl (.short, L, .inl xs) := hs
  have c1 : zcall 59 197 _ _ = _ := c1
  have c2 : zcall 59 378 _ _ = _ := c2
  refine ⟨n', m', g', I2, J2, N', S', ?_, hI, l1, l2, l3, l4 0 (by decide)⟩
  simp only [e_L_law_1630, e_L_law_1631, e_L_law_1634, e_L_law_1635, e_L_law_1638, e_L_law_1641, e_L_law_1642, c_3, c1, l6, c2, sc_ld m0 (show i + 1 < L by omega) h31, sc_ld s0 (show i + 1 < L by omega) h31, sc_ld m0 (show i + 2 < L by omega) h31, sc_ld s0 (show i + 2 < L by omega) h31, sc_ld m0 (show i + 3 < L by omega) h31, sc_ld s0 (show i + 3 < L by omega) h31, sc_ld m0 (show i + 4 < L by omega) h31, sc_ld s0 (show i + 4 < L by omega) h31, sc_ld m0 (show i + 5 < L by omega) h31, sc_ld s0 (show i + 5 < L by omega) h31, i_1, i_2, i_3, i_4, i_5, lg_eq, eq_self, Option.bind_some, Option.isSome_some, Option.toList, List.cons_append, List.nil_append, zclr_i, zclr_r, zclr_n, zfit_i, zfit_l, and_self, if_true, if_false]
theorem law_44 (h : Inv I J N S) (hn : 158 ≤ n) (hs : g 0 = .inl (.short, L, .inl xs)) (hi : i + 6 ≤ L) (hL : L ≤ 3072) : LwS i 1643 n m g I J := by
  have h31 : L < 2 ^ 31 := by omega
  obtain ⟨v, M1, n', m', g', I2, J2, N', S', c1, c2, hI, l1, l2, l3, l4, l5, l6⟩ := (q_trade (n := n) (m := m) (g := g)  h 29).w
  obtain ⟨u, rfl⟩ := zcall_int c1 (by decide +kernel)
  have s0 : M1.2.2 0 = .inl (.short, L, .inl xs) := (l5 0 (by decide)).trans hs
  have m0 : (mk n m g I J).2.2 0 = .inl (.short, L, .inl xs) := hs
  have c1 : zcall 59 198 _ _ = _ := c1
  have c2 : zcall 59 379 _ _ = _ := c2
  refine ⟨n', m', g', I2, J2, N', S', ?_, hI, l1, l2, l3, l4 0 (by decide)⟩
  simp only [e_L_law_1643, e_L_law_1644, e_L_law_1647, e_L_law_1648, e_L_law_1651, e_L_law_1654, e_L_law_1655, c_3, c1, l6, c2, sc_ld m0 (show i + 1 < L by omega) h31, sc_ld s0 (show i + 1 < L by omega) h31, sc_ld m0 (show i + 2 < L by omega) h31, sc_ld s0 (show i + 2 < L by omega) h31, sc_ld m0 (show i + 3 < L by omega) h31, sc_ld s0 (show i + 3 < L by omega) h31, sc_ld m0 (show i + 4 < L by omega) h31, sc_ld s0 (show i + 4 < L by omega) h31, sc_ld m0 (show i + 5 < L by omega) h31, sc_ld s0 (show i + 5 < L by omega) h31, i_1, i_2, i_3, i_4, i_5, lg_eq, eq_self, Option.bind_some, Option.isSome_some, Option.toList, List.cons_append, List.nil_append, zclr_i, zclr_r, zclr_n, zfit_i, zfit_l, and_self, if_true, if_false]
theorem law_45 (h : Inv I J N S) (hn : 158 ≤ n) (hs : g 0 = .inl (.short, L, .inl xs)) (hi : i + 6 ≤ L) (hL : L ≤ 3072) : LwS i 1656 n m g I J := by
  have h31 : L < 2 ^ 31 := by omega
  obtain ⟨v, M1, n', m', g', I2, J2, N', S', c1, c2, hI, l1, l2, l3, l4, l5, l6⟩ := (q_content (n := n) (m := m) (g := g)  h 29).w
  obtain ⟨u, rfl⟩ := zcall_int c1 (by decide +kernel)
  have s0 : M1.2.2 0 = .inl (.short, L, .inl xs) := (l5 0 (by decide)).trans hs
  have m0 : (mk n m g I J).2.2 0 = .inl (.short, L, .inl xs) := hs
  have c1 : zcall 59 199 _ _ = _ := c1
  have c2 : zcall 59 380 _ _ = _ := c2
  refine ⟨n', m', g', I2, J2, N', S', ?_, hI, l1, l2, l3, l4 0 (by decide)⟩
  simp only [e_L_law_1656, e_L_law_1657, e_L_law_1660, e_L_law_1661, e_L_law_1664, e_L_law_1667, e_L_law_1668, c_3, c1, l6, c2, sc_ld m0 (show i + 1 < L by omega) h31, sc_ld s0 (show i + 1 < L by omega) h31, sc_ld m0 (show i + 2 < L by omega) h31, sc_ld s0 (show i + 2 < L by omega) h31, sc_ld m0 (show i + 3 < L by omega) h31, sc_ld s0 (show i + 3 < L by omega) h31, sc_ld m0 (show i + 4 < L by omega) h31, sc_ld s0 (show i + 4 < L by omega) h31, sc_ld m0 (show i + 5 < L by omega) h31, sc_ld s0 (show i + 5 < L by omega) h31, i_1, i_2, i_3, i_4, i_5, lg_eq, eq_self, Option.bind_some, Option.isSome_some, Option.toList, List.cons_append, List.nil_append, zclr_i, zclr_r, zclr_n, zfit_i, zfit_l, and_self, if_true, if_false]
theorem law_46 (h : Inv I J N S) (hn : 158 ≤ n) (hs : g 0 = .inl (.short, L, .inl xs)) (hi : i + 6 ≤ L) (hL : L ≤ 3072) : LwS i 1669 n m g I J := by
  have h31 : L < 2 ^ 31 := by omega
  obtain ⟨v, M1, n', m', g', I2, J2, N', S', c1, c2, hI, l1, l2, l3, l4, l5, l6⟩ := (q_kin (n := n) (m := m) (g := g) (x := xs (i + 1)) (y := xs (i + 2)) h 29).w
  obtain ⟨u, rfl⟩ := zcall_int c1 (by decide +kernel)
  have s0 : M1.2.2 0 = .inl (.short, L, .inl xs) := (l5 0 (by decide)).trans hs
  have m0 : (mk n m g I J).2.2 0 = .inl (.short, L, .inl xs) := hs
  have c1 : zcall 59 200 _ _ = _ := c1
  have c2 : zcall 59 381 _ _ = _ := c2
  refine ⟨n', m', g', I2, J2, N', S', ?_, hI, l1, l2, l3, l4 0 (by decide)⟩
  simp only [e_L_law_1669, e_L_law_1670, e_L_law_1671, e_L_law_1672, e_L_law_1673, e_L_law_1674, e_L_law_1675, e_L_law_1676, e_L_law_1677, e_L_law_1678, e_L_law_1679, e_L_law_1680, e_L_law_1683, e_L_law_1684, e_L_law_1685, e_L_law_1686, e_L_law_1687, e_L_law_1688, e_L_law_1689, e_L_law_1690, e_L_law_1691, e_L_law_1692, e_L_law_1693, e_L_law_1694, e_L_law_1697, e_L_law_1700, e_L_law_1701, c_3, c1, l6, c2, sc_ld m0 (show i + 1 < L by omega) h31, sc_ld s0 (show i + 1 < L by omega) h31, sc_ld m0 (show i + 2 < L by omega) h31, sc_ld s0 (show i + 2 < L by omega) h31, sc_ld m0 (show i + 3 < L by omega) h31, sc_ld s0 (show i + 3 < L by omega) h31, sc_ld m0 (show i + 4 < L by omega) h31, sc_ld s0 (show i + 4 < L by omega) h31, sc_ld m0 (show i + 5 < L by omega) h31, sc_ld s0 (show i + 5 < L by omega) h31, i_1, i_2, i_3, i_4, i_5, lg_eq, eq_self, Option.bind_some, Option.isSome_some, Option.toList, List.cons_append, List.nil_append, zclr_i, zclr_r, zclr_n, zfit_i, zfit_l, and_self, if_true, if_false]
theorem law_47 (h : Inv I J N S) (hn : 158 ≤ n) (hs : g 0 = .inl (.short, L, .inl xs)) (hi : i + 6 ≤ L) (hL : L ≤ 3072) : LwS i 1702 n m g I J := by
  have h31 : L < 2 ^ 31 := by omega
  obtain ⟨v, M1, n', m', g', I2, J2, N', S', c1, c2, hI, l1, l2, l3, l4, l5, l6⟩ := (q_children (n := n) (m := m) (g := g) (x := xs (i + 1)) h 29).w
  obtain ⟨u, rfl⟩ := zcall_int c1 (by decide +kernel)
  have s0 : M1.2.2 0 = .inl (.short, L, .inl xs) := (l5 0 (by decide)).trans hs
  have m0 : (mk n m g I J).2.2 0 = .inl (.short, L, .inl xs) := hs
  have c1 : zcall 59 201 _ _ = _ := c1
  have c2 : zcall 59 382 _ _ = _ := c2
  refine ⟨n', m', g', I2, J2, N', S', ?_, hI, l1, l2, l3, l4 0 (by decide)⟩
  simp only [e_L_law_1702, e_L_law_1703, e_L_law_1704, e_L_law_1705, e_L_law_1706, e_L_law_1707, e_L_law_1708, e_L_law_1711, e_L_law_1712, e_L_law_1713, e_L_law_1714, e_L_law_1715, e_L_law_1716, e_L_law_1717, e_L_law_1720, e_L_law_1723, e_L_law_1724, c_3, c1, l6, c2, sc_ld m0 (show i + 1 < L by omega) h31, sc_ld s0 (show i + 1 < L by omega) h31, sc_ld m0 (show i + 2 < L by omega) h31, sc_ld s0 (show i + 2 < L by omega) h31, sc_ld m0 (show i + 3 < L by omega) h31, sc_ld s0 (show i + 3 < L by omega) h31, sc_ld m0 (show i + 4 < L by omega) h31, sc_ld s0 (show i + 4 < L by omega) h31, sc_ld m0 (show i + 5 < L by omega) h31, sc_ld s0 (show i + 5 < L by omega) h31, i_1, i_2, i_3, i_4, i_5, lg_eq, eq_self, Option.bind_some, Option.isSome_some, Option.toList, List.cons_append, List.nil_append, zclr_i, zclr_r, zclr_n, zfit_i, zfit_l, and_self, if_true, if_false]
theorem law_48 (h : Inv I J N S) (hn : 158 ≤ n) (hs : g 0 = .inl (.short, L, .inl xs)) (hi : i + 6 ≤ L) (hL : L ≤ 3072) : LwS i 1725 n m g I J := by
  have h31 : L < 2 ^ 31 := by omega
  obtain ⟨v, M1, n', m', g', I2, J2, N', S', c1, c2, hI, l1, l2, l3, l4, l5, l6⟩ := (q_elders (n := n) (m := m) (g := g) (x := xs (i + 1)) h 29).w
  obtain ⟨u, rfl⟩ := zcall_int c1 (by decide +kernel)
  have s0 : M1.2.2 0 = .inl (.short, L, .inl xs) := (l5 0 (by decide)).trans hs
  have m0 : (mk n m g I J).2.2 0 = .inl (.short, L, .inl xs) := hs
  have c1 : zcall 59 202 _ _ = _ := c1
  have c2 : zcall 59 383 _ _ = _ := c2
  refine ⟨n', m', g', I2, J2, N', S', ?_, hI, l1, l2, l3, l4 0 (by decide)⟩
  simp only [e_L_law_1725, e_L_law_1726, e_L_law_1727, e_L_law_1728, e_L_law_1729, e_L_law_1730, e_L_law_1731, e_L_law_1734, e_L_law_1735, e_L_law_1736, e_L_law_1737, e_L_law_1738, e_L_law_1739, e_L_law_1740, e_L_law_1743, e_L_law_1746, e_L_law_1747, c_3, c1, l6, c2, sc_ld m0 (show i + 1 < L by omega) h31, sc_ld s0 (show i + 1 < L by omega) h31, sc_ld m0 (show i + 2 < L by omega) h31, sc_ld s0 (show i + 2 < L by omega) h31, sc_ld m0 (show i + 3 < L by omega) h31, sc_ld s0 (show i + 3 < L by omega) h31, sc_ld m0 (show i + 4 < L by omega) h31, sc_ld s0 (show i + 4 < L by omega) h31, sc_ld m0 (show i + 5 < L by omega) h31, sc_ld s0 (show i + 5 < L by omega) h31, i_1, i_2, i_3, i_4, i_5, lg_eq, eq_self, Option.bind_some, Option.isSome_some, Option.toList, List.cons_append, List.nil_append, zclr_i, zclr_r, zclr_n, zfit_i, zfit_l, and_self, if_true, if_false]
theorem law_49 (h : Inv I J N S) (hn : 158 ≤ n) (hs : g 0 = .inl (.short, L, .inl xs)) (hi : i + 6 ≤ L) (hL : L ≤ 3072) : LwS i 1748 n m g I J := by
  have h31 : L < 2 ^ 31 := by omega
  obtain ⟨v, M1, n', m', g', I2, J2, N', S', c1, c2, hI, l1, l2, l3, l4, l5, l6⟩ := (q_near (n := n) (m := m) (g := g) (x := xs (i + 1)) (y := xs (i + 2)) h 29).w
  obtain ⟨u, rfl⟩ := zcall_int c1 (by decide +kernel)
  have s0 : M1.2.2 0 = .inl (.short, L, .inl xs) := (l5 0 (by decide)).trans hs
  have m0 : (mk n m g I J).2.2 0 = .inl (.short, L, .inl xs) := hs
  have c1 : zcall 59 203 _ _ = _ := c1
  have c2 : zcall 59 384 _ _ = _ := c2
  refine ⟨n', m', g', I2, J2, N', S', ?_, hI, l1, l2, l3, l4 0 (by decide)⟩
  simp only [e_L_law_1748, e_L_law_1749, e_L_law_1750, e_L_law_1751, e_L_law_1752, e_L_law_1753, e_L_law_1754, e_L_law_1755, e_L_law_1756, e_L_law_1757, e_L_law_1758, e_L_law_1759, e_L_law_1762, e_L_law_1763, e_L_law_1764, e_L_law_1765, e_L_law_1766, e_L_law_1767, e_L_law_1768, e_L_law_1769, e_L_law_1770, e_L_law_1771, e_L_law_1772, e_L_law_1773, e_L_law_1776, e_L_law_1779, e_L_law_1780, c_3, c1, l6, c2, sc_ld m0 (show i + 1 < L by omega) h31, sc_ld s0 (show i + 1 < L by omega) h31, sc_ld m0 (show i + 2 < L by omega) h31, sc_ld s0 (show i + 2 < L by omega) h31, sc_ld m0 (show i + 3 < L by omega) h31, sc_ld s0 (show i + 3 < L by omega) h31, sc_ld m0 (show i + 4 < L by omega) h31, sc_ld s0 (show i + 4 < L by omega) h31, sc_ld m0 (show i + 5 < L by omega) h31, sc_ld s0 (show i + 5 < L by omega) h31, i_1, i_2, i_3, i_4, i_5, lg_eq, eq_self, Option.bind_some, Option.isSome_some, Option.toList, List.cons_append, List.nil_append, zclr_i, zclr_r, zclr_n, zfit_i, zfit_l, and_self, if_true, if_false]
theorem law_50 (h : Inv I J N S) (hn : 158 ≤ n) (hs : g 0 = .inl (.short, L, .inl xs)) (hi : i + 6 ≤ L) (hL : L ≤ 3072) : LwS i 1781 n m g I J := by
  have h31 : L < 2 ^ 31 := by omega
  obtain ⟨v, M1, n', m', g', I2, J2, N', S', c1, c2, hI, l1, l2, l3, l4, l5, l6⟩ := (q_parents (n := n) (m := m) (g := g) (x := xs (i + 1)) h 29).w
  obtain ⟨u, rfl⟩ := zcall_int c1 (by decide +kernel)
  have s0 : M1.2.2 0 = .inl (.short, L, .inl xs) := (l5 0 (by decide)).trans hs
  have m0 : (mk n m g I J).2.2 0 = .inl (.short, L, .inl xs) := hs
  have c1 : zcall 59 204 _ _ = _ := c1
  have c2 : zcall 59 386 _ _ = _ := c2
  refine ⟨n', m', g', I2, J2, N', S', ?_, hI, l1, l2, l3, l4 0 (by decide)⟩
  simp only [e_L_law_1781, e_L_law_1782, e_L_law_1783, e_L_law_1784, e_L_law_1785, e_L_law_1786, e_L_law_1787, e_L_law_1790, e_L_law_1791, e_L_law_1792, e_L_law_1793, e_L_law_1794, e_L_law_1795, e_L_law_1796, e_L_law_1799, e_L_law_1802, e_L_law_1803, c_3, c1, l6, c2, sc_ld m0 (show i + 1 < L by omega) h31, sc_ld s0 (show i + 1 < L by omega) h31, sc_ld m0 (show i + 2 < L by omega) h31, sc_ld s0 (show i + 2 < L by omega) h31, sc_ld m0 (show i + 3 < L by omega) h31, sc_ld s0 (show i + 3 < L by omega) h31, sc_ld m0 (show i + 4 < L by omega) h31, sc_ld s0 (show i + 4 < L by omega) h31, sc_ld m0 (show i + 5 < L by omega) h31, sc_ld s0 (show i + 5 < L by omega) h31, i_1, i_2, i_3, i_4, i_5, lg_eq, eq_self, Option.bind_some, Option.isSome_some, Option.toList, List.cons_append, List.nil_append, zclr_i, zclr_r, zclr_n, zfit_i, zfit_l, and_self, if_true, if_false]
theorem law_51 (h : Inv I J N S) (hn : 158 ≤ n) (hs : g 0 = .inl (.short, L, .inl xs)) (hi : i + 6 ≤ L) (hL : L ≤ 3072) : LwS i 1804 n m g I J := by
  have h31 : L < 2 ^ 31 := by omega
  obtain ⟨v, M1, n', m', g', I2, J2, N', S', c1, c2, hI, l1, l2, l3, l4, l5, l6⟩ := (q_couldBe (n := n) (m := m) (g := g) (x := xs (i + 1)) (y := xs (i + 2)) (z := xs (i + 3)) h 29).w
  obtain ⟨u, rfl⟩ := zcall_int c1 (by decide +kernel)
  have s0 : M1.2.2 0 = .inl (.short, L, .inl xs) := (l5 0 (by decide)).trans hs
  have m0 : (mk n m g I J).2.2 0 = .inl (.short, L, .inl xs) := hs
  have c1 : zcall 59 205 _ _ = _ := c1
  have c2 : zcall 59 387 _ _ = _ := c2
  refine ⟨n', m', g', I2, J2, N', S', ?_, hI, l1, l2, l3, l4 0 (by decide)⟩
  simp only [e_L_law_1804, e_L_law_1805, e_L_law_1806, e_L_law_1807, e_L_law_1808, e_L_law_1809, e_L_law_1810, e_L_law_1811, e_L_law_1812, e_L_law_1813, e_L_law_1814, e_L_law_1815, e_L_law_1816, e_L_law_1817, e_L_law_1818, e_L_law_1819, e_L_law_1820, e_L_law_1823, e_L_law_1824, e_L_law_1825, e_L_law_1826, e_L_law_1827, e_L_law_1828, e_L_law_1829, e_L_law_1830, e_L_law_1831, e_L_law_1832, e_L_law_1833, e_L_law_1834, e_L_law_1835, e_L_law_1836, e_L_law_1837, e_L_law_1838, e_L_law_1839, e_L_law_1842, e_L_law_1845, e_L_law_1846, c_3, c1, l6, c2, sc_ld m0 (show i + 1 < L by omega) h31, sc_ld s0 (show i + 1 < L by omega) h31, sc_ld m0 (show i + 2 < L by omega) h31, sc_ld s0 (show i + 2 < L by omega) h31, sc_ld m0 (show i + 3 < L by omega) h31, sc_ld s0 (show i + 3 < L by omega) h31, sc_ld m0 (show i + 4 < L by omega) h31, sc_ld s0 (show i + 4 < L by omega) h31, sc_ld m0 (show i + 5 < L by omega) h31, sc_ld s0 (show i + 5 < L by omega) h31, i_1, i_2, i_3, i_4, i_5, lg_eq, eq_self, Option.bind_some, Option.isSome_some, Option.toList, List.cons_append, List.nil_append, zclr_i, zclr_r, zclr_n, zfit_i, zfit_l, and_self, if_true, if_false]
theorem law_52 (h : Inv I J N S) (hn : 158 ≤ n) (hs : g 0 = .inl (.short, L, .inl xs)) (hi : i + 6 ≤ L) (hL : L ≤ 3072) : LwS i 1847 n m g I J := by
  have h31 : L < 2 ^ 31 := by omega
  obtain ⟨v, M1, n', m', g', I2, J2, N', S', c1, c2, hI, l1, l2, l3, l4, l5, l6⟩ := (q_wealth (n := n) (m := m) (g := g) (x := xs (i + 1)) h 29).w
  obtain ⟨u, rfl⟩ := zcall_int c1 (by decide +kernel)
  have s0 : M1.2.2 0 = .inl (.short, L, .inl xs) := (l5 0 (by decide)).trans hs
  have m0 : (mk n m g I J).2.2 0 = .inl (.short, L, .inl xs) := hs
  have c1 : zcall 59 206 _ _ = _ := c1
  have c2 : zcall 59 389 _ _ = _ := c2
  refine ⟨n', m', g', I2, J2, N', S', ?_, hI, l1, l2, l3, l4 0 (by decide)⟩
  simp only [e_L_law_1847, e_L_law_1848, e_L_law_1849, e_L_law_1850, e_L_law_1851, e_L_law_1852, e_L_law_1853, e_L_law_1856, e_L_law_1857, e_L_law_1858, e_L_law_1859, e_L_law_1860, e_L_law_1861, e_L_law_1862, e_L_law_1865, e_L_law_1868, e_L_law_1869, c_3, c1, l6, c2, sc_ld m0 (show i + 1 < L by omega) h31, sc_ld s0 (show i + 1 < L by omega) h31, sc_ld m0 (show i + 2 < L by omega) h31, sc_ld s0 (show i + 2 < L by omega) h31, sc_ld m0 (show i + 3 < L by omega) h31, sc_ld s0 (show i + 3 < L by omega) h31, sc_ld m0 (show i + 4 < L by omega) h31, sc_ld s0 (show i + 4 < L by omega) h31, sc_ld m0 (show i + 5 < L by omega) h31, sc_ld s0 (show i + 5 < L by omega) h31, i_1, i_2, i_3, i_4, i_5, lg_eq, eq_self, Option.bind_some, Option.isSome_some, Option.toList, List.cons_append, List.nil_append, zclr_i, zclr_r, zclr_n, zfit_i, zfit_l, and_self, if_true, if_false]
theorem law_53 (h : Inv I J N S) (hn : 158 ≤ n) (hs : g 0 = .inl (.short, L, .inl xs)) (hi : i + 6 ≤ L) (hL : L ≤ 3072) : LwS i 1870 n m g I J := by
  have h31 : L < 2 ^ 31 := by omega
  obtain ⟨v, M1, n', m', g', I2, J2, N', S', c1, c2, hI, l1, l2, l3, l4, l5, l6⟩ := (q_richest (n := n) (m := m) (g := g)  h 29).w
  obtain ⟨u, rfl⟩ := zcall_int c1 (by decide +kernel)
  have s0 : M1.2.2 0 = .inl (.short, L, .inl xs) := (l5 0 (by decide)).trans hs
  have m0 : (mk n m g I J).2.2 0 = .inl (.short, L, .inl xs) := hs
  have c1 : zcall 59 207 _ _ = _ := c1
  have c2 : zcall 59 390 _ _ = _ := c2
  refine ⟨n', m', g', I2, J2, N', S', ?_, hI, l1, l2, l3, l4 0 (by decide)⟩
  simp only [e_L_law_1870, e_L_law_1871, e_L_law_1874, e_L_law_1875, e_L_law_1878, e_L_law_1881, e_L_law_1882, c_3, c1, l6, c2, sc_ld m0 (show i + 1 < L by omega) h31, sc_ld s0 (show i + 1 < L by omega) h31, sc_ld m0 (show i + 2 < L by omega) h31, sc_ld s0 (show i + 2 < L by omega) h31, sc_ld m0 (show i + 3 < L by omega) h31, sc_ld s0 (show i + 3 < L by omega) h31, sc_ld m0 (show i + 4 < L by omega) h31, sc_ld s0 (show i + 4 < L by omega) h31, sc_ld m0 (show i + 5 < L by omega) h31, sc_ld s0 (show i + 5 < L by omega) h31, i_1, i_2, i_3, i_4, i_5, lg_eq, eq_self, Option.bind_some, Option.isSome_some, Option.toList, List.cons_append, List.nil_append, zclr_i, zclr_r, zclr_n, zfit_i, zfit_l, and_self, if_true, if_false]
theorem law_54 (h : Inv I J N S) (hn : 158 ≤ n) (hs : g 0 = .inl (.short, L, .inl xs)) (hi : i + 6 ≤ L) (hL : L ≤ 3072) : LwS i 1883 n m g I J := by
  have h31 : L < 2 ^ 31 := by omega
  obtain ⟨v, M1, n', m', g', I2, J2, N', S', c1, c2, hI, l1, l2, l3, l4, l5, l6⟩ := (q_buyers (n := n) (m := m) (g := g) (x := xs (i + 1)) h 29).w
  obtain ⟨u, rfl⟩ := zcall_int c1 (by decide +kernel)
  have s0 : M1.2.2 0 = .inl (.short, L, .inl xs) := (l5 0 (by decide)).trans hs
  have m0 : (mk n m g I J).2.2 0 = .inl (.short, L, .inl xs) := hs
  have c1 : zcall 59 208 _ _ = _ := c1
  have c2 : zcall 59 391 _ _ = _ := c2
  refine ⟨n', m', g', I2, J2, N', S', ?_, hI, l1, l2, l3, l4 0 (by decide)⟩
  simp only [e_L_law_1883, e_L_law_1884, e_L_law_1885, e_L_law_1886, e_L_law_1887, e_L_law_1888, e_L_law_1889, e_L_law_1892, e_L_law_1893, e_L_law_1894, e_L_law_1895, e_L_law_1896, e_L_law_1897, e_L_law_1898, e_L_law_1901, e_L_law_1904, e_L_law_1905, c_3, c1, l6, c2, sc_ld m0 (show i + 1 < L by omega) h31, sc_ld s0 (show i + 1 < L by omega) h31, sc_ld m0 (show i + 2 < L by omega) h31, sc_ld s0 (show i + 2 < L by omega) h31, sc_ld m0 (show i + 3 < L by omega) h31, sc_ld s0 (show i + 3 < L by omega) h31, sc_ld m0 (show i + 4 < L by omega) h31, sc_ld s0 (show i + 4 < L by omega) h31, sc_ld m0 (show i + 5 < L by omega) h31, sc_ld s0 (show i + 5 < L by omega) h31, i_1, i_2, i_3, i_4, i_5, lg_eq, eq_self, Option.bind_some, Option.isSome_some, Option.toList, List.cons_append, List.nil_append, zclr_i, zclr_r, zclr_n, zfit_i, zfit_l, and_self, if_true, if_false]
theorem law_55 (h : Inv I J N S) (hn : 158 ≤ n) (hs : g 0 = .inl (.short, L, .inl xs)) (hi : i + 6 ≤ L) (hL : L ≤ 3072) : LwS i 1906 n m g I J := by
  have h31 : L < 2 ^ 31 := by omega
  obtain ⟨v, M1, n', m', g', I2, J2, N', S', c1, c2, hI, l1, l2, l3, l4, l5, l6⟩ := (q_recount (n := n) (m := m) (g := g) (x := xs (i + 1)) h 29).w
  obtain ⟨u, rfl⟩ := zcall_int c1 (by decide +kernel)
  have s0 : M1.2.2 0 = .inl (.short, L, .inl xs) := (l5 0 (by decide)).trans hs
  have m0 : (mk n m g I J).2.2 0 = .inl (.short, L, .inl xs) := hs
  have c1 : zcall 59 209 _ _ = _ := c1
  have c2 : zcall 59 393 _ _ = _ := c2
  refine ⟨n', m', g', I2, J2, N', S', ?_, hI, l1, l2, l3, l4 0 (by decide)⟩
  simp only [e_L_law_1906, e_L_law_1907, e_L_law_1908, e_L_law_1909, e_L_law_1910, e_L_law_1911, e_L_law_1912, e_L_law_1915, e_L_law_1916, e_L_law_1917, e_L_law_1918, e_L_law_1919, e_L_law_1920, e_L_law_1921, e_L_law_1924, e_L_law_1927, e_L_law_1928, c_3, c1, l6, c2, sc_ld m0 (show i + 1 < L by omega) h31, sc_ld s0 (show i + 1 < L by omega) h31, sc_ld m0 (show i + 2 < L by omega) h31, sc_ld s0 (show i + 2 < L by omega) h31, sc_ld m0 (show i + 3 < L by omega) h31, sc_ld s0 (show i + 3 < L by omega) h31, sc_ld m0 (show i + 4 < L by omega) h31, sc_ld s0 (show i + 4 < L by omega) h31, sc_ld m0 (show i + 5 < L by omega) h31, sc_ld s0 (show i + 5 < L by omega) h31, i_1, i_2, i_3, i_4, i_5, lg_eq, eq_self, Option.bind_some, Option.isSome_some, Option.toList, List.cons_append, List.nil_append, zclr_i, zclr_r, zclr_n, zfit_i, zfit_l, and_self, if_true, if_false]
theorem law_56 (h : Inv I J N S) (hn : 158 ≤ n) (hs : g 0 = .inl (.short, L, .inl xs)) (hi : i + 6 ≤ L) (hL : L ≤ 3072) : LwS i 1929 n m g I J := by
  have h31 : L < 2 ^ 31 := by omega
  obtain ⟨v, M1, n', m', g', I2, J2, N', S', c1, c2, hI, l1, l2, l3, l4, l5, l6⟩ := (q_live (n := n) (m := m) (g := g) (x := xs (i + 1)) h 29).w
  obtain ⟨u, rfl⟩ := zcall_int c1 (by decide +kernel)
  have s0 : M1.2.2 0 = .inl (.short, L, .inl xs) := (l5 0 (by decide)).trans hs
  have m0 : (mk n m g I J).2.2 0 = .inl (.short, L, .inl xs) := hs
  have c1 : zcall 59 210 _ _ = _ := c1
  have c2 : zcall 59 404 _ _ = _ := c2
  refine ⟨n', m', g', I2, J2, N', S', ?_, hI, l1, l2, l3, l4 0 (by decide)⟩
  simp only [e_L_law_1929, e_L_law_1930, e_L_law_1931, e_L_law_1932, e_L_law_1933, e_L_law_1934, e_L_law_1935, e_L_law_1938, e_L_law_1939, e_L_law_1940, e_L_law_1941, e_L_law_1942, e_L_law_1943, e_L_law_1944, e_L_law_1947, e_L_law_1950, e_L_law_1951, c_3, c1, l6, c2, sc_ld m0 (show i + 1 < L by omega) h31, sc_ld s0 (show i + 1 < L by omega) h31, sc_ld m0 (show i + 2 < L by omega) h31, sc_ld s0 (show i + 2 < L by omega) h31, sc_ld m0 (show i + 3 < L by omega) h31, sc_ld s0 (show i + 3 < L by omega) h31, sc_ld m0 (show i + 4 < L by omega) h31, sc_ld s0 (show i + 4 < L by omega) h31, sc_ld m0 (show i + 5 < L by omega) h31, sc_ld s0 (show i + 5 < L by omega) h31, i_1, i_2, i_3, i_4, i_5, lg_eq, eq_self, Option.bind_some, Option.isSome_some, Option.toList, List.cons_append, List.nil_append, zclr_i, zclr_r, zclr_n, zfit_i, zfit_l, and_self, if_true, if_false]
theorem law_57 (h : Inv I J N S) (hn : 158 ≤ n) (hs : g 0 = .inl (.short, L, .inl xs)) (hi : i + 6 ≤ L) (hL : L ≤ 3072) : LwS i 1952 n m g I J := by
  have h31 : L < 2 ^ 31 := by omega
  obtain ⟨v, M1, n', m', g', I2, J2, N', S', c1, c2, hI, l1, l2, l3, l4, l5, l6⟩ := (q_lived (n := n) (m := m) (g := g) (x := xs (i + 1)) h 29).w
  obtain ⟨u, rfl⟩ := zcall_int c1 (by decide +kernel)
  have s0 : M1.2.2 0 = .inl (.short, L, .inl xs) := (l5 0 (by decide)).trans hs
  have m0 : (mk n m g I J).2.2 0 = .inl (.short, L, .inl xs) := hs
  have c1 : zcall 59 211 _ _ = _ := c1
  have c2 : zcall 59 405 _ _ = _ := c2
  refine ⟨n', m', g', I2, J2, N', S', ?_, hI, l1, l2, l3, l4 0 (by decide)⟩
  simp only [e_L_law_1952, e_L_law_1953, e_L_law_1954, e_L_law_1955, e_L_law_1956, e_L_law_1957, e_L_law_1958, e_L_law_1961, e_L_law_1962, e_L_law_1963, e_L_law_1964, e_L_law_1965, e_L_law_1966, e_L_law_1967, e_L_law_1970, e_L_law_1973, e_L_law_1974, c_3, c1, l6, c2, sc_ld m0 (show i + 1 < L by omega) h31, sc_ld s0 (show i + 1 < L by omega) h31, sc_ld m0 (show i + 2 < L by omega) h31, sc_ld s0 (show i + 2 < L by omega) h31, sc_ld m0 (show i + 3 < L by omega) h31, sc_ld s0 (show i + 3 < L by omega) h31, sc_ld m0 (show i + 4 < L by omega) h31, sc_ld s0 (show i + 4 < L by omega) h31, sc_ld m0 (show i + 5 < L by omega) h31, sc_ld s0 (show i + 5 < L by omega) h31, i_1, i_2, i_3, i_4, i_5, lg_eq, eq_self, Option.bind_some, Option.isSome_some, Option.toList, List.cons_append, List.nil_append, zclr_i, zclr_r, zclr_n, zfit_i, zfit_l, and_self, if_true, if_false]
theorem law_58 (h : Inv I J N S) (hn : 158 ≤ n) (hs : g 0 = .inl (.short, L, .inl xs)) (hi : i + 6 ≤ L) (hL : L ≤ 3072) : LwS i 1975 n m g I J := by
  have h31 : L < 2 ^ 31 := by omega
  obtain ⟨v, M1, n', m', g', I2, J2, N', S', c1, c2, hI, l1, l2, l3, l4, l5, l6⟩ := (q_mean (n := n) (m := m) (g := g) (x := xs (i + 1)) (y := xs (i + 2)) h 29).w
  obtain ⟨u, rfl⟩ := zcall_int c1 (by decide +kernel)
  have s0 : M1.2.2 0 = .inl (.short, L, .inl xs) := (l5 0 (by decide)).trans hs
  have m0 : (mk n m g I J).2.2 0 = .inl (.short, L, .inl xs) := hs
  have c1 : zcall 59 212 _ _ = _ := c1
  have c2 : zcall 59 406 _ _ = _ := c2
  refine ⟨n', m', g', I2, J2, N', S', ?_, hI, l1, l2, l3, l4 0 (by decide)⟩
  simp only [e_L_law_1975, e_L_law_1976, e_L_law_1977, e_L_law_1978, e_L_law_1979, e_L_law_1980, e_L_law_1981, e_L_law_1982, e_L_law_1983, e_L_law_1984, e_L_law_1985, e_L_law_1986, e_L_law_1989, e_L_law_1990, e_L_law_1991, e_L_law_1992, e_L_law_1993, e_L_law_1994, e_L_law_1995, e_L_law_1996, e_L_law_1997, e_L_law_1998, e_L_law_1999, e_L_law_2000, e_L_law_2003, e_L_law_2006, e_L_law_2007, c_3, c1, l6, c2, sc_ld m0 (show i + 1 < L by omega) h31, sc_ld s0 (show i + 1 < L by omega) h31, sc_ld m0 (show i + 2 < L by omega) h31, sc_ld s0 (show i + 2 < L by omega) h31, sc_ld m0 (show i + 3 < L by omega) h31, sc_ld s0 (show i + 3 < L by omega) h31, sc_ld m0 (show i + 4 < L by omega) h31, sc_ld s0 (show i + 4 < L by omega) h31, sc_ld m0 (show i + 5 < L by omega) h31, sc_ld s0 (show i + 5 < L by omega) h31, i_1, i_2, i_3, i_4, i_5, lg_eq, eq_self, Option.bind_some, Option.isSome_some, Option.toList, List.cons_append, List.nil_append, zclr_i, zclr_r, zclr_n, zfit_i, zfit_l, and_self, if_true, if_false]
theorem law_59 (h : Inv I J N S) (hn : 158 ≤ n) (hs : g 0 = .inl (.short, L, .inl xs)) (hi : i + 6 ≤ L) (hL : L ≤ 3072) : LwS i 2008 n m g I J := by
  have h31 : L < 2 ^ 31 := by omega
  obtain ⟨v, M1, n', m', g', I2, J2, N', S', c1, c2, hI, l1, l2, l3, l4, l5, l6⟩ := (q_mark (n := n) (m := m) (g := g)  h 29).w
  obtain ⟨u, rfl⟩ := zcall_int c1 (by decide +kernel)
  have s0 : M1.2.2 0 = .inl (.short, L, .inl xs) := (l5 0 (by decide)).trans hs
  have m0 : (mk n m g I J).2.2 0 = .inl (.short, L, .inl xs) := hs
  have c1 : zcall 59 213 _ _ = _ := c1
  have c2 : zcall 59 408 _ _ = _ := c2
  refine ⟨n', m', g', I2, J2, N', S', ?_, hI, l1, l2, l3, l4 0 (by decide)⟩
  simp only [e_L_law_2008, e_L_law_2009, e_L_law_2012, e_L_law_2013, e_L_law_2016, e_L_law_2019, e_L_law_2020, c_3, c1, l6, c2, sc_ld m0 (show i + 1 < L by omega) h31, sc_ld s0 (show i + 1 < L by omega) h31, sc_ld m0 (show i + 2 < L by omega) h31, sc_ld s0 (show i + 2 < L by omega) h31, sc_ld m0 (show i + 3 < L by omega) h31, sc_ld s0 (show i + 3 < L by omega) h31, sc_ld m0 (show i + 4 < L by omega) h31, sc_ld s0 (show i + 4 < L by omega) h31, sc_ld m0 (show i + 5 < L by omega) h31, sc_ld s0 (show i + 5 < L by omega) h31, i_1, i_2, i_3, i_4, i_5, lg_eq, eq_self, Option.bind_some, Option.isSome_some, Option.toList, List.cons_append, List.nil_append, zclr_i, zclr_r, zclr_n, zfit_i, zfit_l, and_self, if_true, if_false]
theorem law_60 (h : Inv I J N S) (hn : 158 ≤ n) (hs : g 0 = .inl (.short, L, .inl xs)) (hi : i + 6 ≤ L) (hL : L ≤ 3072) : LwS i 2021 n m g I J := by
  have h31 : L < 2 ^ 31 := by omega
  obtain ⟨v, M1, n', m', g', I2, J2, N', S', c1, c2, hI, l1, l2, l3, l4, l5, l6⟩ := (q_back (n := n) (m := m) (g := g)  h 29).w
  obtain ⟨u, rfl⟩ := zcall_int c1 (by decide +kernel)
  have s0 : M1.2.2 0 = .inl (.short, L, .inl xs) := (l5 0 (by decide)).trans hs
  have m0 : (mk n m g I J).2.2 0 = .inl (.short, L, .inl xs) := hs
  have c1 : zcall 59 214 _ _ = _ := c1
  have c2 : zcall 59 409 _ _ = _ := c2
  refine ⟨n', m', g', I2, J2, N', S', ?_, hI, l1, l2, l3, l4 0 (by decide)⟩
  simp only [e_L_law_2021, e_L_law_2022, e_L_law_2025, e_L_law_2026, e_L_law_2029, e_L_law_2032, e_L_law_2033, c_3, c1, l6, c2, sc_ld m0 (show i + 1 < L by omega) h31, sc_ld s0 (show i + 1 < L by omega) h31, sc_ld m0 (show i + 2 < L by omega) h31, sc_ld s0 (show i + 2 < L by omega) h31, sc_ld m0 (show i + 3 < L by omega) h31, sc_ld s0 (show i + 3 < L by omega) h31, sc_ld m0 (show i + 4 < L by omega) h31, sc_ld s0 (show i + 4 < L by omega) h31, sc_ld m0 (show i + 5 < L by omega) h31, sc_ld s0 (show i + 5 < L by omega) h31, i_1, i_2, i_3, i_4, i_5, lg_eq, eq_self, Option.bind_some, Option.isSome_some, Option.toList, List.cons_append, List.nil_append, zclr_i, zclr_r, zclr_n, zfit_i, zfit_l, and_self, if_true, if_false]
end LW
