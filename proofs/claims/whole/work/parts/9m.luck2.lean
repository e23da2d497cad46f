/-! LUCK: both -/
section LM
variable {n m : Nat} {g : Nat → zC} {I X Y A : Nat → Nat → Int32} {J J2 : Nat → Nat → Int64} {N S U b : Nat}
/-- the reference's fraction -/
theorem v_fraction {a b : Nat} (ha : a < 2 ^ 62) (h0 : b ≠ 0) (hb : b < 2 ^ 62) (d : Nat) : zcall (d + 1) 241 [.ref 143, .long (lL a), .long (lL b)] (mk n m g I J) = some (some (.int 1), mk n m g I (zu (zu J 143 2 (lL a / lL (Nat.gcd a b))) 143 3 (lL b / lL (Nat.gcd a b)))) := by
  have hend : ∀ x y (r : Option Value), x ≠ 0 → x < 2 ^ 62 → zexec (d + 1) 241 34 [some (.ref 143), some (.long (lL a)), none, some (.long (lL b)), none, some (.long (lL x)), none, some (.long y), none, r, none] [] (mk n m g I J) = some (some (.int 1), mk n m g I (zu (zu J 143 2 (lL a / lL x)) 143 3 (lL b / lL x))) := by
    intro x y r hx0 hx
    have h : ¬ lL x = 0 := fun e => hx0 (lL_inj (by omega) (by decide) e)
    simp only [e_X12_fraction_34, e_X12_fraction_35, e_X12_fraction_36, e_X12_fraction_38, e_X12_fraction_39, e_X12_fraction_42, e_X12_fraction_43, e_X12_fraction_44, e_X12_fraction_46, e_X12_fraction_47, e_X12_fraction_50, e_X12_fraction_51, if_neg h, g_143_2, g_143_3, p_143_2, p_143_3, zfit_b1, Option.bind_some, Option.isSome_some, Option.toList, List.cons_append, List.nil_append, zclr_i, zclr_r, zclr_n, zfit_i, zfit_l, and_self, if_true, if_false]
  have hl : ∀ k x y (r : Option Value), y ≤ k → x < 2 ^ 62 → y < 2 ^ 62 → (x ≠ 0 ∨ y ≠ 0) → zexec (d + 1) 241 9 [some (.ref 143), some (.long (lL a)), none, some (.long (lL b)), none, some (.long (lL x)), none, some (.long (lL y)), none, r, none] [] (mk n m g I J) = some (some (.int 1), mk n m g I (zu (zu J 143 2 (lL a / lL (Nat.gcd x y))) 143 3 (lL b / lL (Nat.gcd x y)))) := by
    intro k
    induction k with
    | zero =>
      intro x y r hk hx hy hn
      have hy0 : y = 0 := by omega
      subst hy0
      rw [e_X12_fraction_9, Nat.gcd_zero_right]
      simp only [e_X12_fraction_11, e_X12_fraction_12, e_X12_fraction_13, lg_eq, show (lL 0 = 0) = True from eq_true rfl, hend x (lL 0) r (by omega) hx, Option.bind_some, Option.isSome_some, Option.toList, List.cons_append, List.nil_append, zclr_i, zclr_r, zclr_n, zfit_i, zfit_l, and_self, if_true, if_false]
    | succ k ih =>
      intro x y r hk hx hy hn
      by_cases hy0 : y = 0
      · subst hy0
        rw [e_X12_fraction_9, Nat.gcd_zero_right]
        simp only [e_X12_fraction_11, e_X12_fraction_12, e_X12_fraction_13, lg_eq, show (lL 0 = 0) = True from eq_true rfl, hend x (lL 0) r (by omega) hx, Option.bind_some, Option.isSome_some, Option.toList, List.cons_append, List.nil_append, zclr_i, zclr_r, zclr_n, zfit_i, zfit_l, and_self, if_true, if_false]
      · have hne : ¬ lL y = 0 := fun e => hy0 (lL_inj (by omega) (by decide) e)
        have hr : x % y < y := Nat.mod_lt _ (by omega)
        have g1 : Nat.gcd x y = Nat.gcd y (x % y) := by
          rw [Nat.gcd_comm x y, Nat.gcd_rec y x, Nat.gcd_comm]
        have hi := ih y (x % y) (some (.long (lL (x % y)))) (by omega) hy (by omega) (Or.inl hy0)
        rw [e_X12_fraction_9, g1, ← hi]
        simp only [e_X12_fraction_11, e_X12_fraction_12, e_X12_fraction_13, e_X12_fraction_16, e_X12_fraction_18, e_X12_fraction_20, e_X12_fraction_21, e_X12_fraction_23, e_X12_fraction_25, e_X12_fraction_27, e_X12_fraction_29, e_X12_fraction_31, lg_eq, hne, if_neg hne, lL_mod (show x < 2 ^ 63 by omega) (show y < 2 ^ 63 by omega), zclr_l, Option.bind_some, Option.isSome_some, Option.toList, List.cons_append, List.nil_append, zclr_i, zclr_r, zclr_n, zfit_i, zfit_l, and_self, if_true, if_false]
  rw [m_X12_fraction]
  simp only [e_X12_fraction_0, e_X12_fraction_1, e_X12_fraction_4, e_X12_fraction_6, e_X12_fraction_7, j_abs, if_neg (lL_neg (show a < 2 ^ 63 by omega)), Option.bind_some, Option.isSome_some, Option.toList, List.cons_append, List.nil_append, zclr_i, zclr_r, zclr_n, zfit_i, zfit_l, and_self, if_true, if_false]
  exact hl b a b none (Nat.le_refl b) ha hb (Or.inr h0)
theorem tell_gcd {a b : Nat} (ha : a < 2 ^ 62) (h0 : b ≠ 0) (hb : b < 2 ^ 62) : tellJ (lL a) (lL b) J = zu (zu J 3 1 (lL a / lL (Nat.gcd a b))) 3 2 (lL b / lL (Nat.gcd a b)) := by
  unfold tellJ
  rw [euc_gcd 62 200 b a ha (by decide) (by omega) (by decide), Nat.gcd_comm b a]
  have h1 : Nat.gcd a b ≤ b := Nat.gcd_le_right a (by omega)
  have h2 : Nat.gcd a b ≠ 0 := fun h => h0 (Nat.eq_zero_of_gcd_eq_zero_right h)
  rw [if_pos (lL_pos h2 (by omega))]
theorem Inv.frac (h : Inv I J N S) (hJ : ∀ a, a ≠ 3 → a ≠ 143 → a ≠ 152 → J2 a = J a) (h1 : J2 3 1 = J2 143 2 ∧ J2 3 2 = J2 143 3) : Inv I J2 N S := by
  obtain ⟨i1, i2, i3, i4, i5, _, i7, i8, i9, i10, i11, i12⟩ := h
  refine ⟨i1, i2, ?_, i4, i5, h1, ?_, i8, ?_, i10, i11, ?_⟩
  · unfold JW at *
    rw [hJ (16 + 1) (by decide) (by decide) (by decide), hJ (16 + 4) (by decide) (by decide) (by decide), hJ 151 (by decide) (by decide) (by decide)]
    exact i3
  · obtain ⟨a1, a2, a3⟩ := i7
    refine ⟨a1, a2, fun t k h1 h2 h4 => ?_⟩
    rw [hJ (8 + t) (by omega) (by omega) (by omega), hJ 146 (by decide) (by decide) (by decide)]
    exact a3 t k h1 h2 h4
  · obtain ⟨a1, a2, a3⟩ := i9
    refine ⟨a1, a2, fun k hk => ?_⟩
    rw [hJ 14 (by decide) (by decide) (by decide)]
    exact a3 k hk
  · obtain ⟨K, k1, k2, k3, k4⟩ := i12
    refine ⟨K, k1, k2, k3, fun k hk => ?_⟩
    obtain ⟨N1, S1, w1, r1, j1, c1⟩ := k4 k hk
    refine ⟨N1, S1, w1, r1, ?_, c1⟩
    unfold JW at *
    rw [hJ (74 + 23 * k + 1) (by omega) (by omega) (by omega), hJ (74 + 23 * k + 4) (by omega) (by omega) (by omega), hJ 151 (by decide) (by decide) (by decide)]
    exact j1
/-- the class: the ways -/
theorem lck_class {s : Int32} {k o c : Nat} (hk : k ≤ 12) (ho : o < 17) (hc : c ≤ 12) (d : Nat) : zexec (d + 1) 190 62 [some (.ref 3), some (.int s), some (.int (nI k)), some (.int (nI o)), some (.int (nI c)), some (.long 0), none, some (.int (nI k))] [] (mk n m g I J) = some (some (.int 1), mk n m g (zu I 3 0 0) (zu (zu J 3 1 (lL (sm o c k (c + 1 - k)) / lL (Nat.gcd (sm o c k (c + 1 - k)) (16 ^ c)))) 3 2 (lL (16 ^ c) / lL (Nat.gcd (sm o c k (c + 1 - k)) (16 ^ c))))) := by
  have hw := wh_lt hc
  have hs := sm_le (c := c) (k := k) ho (c + 1 - k)
  have hs2 : (c + 1 - k) * 16 ^ c ≤ 13 * 16 ^ c := Nat.mul_le_mul_right _ (by omega)
  have hw0 : 16 ^ c ≠ 0 := Nat.ne_of_gt (Nat.pow_pos (by decide))
  have hp3 : ∀ (H : Nat → Nat → Int64), zcall d 233 [.int 16, .int (nI c)] (mk n m g I H) = some (some (.long (lL (16 ^ c))), mk n m g I H) := fun H => by
    have := n_power (n := n) (m := m) (g := g) (I := I) (J := H) (x := nI 16) (show c < 2 ^ 31 by omega) d
    rw [power_eq (by decide)] at this
    exact this
  have h := zloopI (fun j (a : Int64) => zexec (d + 1) 190 62 [some (.ref 3), some (.int s), some (.int (nI k)), some (.int (nI o)), some (.int (nI c)), some (.long a), none, some (.int (nI j))] [] (mk n m g I J)) (fun j a => a + lL (tt o c j)) (fun j _ => k ≤ j) (k + (c + 1 - k)) ?_ (c + 1 - k) k 0 rfl (Nat.le_refl k)
  · refine h.1.trans ?_
    rw [sm_l (o := o) (c := c) _ (c + 1 - k) (fun j a _ _ => rfl), e_X11_luck_62]
    have hgt : nI c < nI (k + (c + 1 - k)) := by
      rw [nI_ltq (by omega) (by omega)]
      omega
    simp only [e_X11_luck_64, e_X11_luck_66, e_X11_luck_107, e_X11_luck_108, e_X11_luck_110, e_X11_luck_112, e_X11_luck_114, e_X11_luck_117, e_X11_luck_120, e_X11_luck_121, e_X11_luck_124, if_pos hgt, c_3, hp3, n_tell, tell_gcd (J := J) (show sm o c k (c + 1 - k) < 2 ^ 62 by omega) hw0 (show 16 ^ c < 2 ^ 62 by omega), n_grant, zfit_b1, Option.bind_some, Option.isSome_some, Option.toList, List.cons_append, List.nil_append, zclr_i, zclr_r, zclr_n, zfit_i, zfit_l, and_self, if_true, if_false]
  · intro j a hj hkj
    refine ⟨?_, by omega⟩
    have hjc : j ≤ c := by omega
    have hch : zcall d 232 [.int (nI c), .int (nI j)] (mk n m g I J) = some (some (.long (lL (binom c j))), mk n m g I J) := by
      rw [n_choose (by omega), choose_eq c (by omega) j (by omega) hjc]
    have hp1 : zcall d 233 [.int (nI o), .int (nI j)] (mk n m g I J) = some (some (.long (lL (o ^ j))), mk n m g I J) := by
      rw [n_power (by omega), power_eq ho]
    have hp2 : zcall d 233 [.int (nI (16 - o)), .int (nI (c - j))] (mk n m g I J) = some (some (.long (lL ((16 - o) ^ (c - j)))), mk n m g I J) := by
      rw [n_power (by omega), power_eq (by omega)]
    have hgt : ¬ nI c < nI j := by
      rw [nI_ltq (by omega) (by omega)]
      omega
    rw [e_X11_luck_62]
    simp only [e_X11_luck_64, e_X11_luck_66, e_X11_luck_69, e_X11_luck_71, e_X11_luck_73, e_X11_luck_75, e_X11_luck_78, e_X11_luck_79, e_X11_luck_81, e_X11_luck_84, e_X11_luck_85, e_X11_luck_87, e_X11_luck_88, e_X11_luck_89, e_X11_luck_91, e_X11_luck_93, e_X11_luck_94, e_X11_luck_97, e_X11_luck_98, e_X11_luck_99, e_X11_luck_101, e_X11_luck_104, if_neg hgt, hch, hp1, odds_eq o ho, nI_subn hjc, hp2, lL_mul, tt, nI_1, Option.bind_some, Option.isSome_some, Option.toList, List.cons_append, List.nil_append, zclr_i, zclr_r, zclr_n, zfit_i, zfit_l, and_self, if_true, if_false]
/-- the reference: a row of chances, from its end -/
def dn (x y : Int64) : Nat → (Nat → Nat → Int64) → Nat → Nat → Int64
  | 0, a => a
  | k + 1, a => dn x y k (zu a 152 (k + 1) (a 152 (k + 1) * x + a 152 k * y))
theorem dn_far {x y : Int64} {r : Nat} (hr : r ≠ 152) : ∀ k (a : Nat → Nat → Int64), dn x y k a r = a r
  | 0, _ => rfl
  | k + 1, a => by rw [dn, dn_far hr k, zu_far _ _ _ hr]
theorem dn_at {x y : Int64} {j : Nat} : ∀ k (a : Nat → Nat → Int64), dn x y k a 152 j = if 1 ≤ j ∧ j ≤ k then a 152 j * x + a 152 (j - 1) * y else a 152 j
  | 0, a => by rw [dn, if_neg (by omega)]
  | k + 1, a => by
    rw [dn, dn_at k, zu_row, zu_row]
    by_cases h1 : j = k + 1
    · rw [if_neg (by omega), if_pos h1, if_pos (by omega), h1]
      rfl
    · by_cases h2 : 1 ≤ j ∧ j ≤ k
      · rw [if_pos h2, if_neg h1, if_neg (by omega), if_pos (by omega)]
      · rw [if_neg h2, if_neg h1, if_neg (by omega)]
theorem lck_inner {s x2 x4 x7 : Int32} {al : Int64} {o : Nat} (ho : o < 17) (d : Nat) : ∀ k (J : Nat → Nat → Int64), k ≤ 12 → zexec (d + 1) 366 114 [some (.ref 143), some (.int s), some (.int x2), some (.int (nI o)), some (.int x4), some (.long al), none, some (.int x7), some (.int (nI k)), none] [] (mk n m g I J) = zexec (d + 1) 366 158 [some (.ref 143), some (.int s), some (.int x2), some (.int (nI o)), some (.int x4), some (.long al), none, some (.int x7), some (.int (nI 0)), none] [] (mk n m g I (dn (lL (16 - o)) (lL o) k J))
  | 0, J, _ => by
    rw [e_X12_luck_114]
    simp only [e_X12_luck_116, show (nI 0 ≤ 0) = True by decide, dn, Option.bind_some, Option.isSome_some, Option.toList, List.cons_append, List.nil_append, zclr_i, zclr_r, zclr_n, zfit_i, zfit_l, and_self, if_true, if_false]
  | k + 1, J, hk => by
    have hi := lck_inner (s := s) (x2 := x2) (x4 := x4) (x7 := x7) (al := al) ho d k (zu J 152 (k + 1) (J 152 (k + 1) * lL (16 - o) + J 152 k * lL o)) (by omega)
    have hgt : ¬ nI (k + 1) ≤ 0 := nI_ge (a := 0) (by omega) (by omega)
    rw [e_X12_luck_114, dn, ← hi]
    simp only [e_X12_luck_116, e_X12_luck_119, e_X12_luck_120, e_X12_luck_123, e_X12_luck_125, e_X12_luck_126, e_X12_luck_129, e_X12_luck_131, e_X12_luck_132, e_X12_luck_134, e_X12_luck_135, e_X12_luck_136, e_X12_luck_137, e_X12_luck_138, e_X12_luck_139, e_X12_luck_142, e_X12_luck_144, e_X12_luck_145, e_X12_luck_146, e_X12_luck_147, e_X12_luck_148, e_X12_luck_149, e_X12_luck_150, e_X12_luck_151, e_X12_luck_152, e_X12_luck_155, if_neg hgt, g_143_27, odds_eq o ho, odds_l (16 - o) (by omega), odds_l o ho, nI_neg (show k + 1 < 2 ^ 31 by omega), nI_clamp (show k + 1 < 2 ^ 31 by omega), nI_sub1 (show 1 ≤ k + 1 by omega), nI_subm (show 1 ≤ k + 1 by omega), Nat.add_sub_cancel, nI_neg (show k < 2 ^ 31 by omega), nI_clamp (show k < 2 ^ 31 by omega), k_152 (show k + 1 < 13 by omega), k_152 (show k < 13 by omega), q_152, Option.bind_some, Option.isSome_some, Option.toList, List.cons_append, List.nil_append, zclr_i, zclr_r, zclr_n, zfit_i, zfit_l, and_self, if_true, if_false]
theorem lck_outer {s x2 : Int32} {o c : Nat} (ho : o < 17) (hc : c ≤ 12) (d : Nat) : ∀ f i (y8 : Option Int32) (J : Nat → Nat → Int64), i + f = c → (∀ j, j < 13 → J 152 j = lL (tt o i j)) → ∃ J' y8', zexec (d + 1) 366 103 [some (.ref 143), some (.int s), some (.int x2), some (.int (nI o)), some (.int (nI c)), some (.long (lL (16 ^ i))), none, some (.int (nI i)), y8.map Value.int, none] [] (mk n m g I J) = zexec (d + 1) 366 186 [some (.ref 143), some (.int s), some (.int x2), some (.int (nI o)), some (.int (nI c)), some (.long (lL (16 ^ c))), none, some (.int (nI c)), Option.map Value.int y8', none] [] (mk n m g I J') ∧ (∀ j, j < 13 → J' 152 j = lL (tt o c j)) ∧ ∀ r, r ≠ 152 → J' r = J r
  | 0, i, y8, J, hi, hJ => by
    have : i = c := by omega
    subst this
    refine ⟨J, y8, ?_, hJ, fun _ _ => rfl⟩
    rw [e_X12_luck_103]
    simp only [e_X12_luck_105, e_X12_luck_107, if_pos (nI_le (Nat.le_refl i) (by omega : i < 2 ^ 31)), Option.bind_some, Option.isSome_some, Option.toList, List.cons_append, List.nil_append, zclr_i, zclr_r, zclr_n, zfit_i, zfit_l, and_self, if_true, if_false]
  | f + 1, i, y8, J, hi, hJ => by
    obtain ⟨J', y8', e1, e2, e3⟩ := lck_outer (s := s) (x2 := x2) ho hc d f (i + 1) (some (nI 0)) (zu (dn (lL (16 - o)) (lL o) 12 J) 152 0 (dn (lL (16 - o)) (lL o) 12 J 152 0 * lL (16 - o))) (by omega) (fun j hj => by
      rw [zu_row]
      by_cases h0 : j = 0
      · rw [if_pos h0, h0, dn_at, if_neg (by omega), hJ 0 (by decide), lL_mul, tt_0]
      · obtain ⟨j, rfl⟩ : ∃ j', j = j' + 1 := ⟨j - 1, by omega⟩
        rw [if_neg h0, dn_at, if_pos (by omega), hJ _ hj, Nat.add_sub_cancel, hJ j (by omega), lL_mul, lL_mul, lL_add, tt_1])
    refine ⟨J', y8', ?_, e2, fun r hr => by rw [e3 r hr, zu_far _ _ _ hr, dn_far hr]⟩
    have hin := lck_inner (n := n) (m := m) (g := g) (I := I) (s := s) (x2 := x2) (x4 := nI c) (x7 := nI i) (al := lL (16 ^ i)) ho d 12 J (by decide)
    have h16 : lL (16 ^ i) * 16 = lL (16 ^ (i + 1)) := by
      rw [show (16 : Int64) = lL 16 from rfl, lL_mul, Nat.pow_succ]
    rw [← e1, e_X12_luck_103]
    simp only [e_X12_luck_105, e_X12_luck_107, e_X12_luck_110, e_X12_luck_112, if_neg (nI_ge (show i < c by omega) (by omega : c < 2 ^ 31)), zclr_map, Option.bind_some, Option.isSome_some, Option.toList, List.cons_append, List.nil_append, zclr_i, zclr_r, zclr_n, zfit_i, zfit_l, and_self, if_true, if_false]
    refine (show _ from hin).trans ?_
    simp only [e_X12_luck_158, e_X12_luck_159, e_X12_luck_162, e_X12_luck_163, e_X12_luck_164, e_X12_luck_165, e_X12_luck_167, e_X12_luck_168, e_X12_luck_169, e_X12_luck_170, e_X12_luck_171, e_X12_luck_172, e_X12_luck_174, e_X12_luck_177, e_X12_luck_178, e_X12_luck_180, e_X12_luck_183, g_143_27, odds_eq o ho, odds_l (16 - o) (by omega), show ((0 : Int32) < 0) = False by decide, show Int32.toNatClampNeg 0 = 0 from rfl, k_152 (show 0 < 13 by decide), q_152, h16, nI_1, Option.bind_some, Option.isSome_some, Option.toList, List.cons_append, List.nil_append, zclr_i, zclr_r, zclr_n, zfit_i, zfit_l, and_self, if_true, if_false]
    rfl
theorem lck_init {s x2 x4 : Int32} {o : Nat} (d : Nat) : ∃ J', zexec (d + 1) 366 70 [some (.ref 143), some (.int s), some (.int x2), some (.int (nI o)), some (.int x4), some (.long 1), none, some (.int (nI 0)), none, none] [] (mk n m g I J) = zexec (d + 1) 366 100 [some (.ref 143), some (.int s), some (.int x2), some (.int (nI o)), some (.int x4), some (.long 1), none, some (.int (nI 13)), none, none] [] (mk n m g I J') ∧ (∀ j, j < 13 → J' 152 j = lL (tt o 0 j)) ∧ ∀ r, r ≠ 152 → J' r = J r := by
  have h := zloopI (fun j (a : Nat → Nat → Int64) => zexec (d + 1) 366 70 [some (.ref 143), some (.int s), some (.int x2), some (.int (nI o)), some (.int x4), some (.long 1), none, some (.int (nI j)), none, none] [] (mk n m g I a)) (fun j a => zu a 152 j (lL (tt o 0 j))) (fun p a => (∀ j, j < p → a 152 j = lL (tt o 0 j)) ∧ ∀ r, r ≠ 152 → a r = J r) 13 ?_ 13 0 J rfl ⟨fun j hj => absurd hj (by omega), fun _ _ => rfl⟩
  · refine ⟨_, h.1.trans ?_, h.2.1, h.2.2⟩
    rw [e_X12_luck_70]
    simp only [e_X12_luck_72, e_X12_luck_74, if_pos (show (12 : Int32) < nI 13 by decide), Option.bind_some, Option.isSome_some, Option.toList, List.cons_append, List.nil_append, zclr_i, zclr_r, zclr_n, zfit_i, zfit_l, and_self, if_true, if_false]
  · intro p a hp ⟨h1, h2⟩
    refine ⟨?_, fun j hj => ?_, fun r hr => by rw [zu_far _ _ _ hr]; exact h2 r hr⟩
    · have hgt : ¬ (12 : Int32) < nI p := Int32.not_lt.mpr (nI_le (b := 12) (by omega) (by decide))
      rw [e_X12_luck_70]
      by_cases h0 : p = 0
      · subst h0
        have : lL (tt o 0 0) = 1 := by
          unfold tt
          rw [Nat.sub_zero, Nat.pow_zero, Nat.pow_zero]
          rfl
        rw [this]
        simp only [e_X12_luck_72, e_X12_luck_74, e_X12_luck_77, e_X12_luck_78, e_X12_luck_81, e_X12_luck_83, e_X12_luck_85, e_X12_luck_88, e_X12_luck_89, e_X12_luck_92, e_X12_luck_93, e_X12_luck_94, e_X12_luck_97, if_neg hgt, g_143_27, show (nI 0 = 0) = True by decide, ne_eq, not_true, nI_neg (show 0 < 2 ^ 31 by decide), nI_clamp (show 0 < 2 ^ 31 by decide), k_152 (show 0 < 13 by decide), q_152, nI_1, Option.bind_some, Option.isSome_some, Option.toList, List.cons_append, List.nil_append, zclr_i, zclr_r, zclr_n, zfit_i, zfit_l, and_self, if_true, if_false]
      · have hne : ¬ nI p = 0 := fun h => h0 (nI_inj (by omega) (by decide) h)
        have : lL (tt o 0 p) = 0 := by
          rw [tt_out (by omega)]
          rfl
        rw [this]
        simp only [e_X12_luck_72, e_X12_luck_74, e_X12_luck_77, e_X12_luck_78, e_X12_luck_81, e_X12_luck_83, e_X12_luck_85, e_X12_luck_88, e_X12_luck_89, e_X12_luck_92, e_X12_luck_93, e_X12_luck_94, e_X12_luck_97, if_neg hgt, g_143_27, hne, ne_eq, not_false_eq_true, nI_neg (show p < 2 ^ 31 by omega), nI_clamp (show p < 2 ^ 31 by omega), k_152 hp, q_152, nI_1, Option.bind_some, Option.isSome_some, Option.toList, List.cons_append, List.nil_append, zclr_i, zclr_r, zclr_n, zfit_i, zfit_l, and_self, if_true, if_false]
    · rw [zu_row]
      by_cases e : j = p
      · rw [if_pos e, e]
      · rw [if_neg e]
        exact h1 j (by omega)
theorem lck_sum {s x4 : Int32} {y8 : Option Int32} {o k c : Nat} {al : Int64} (hk : k ≤ 12) (hJ : ∀ j, j < 13 → J 152 j = lL (tt o c j)) (d : Nat) : ∃ y, zexec (d + 1) 366 186 [some (.ref 143), some (.int s), some (.int (nI k)), some (.int (nI o)), some (.int x4), some (.long al), none, some (.int (nI c)), y8.map Value.int, none] [] (mk n m g I J) = zexec (d + 1) 366 217 [some (.ref 143), some (.int s), some (.int (nI k)), some (.int (nI o)), some (.int x4), some (.long al), none, some (.long (lL (sm o c k (13 - k)))), none, some (.int y)] [] (mk n m g I J) := by
  have h := zloop (fun j (a : Int64) => zexec (d + 1) 366 192 [some (.ref 143), some (.int s), some (.int (nI k)), some (.int (nI o)), some (.int x4), some (.long al), none, some (.long a), none, some (.int (nI j))] [] (mk n m g I J)) (fun j a => a + J 152 j) 13 ?_ (13 - k) k 0 (by omega)
  · rw [sm_l (o := o) (c := c) _ (13 - k) (fun j a _ h2 => by rw [hJ j (by omega)])] at h
    refine ⟨nI 13, ?_⟩
    simp only [e_X12_luck_186, e_X12_luck_187, e_X12_luck_189, e_X12_luck_190, Option.bind_some, Option.isSome_some, Option.toList, List.cons_append, List.nil_append, zclr_i, zclr_r, zclr_n, zfit_i, zfit_l, and_self, if_true, if_false]
    refine (show _ from h).trans ?_
    rw [e_X12_luck_192]
    simp only [e_X12_luck_194, e_X12_luck_196, if_pos (show (12 : Int32) < nI 13 by decide), Option.bind_some, Option.isSome_some, Option.toList, List.cons_append, List.nil_append, zclr_i, zclr_r, zclr_n, zfit_i, zfit_l, and_self, if_true, if_false]
  · intro p a hp
    have hgt : ¬ (12 : Int32) < nI p := Int32.not_lt.mpr (nI_le (b := 12) (by omega) (by decide))
    rw [e_X12_luck_192]
    simp only [e_X12_luck_194, e_X12_luck_196, e_X12_luck_199, e_X12_luck_201, e_X12_luck_202, e_X12_luck_205, e_X12_luck_207, e_X12_luck_208, e_X12_luck_209, e_X12_luck_211, e_X12_luck_214, if_neg hgt, g_143_27, nI_neg (show p < 2 ^ 31 by omega), nI_clamp (show p < 2 ^ 31 by omega), k_152 hp, nI_1, Option.bind_some, Option.isSome_some, Option.toList, List.cons_append, List.nil_append, zclr_i, zclr_r, zclr_n, zfit_i, zfit_l, and_self, if_true, if_false]
theorem q_luck {x k o : Int32} (h : Inv I J N S) (d : Nat) : Eqv (d + 30) 190 366 [.int x, .int k, .int o] n m g I J := by
  have hW := h.W
  have h12 := hW.h12
  have h6 := hW.h6
  rcases p_cases x S with ⟨s, hs, rfl⟩ | hx
  · by_cases hk : 0 ≤ k ∧ k ≤ 12
    · by_cases ho : 0 ≤ o ∧ o ≤ 16
      · obtain ⟨k, _, hk9, rfl⟩ := range_nI (lo := 0) (hi := 12) (by decide) (by decide) hk
        obtain ⟨o, _, ho9, rfl⟩ := range_nI (lo := 0) (hi := 16) (by decide) (by decide) ho
        obtain ⟨c, hc, ec⟩ : ∃ c, c ≤ 12 ∧ c = cnt (fun p => decide (p < N) && decide (I (16 + 7) p = nI s ∧ I (16 + 6) p = -1)) 12 := ⟨_, by
          have := cnt_le (fun p => decide (p < N) && decide (I (16 + 7) p = nI s ∧ I (16 + 6) p = -1)) 12 0 0
          rw [Nat.zero_add] at this
          exact this, rfl⟩
        have hbc : jbc (sBear I 16 (nI s) N) = nI c := by rw [isS_jbc (isS_bear h12), ← ec]
        have hsz : ∀ H, zcall (d + 29) 252 [.int (sBear I 16 (nI s) N)] H = some (some (.int (nI c)), H) := fun H => by
          rw [v_sizeOf (isS_bear h12) (d + 28) H, ← ec]
        have hcl := lck_class (n := n) (m := m) (g := g) (I := I) (J := J) (s := nI s) (k := k) (o := o) (c := c) hk9 (by omega) hc (d + 29)
        obtain ⟨J1, J1e⟩ : ∃ J1, J1 = zu (zu J 3 1 (lL (sm o c k (c + 1 - k)) / lL (Nat.gcd (sm o c k (c + 1 - k)) (16 ^ c)))) 3 2 (lL (16 ^ c) / lL (Nat.gcd (sm o c k (c + 1 - k)) (16 ^ c))) := ⟨_, rfl⟩
        rw [← J1e] at hcl
        obtain ⟨J2, a1, a2, a3⟩ := lck_init (n := n) (m := m) (g := g) (I := (zu (zu (zu I 3 0 0) 143 1 0) 143 0 0)) (J := J1) (s := nI s) (x2 := nI k) (x4 := nI c) (o := o) (d + 29)
        obtain ⟨J3, y8, b1, b2, b3⟩ := lck_outer (n := n) (m := m) (g := g) (I := (zu (zu (zu I 3 0 0) 143 1 0) 143 0 0)) (s := nI s) (x2 := nI k) (o := o) (c := c) (by omega) hc (d + 29) c 0 none J2 (by omega) a2
        obtain ⟨y, c1⟩ := lck_sum (n := n) (m := m) (g := g) (I := (zu (zu (zu I 3 0 0) 143 1 0) 143 0 0)) (s := nI s) (x4 := nI c) (y8 := y8) (al := lL (16 ^ c)) hk9 b2 (d + 29)
        have hw := wh_lt hc
        have hs1 := sm_le (c := c) (k := k) (show o < 17 by omega) (c + 1 - k)
        have hs2 : (c + 1 - k) * 16 ^ c ≤ 13 * 16 ^ c := Nat.mul_le_mul_right _ (by omega)
        have hfr := v_fraction (n := n) (m := m) (g := g) (I := (zu (zu (zu I 3 0 0) 143 1 0) 143 0 0)) (J := J3) (show sm o c k (c + 1 - k) < 2 ^ 62 by omega) (show 16 ^ c ≠ 0 from Nat.ne_of_gt (Nat.pow_pos (by decide))) (show 16 ^ c < 2 ^ 62 by omega) (d + 28)
        have hR1 : RT I 16 ((zu (zu (zu I 3 0 0) 143 1 0) 143 0 0) 148) N S := h.R
        have hbe := v_bearers (n := n) (m := m) (g := g) (J := J1) (s := nI s) hW hR1 (d + 28)
        refine ⟨.int 1, zu I 3 0 0, J1, st 0 I, zu (zu J3 143 2 (lL (sm o c k (c + 1 - k)) / lL (Nat.gcd (sm o c k (c + 1 - k)) (16 ^ c)))) 143 3 (lL (16 ^ c) / lL (Nat.gcd (sm o c k (c + 1 - k)) (16 ^ c))), N, S, ?_, ?_, (h.stI (w := 0)).frac (fun a n3 n143 n152 => ?_) ?_⟩
        · rw [m_X11_luck]
          have k1 : ¬ nI k < 0 := nI_pos (by omega)
          have k2 : ¬ (12 : Int32) < nI k := Int32.not_lt.mpr hk.2
          have k3 : ¬ nI o < 0 := nI_pos (by omega)
          simp only [e_X11_luck_0, e_X11_luck_1, e_X11_luck_4, e_X11_luck_5, e_X11_luck_8, e_X11_luck_11, e_X11_luck_12, e_X11_luck_13, e_X11_luck_16, e_X11_luck_17, e_X11_luck_18, e_X11_luck_21, e_X11_luck_22, e_X11_luck_24, e_X11_luck_27, e_X11_luck_28, e_X11_luck_31, e_X11_luck_32, e_X11_luck_34, e_X11_luck_37, e_X11_luck_38, e_X11_luck_39, e_X11_luck_42, e_X11_luck_43, e_X11_luck_44, e_X11_luck_47, e_X11_luck_48, e_X11_luck_51, e_X11_luck_54, e_X11_luck_56, e_X11_luck_57, e_X11_luck_59, e_X11_luck_60, c_3, c_T0 t16, g_3_7, t_hasS_yes t16 hW.hS h6 hs, show ((1 : Int32) = 0) = False by decide, ne_eq, not_false_eq_true, if_neg k1, if_neg k2, if_neg k3, if_pos ho.2, t_bearers t16 hW.hN h12, show sSet (fun p => decide (I (16 + 7) p = nI s ∧ I (16 + 6) p = -1)) N = sBear I 16 (nI s) N from rfl, j_bitCount, hbc, Option.bind_some, Option.isSome_some, Option.toList, List.cons_append, List.nil_append, zclr_i, zclr_r, zclr_n, zfit_i, zfit_l, and_self, if_true, if_false]
          exact hcl
        · rw [m_X12_luck]
          simp only [e_X12_luck_0, e_X12_luck_1, e_X12_luck_2, e_X12_luck_5, e_X12_luck_6, e_X12_luck_7, e_X12_luck_10, e_X12_luck_11, e_X12_luck_12, e_X12_luck_15, e_X12_luck_18, e_X12_luck_19, e_X12_luck_20, e_X12_luck_23, e_X12_luck_24, e_X12_luck_25, e_X12_luck_26, e_X12_luck_27, e_X12_luck_30, e_X12_luck_33, e_X12_luck_36, e_X12_luck_37, e_X12_luck_38, e_X12_luck_39, e_X12_luck_42, e_X12_luck_45, e_X12_luck_48, e_X12_luck_49, e_X12_luck_50, e_X12_luck_53, e_X12_luck_54, e_X12_luck_55, e_X12_luck_56, e_X12_luck_59, e_X12_luck_62, e_X12_luck_64, e_X12_luck_65, e_X12_luck_67, e_X12_luck_68, c_143, g_143_0, g_143_1, p_143_0, p_143_1, v_isS_yes hW hR1 hs, show ((1 : Int32) = 0) = False by decide, ne_eq, not_false_eq_true, v_isIn (nI k) 0 12 0 12 rfl rfl, v_isIn (nI o) 0 16 0 16 rfl rfl, hk, ho, decide_true, bI, hbe, hsz, Option.bind_some, Option.isSome_some, Option.toList, List.cons_append, List.nil_append, zclr_i, zclr_r, zclr_n, zfit_i, zfit_l, and_self, if_true, if_false]
          refine (show _ from a1).trans ?_
          simp only [e_X12_luck_100, e_X12_luck_101, Option.bind_some, Option.isSome_some, Option.toList, List.cons_append, List.nil_append, zclr_i, zclr_r, zclr_n, zfit_i, zfit_l, and_self, if_true, if_false]
          refine (show _ from b1).trans (c1.trans ?_)
          rw [sm_eq hc hk9]
          simp only [e_X12_luck_217, e_X12_luck_218, e_X12_luck_220, e_X12_luck_222, e_X12_luck_225, c_143, hfr, zfit_b1, Option.bind_some, Option.isSome_some, Option.toList, List.cons_append, List.nil_append, zclr_i, zclr_r, zclr_n, zfit_i, zfit_l, and_self, if_true, if_false]
          rfl
        · rw [zu_far _ _ _ n143, zu_far _ _ _ n143, b3 a n152, a3 a n152, J1e, zu_far _ _ _ n3, zu_far _ _ _ n3]
        · have e3 : J3 3 = J1 3 := by rw [b3 3 (by decide), a3 3 (by decide)]
          rw [zu_far _ _ _ (by decide), zu_far _ _ _ (by decide), e3, J1e]
          simp [zu_row]
      · refine ⟨.int 0, zu I 3 0 5, J, st 5 I, J, N, S, ?_, ?_, h.stI⟩
        · rw [m_X11_luck]
          simp only [e_X11_luck_0, e_X11_luck_1, e_X11_luck_4, e_X11_luck_5, e_X11_luck_8, e_X11_luck_11, e_X11_luck_12, e_X11_luck_13, e_X11_luck_16, e_X11_luck_17, e_X11_luck_18, e_X11_luck_21, e_X11_luck_22, e_X11_luck_24, e_X11_luck_27, e_X11_luck_28, e_X11_luck_31, e_X11_luck_32, e_X11_luck_34, e_X11_luck_37, e_X11_luck_38, e_X11_luck_39, e_X11_luck_42, c_3, c_T0 t16, g_3_7, t_hasS_yes t16 hW.hS h6 hs, show ((1 : Int32) = 0) = False by decide, ne_eq, not_false_eq_true, n_deny, zfit_b0, Option.bind_some, Option.isSome_some, Option.toList, List.cons_append, List.nil_append, zclr_i, zclr_r, zclr_n, zfit_i, zfit_l, and_self, if_true, if_false]
          by_cases c1 : k < 0
          · simp [c1]
          · by_cases c2 : 12 < k
            · simp [c1, c2]
            · by_cases c3 : o < 0
              · simp [c1, c2, c3]
              · have c4 : ¬ o ≤ 16 := fun h => ho ⟨Int32.not_lt.mp c3, h⟩
                simp [c1, c2, c3, c4]
        · have hR1 : RT I 16 ((zu (zu (zu I 3 0 5) 143 1 0) 143 0 0) 148) N S := h.R
          rw [m_X12_luck]
          simp only [e_X12_luck_0, e_X12_luck_1, e_X12_luck_2, e_X12_luck_5, e_X12_luck_6, e_X12_luck_7, e_X12_luck_10, e_X12_luck_11, e_X12_luck_12, e_X12_luck_15, e_X12_luck_18, e_X12_luck_19, e_X12_luck_20, e_X12_luck_23, e_X12_luck_24, e_X12_luck_25, e_X12_luck_26, e_X12_luck_27, e_X12_luck_30, e_X12_luck_33, e_X12_luck_36, e_X12_luck_37, e_X12_luck_38, e_X12_luck_39, e_X12_luck_42, e_X12_luck_45, e_X12_luck_48, e_X12_luck_49, e_X12_luck_50, e_X12_luck_53, c_143, g_143_0, g_143_1, p_143_0, p_143_1, v_isS_yes hW hR1 hs, show ((1 : Int32) = 0) = False by decide, ne_eq, not_false_eq_true, v_isIn k 0 12 0 12 rfl rfl, v_isIn o 0 16 0 16 rfl rfl, hk, ho, decide_true, decide_false, bI, v_no, st_eq, zfit_b0, Option.bind_some, Option.isSome_some, Option.toList, List.cons_append, List.nil_append, zclr_i, zclr_r, zclr_n, zfit_i, zfit_l, and_self, if_true, if_false] <;> first | rfl | simp
    · refine ⟨.int 0, zu I 3 0 5, J, st 5 I, J, N, S, ?_, ?_, h.stI⟩
      · rw [m_X11_luck]
        simp only [e_X11_luck_0, e_X11_luck_1, e_X11_luck_4, e_X11_luck_5, e_X11_luck_8, e_X11_luck_11, e_X11_luck_12, e_X11_luck_13, e_X11_luck_16, e_X11_luck_17, e_X11_luck_18, e_X11_luck_21, e_X11_luck_22, e_X11_luck_24, e_X11_luck_27, e_X11_luck_28, e_X11_luck_31, e_X11_luck_32, e_X11_luck_34, e_X11_luck_37, e_X11_luck_38, e_X11_luck_39, e_X11_luck_42, c_3, c_T0 t16, g_3_7, t_hasS_yes t16 hW.hS h6 hs, show ((1 : Int32) = 0) = False by decide, ne_eq, not_false_eq_true, n_deny, zfit_b0, Option.bind_some, Option.isSome_some, Option.toList, List.cons_append, List.nil_append, zclr_i, zclr_r, zclr_n, zfit_i, zfit_l, and_self, if_true, if_false]
        by_cases c1 : k < 0
        · simp [c1]
        · have c2 : 12 < k := Int32.not_le.mp (fun h => hk ⟨Int32.not_lt.mp c1, h⟩)
          simp [c1, c2]
      · have hR1 : RT I 16 ((zu (zu (zu I 3 0 5) 143 1 0) 143 0 0) 148) N S := h.R
        rw [m_X12_luck]
        simp only [e_X12_luck_0, e_X12_luck_1, e_X12_luck_2, e_X12_luck_5, e_X12_luck_6, e_X12_luck_7, e_X12_luck_10, e_X12_luck_11, e_X12_luck_12, e_X12_luck_15, e_X12_luck_18, e_X12_luck_19, e_X12_luck_20, e_X12_luck_23, e_X12_luck_24, e_X12_luck_25, e_X12_luck_26, e_X12_luck_27, e_X12_luck_30, e_X12_luck_33, e_X12_luck_36, e_X12_luck_37, e_X12_luck_38, e_X12_luck_39, e_X12_luck_42, e_X12_luck_45, e_X12_luck_48, e_X12_luck_49, e_X12_luck_50, e_X12_luck_53, c_143, g_143_0, g_143_1, p_143_0, p_143_1, v_isS_yes hW hR1 hs, show ((1 : Int32) = 0) = False by decide, ne_eq, not_false_eq_true, v_isIn k 0 12 0 12 rfl rfl, hk, decide_false, bI, v_no, st_eq, zfit_b0, Option.bind_some, Option.isSome_some, Option.toList, List.cons_append, List.nil_append, zclr_i, zclr_r, zclr_n, zfit_i, zfit_l, and_self, if_true, if_false] <;> first | rfl | simp
  · refine ⟨.int 0, zu I 3 0 2, J, st 2 I, J, N, S, ?_, ?_, h.stI⟩
    · rw [m_X11_luck]
      simp only [e_X11_luck_0, e_X11_luck_1, e_X11_luck_4, e_X11_luck_5, e_X11_luck_8, e_X11_luck_11, e_X11_luck_12, e_X11_luck_13, e_X11_luck_16, c_3, c_T0 t16, g_3_7, t_hasS_no t16 hW.hS h6 hx, n_deny, zfit_b0, Option.bind_some, Option.isSome_some, Option.toList, List.cons_append, List.nil_append, zclr_i, zclr_r, zclr_n, zfit_i, zfit_l, and_self, if_true, if_false] <;> first | rfl | simp
    · have hR1 : RT I 16 ((zu (zu (zu I 3 0 2) 143 1 0) 143 0 0) 148) N S := h.R
      rw [m_X12_luck]
      simp only [e_X12_luck_0, e_X12_luck_1, e_X12_luck_2, e_X12_luck_5, e_X12_luck_6, e_X12_luck_7, e_X12_luck_10, e_X12_luck_11, e_X12_luck_12, e_X12_luck_15, e_X12_luck_18, e_X12_luck_19, e_X12_luck_20, e_X12_luck_23, c_143, g_143_0, g_143_1, p_143_0, p_143_1, v_isS_no hW hR1 hx, v_no, st_eq, zfit_b0, Option.bind_some, Option.isSome_some, Option.toList, List.cons_append, List.nil_append, zclr_i, zclr_r, zclr_n, zfit_i, zfit_l, and_self, if_true, if_false] <;> first | rfl | simp
end LM
