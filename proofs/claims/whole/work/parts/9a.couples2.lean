/-! THE REFERENCE: the most couples -/
section MD
variable {n m : Nat} {g : Nat → zC} {I X A : Nat → Nat → Int32} {J : Nat → Nat → Int64} {N S U b : Nat}
/-- can two be a couple of whom one bears s (or any, for -1)? -/
def cn (A : Nat → Nat → Int32) (b N : Nat) (s : Int32) (p q : Nat) : Bool := decide (p < N) && decide (q < N) && (decide (s = -1) || decide (A (b + 7) p = s) || decide (A (b + 7) q = s)) && tMarry A b p q 0 N
theorem kNear_sym {p q : Nat} : kNear A b p q = kNear A b q p := by
  unfold kNear
  apply Bool.eq_iff_iff.mpr
  rw [decide_eq_true_eq, decide_eq_true_eq, Int32.and_comm (kPar A b p) (kPar A b q)]
  constructor
  · rintro (h | h | h)
    · exact Or.inl h
    · exact Or.inr (Or.inr h)
    · exact Or.inr (Or.inl h)
  · rintro (h | h | h)
    · exact Or.inl h
    · exact Or.inr (Or.inr h)
    · exact Or.inr (Or.inl h)
theorem tMarry_sym {p q : Nat} : tMarry A b p q 0 N = tMarry A b q p 0 N := by
  unfold tMarry tBear
  rw [kNear_sym]
  by_cases e : p = q
  · simp [e]
  · have e2 : ¬ q = p := fun h => e h.symm
    cases tGrown A b p <;> cases tGrown A b q <;> by_cases h1 : A (b + 9) p = -1 <;> by_cases h2 : A (b + 9) q = -1 <;> simp [e, e2, h1, h2]
theorem cn_sym {s : Int32} {p q : Nat} (h : cn A b N s p q = true) : cn A b N s q p = true := by
  unfold cn at *
  rw [tMarry_sym]
  simp only [Bool.and_eq_true, Bool.or_eq_true, decide_eq_true_eq] at *
  obtain ⟨⟨⟨h1, h2⟩, h3⟩, h4⟩ := h
  refine ⟨⟨⟨h2, h1⟩, ?_⟩, h4⟩
  rcases h3 with (h3 | h3) | h3
  · exact Or.inl (Or.inl h3)
  · exact Or.inr h3
  · exact Or.inl (Or.inr h3)
theorem isS_nI {r : Nat} (h : r < 4096) : isS (nI r) r.testBit := ⟨r, h, rfl, fun _ => rfl⟩
theorem rm_nI {r a : Nat} (hr : r < 4096) (ha : a < 12) : nI r &&& (bt a ^^^ -1) = nI (rm r a) := by
  rw [bt_nI ha, nI_andNot hr (bt_lt ha)]
  rfl
theorem vc_search {s : Int32} {r : Nat} {e : Int32} {y5 y6 y7 : Option Int32} (hr : r < 4096) (d : Nat) : ∀ f a, a + f = 12 → zexec (d + 1) 368 28 [some (.ref 143), some (.int s), some (.int e), some (.int (nI r)), some (.int (nI a)), y5.map Value.int, y6.map Value.int, y7.map Value.int] [] (mk n m g I J) = zexec (d + 1) 368 50 [some (.ref 143), some (.int s), some (.int e), some (.int (nI r)), some (.int (nI ((zfind r.testBit some none a f).getD 12))), y5.map Value.int, y6.map Value.int, y7.map Value.int] [] (mk n m g I J) := by
  intro f
  induction f with
  | zero =>
    intro a ha
    have : a = 12 := by omega
    subst this
    rw [e_X12_mostCouples_28]
    simp only [e_X12_mostCouples_30, e_X12_mostCouples_32, if_pos (show (12 : Int32) ≤ nI 12 by decide), Option.bind_some, Option.isSome_some, Option.toList, List.cons_append, List.nil_append, zclr_i, zclr_r, zclr_n, zfit_i, zfit_l, and_self, if_true, if_false]
    rfl
  | succ f ih =>
    intro a ha
    rw [zfind, e_X12_mostCouples_28]
    simp only [e_X12_mostCouples_30, e_X12_mostCouples_32, e_X12_mostCouples_35, e_X12_mostCouples_36, e_X12_mostCouples_38, e_X12_mostCouples_41, e_X12_mostCouples_44, e_X12_mostCouples_47, if_neg (show ¬ (12 : Int32) ≤ nI a from nI_ge (b := 12) (by omega) (by decide)), v_hasS (isS_nI hr) (show a < 12 by omega), nI_1, zclr_map, Option.bind_some, Option.isSome_some, Option.toList, List.cons_append, List.nil_append, zclr_i, zclr_r, zclr_n, zfit_i, zfit_l, and_self, if_true, if_false]
    cases hb : r.testBit a
    · simp only [bI, Bool.false_eq_true, if_false, ne_eq, not_true, if_true]
      exact ih (a + 1) (by omega)
    · simp [bI]
theorem fu_fu {α : Type} (c : Nat → α) (k : Nat) (x y : α) : fu (fu c k x) k y = fu c k y := by
  funext j
  unfold fu
  by_cases h : j = k <;> simp [h]
theorem vc_inner {s : Int32} {r a : Nat} {e : Int32} {x : Nat → Int32} {y7 : Option Int32} (hs : s = -1 ∨ ∃ k, k < 6 ∧ s = nI k) (hW : WT A b N S U) (hR : RT A b (X 148) N S) (hr : r < 4096) (ha : a < N) (hb : r.testBit a = true) (hx : ∀ q, q < r → x q = nI (tau (cn A b N s) q)) (d : Nat) : ∃ y7' : Option Int32, zexec (d + 6) 368 89 [some (.ref 143), some (.int s), some (.int e), some (.int (nI r)), some (.int (nI a)), some (.int (nI (rm r a))), some (.int (nI (a + 1))), y7.map Value.int] [] (mk n m g (zr X 153 (fu x r (nI (tau (cn A b N s) (rm r a))))) J) = zexec (d + 6) 368 89 [some (.ref 143), some (.int s), some (.int e), some (.int (nI r)), some (.int (nI a)), some (.int (nI (rm r a))), some (.int (nI N)), y7'.map Value.int] [] (mk n m g (zr X 153 (fu x r (nI (zfor (fun q acc => if ((rm r a).testBit q && cn A b N s a q) = true then max acc (1 + tau (cn A b N s) (rm (rm r a) q)) else acc) (a + 1) (N - (a + 1)) (tau (cn A b N s) (rm r a)))))) J) := by
  have h12 := hW.h12
  have hlt := rm_lt hr (by omega) hb
  have hrm : rm r a < 4096 := by omega
  have hl := zloopR (fun q (w : Nat × Option Int32) => zexec (d + 6) 368 89 [some (.ref 143), some (.int s), some (.int e), some (.int (nI r)), some (.int (nI a)), some (.int (nI (rm r a))), some (.int (nI q)), w.2.map Value.int] [] (mk n m g (zr X 153 (fu x r (nI w.1))) J)) (fun _ (acc : Nat) w => w.1 = acc ∧ acc ≤ 13) (fun q acc => if ((rm r a).testBit q && cn A b N s a q) = true then max acc (1 + tau (cn A b N s) (rm (rm r a) q)) else acc) N ?_ (N - (a + 1)) (a + 1) (tau (cn A b N s) (rm r a)) (tau (cn A b N s) (rm r a), y7) (by omega) ⟨rfl, Nat.le_trans (tau_12 hrm) (by omega)⟩
  · obtain ⟨⟨v, y⟩, e1, e2, _⟩ := hl
    dsimp only at e1 e2
    rw [← e2]
    exact ⟨y, e1⟩
  · rintro q acc ⟨v, y⟩ hq ⟨hv, hacc⟩
    dsimp only at hv
    subst hv
    have hR1 : RT A b (zr X 153 (fu x r (nI v)) 148) N S := by rw [zr_far _ _ (by decide)]; exact hR
    have hlt2 : rm (rm r a) q < r := Nat.lt_of_le_of_lt (rm_le _ _) hlt
    have hx2 : fu x r (nI v) (rm (rm r a) q) = nI (tau (cn A b N s) (rm (rm r a) q)) := by rw [fu_ne _ _ (by omega), hx _ hlt2]
    have hx3 : fu x r (nI v) r = nI v := fu_eq _ _ _
    have t12 := tau_12 (can := cn A b N s) (r := rm (rm r a) q) (by omega)
    have hmax : (if nI v < nI (1 + tau (cn A b N s) (rm (rm r a) q)) then nI (1 + tau (cn A b N s) (rm (rm r a) q)) else nI v) = nI (max v (1 + tau (cn A b N s) (rm (rm r a) q))) := by
      have hh : (nI v < nI (1 + tau (cn A b N s) (rm (rm r a) q))) = (v < 1 + tau (cn A b N s) (rm (rm r a) q)) := nI_ltq (by omega) (by omega)
      by_cases e9 : v < 1 + tau (cn A b N s) (rm (rm r a) q)
      · rw [if_pos (by rw [hh]; exact e9), Nat.max_eq_right (by omega)]
      · rw [if_neg (by rw [hh]; exact e9), Nat.max_eq_left (by omega)]
    have hrest : nI (rm r a) &&& (1 <<< (nI q &&& 31) ^^^ -1) = nI (rm (rm r a) q) := rm_nI hrm (show q < 12 by omega)
    have a1 : (1 : Int32) + nI (tau (cn A b N s) (rm (rm r a) q)) = nI (1 + tau (cn A b N s) (rm (rm r a) q)) := nI_add 1 _
    have hs0 : (s < 0) = (s = -1) := by
      apply propext
      rcases hs with rfl | ⟨k, hk, rfl⟩
      · decide
      · simp [nI_pos (show k < 2 ^ 31 by omega), nI_m1 (show k < 2 ^ 31 by omega)]
    refine ⟨(if ((rm r a).testBit q && cn A b N s a q) = true then max v (1 + tau (cn A b N s) (rm (rm r a) q)) else v, some (if ((rm r a).testBit q && cn A b N s a q) = true then 1 else 0)), ?_, rfl, ?_⟩
    · dsimp only
      rw [e_X12_mostCouples_89]
      simp only [e_X12_mostCouples_91, e_X12_mostCouples_92, e_X12_mostCouples_95, e_X12_mostCouples_96, e_X12_mostCouples_97, e_X12_mostCouples_100, e_X12_mostCouples_102, e_X12_mostCouples_104, e_X12_mostCouples_107, e_X12_mostCouples_110, e_X12_mostCouples_111, e_X12_mostCouples_114, e_X12_mostCouples_115, e_X12_mostCouples_118, e_X12_mostCouples_120, e_X12_mostCouples_122, e_X12_mostCouples_123, e_X12_mostCouples_124, e_X12_mostCouples_125, e_X12_mostCouples_128, e_X12_mostCouples_129, e_X12_mostCouples_132, e_X12_mostCouples_134, e_X12_mostCouples_136, e_X12_mostCouples_137, e_X12_mostCouples_138, e_X12_mostCouples_139, e_X12_mostCouples_142, e_X12_mostCouples_143, e_X12_mostCouples_145, e_X12_mostCouples_147, e_X12_mostCouples_148, e_X12_mostCouples_151, e_X12_mostCouples_154, e_X12_mostCouples_155, e_X12_mostCouples_158, e_X12_mostCouples_159, e_X12_mostCouples_161, e_X12_mostCouples_163, e_X12_mostCouples_166, e_X12_mostCouples_167, e_X12_mostCouples_170, e_X12_mostCouples_171, e_X12_mostCouples_172, e_X12_mostCouples_175, e_X12_mostCouples_176, e_X12_mostCouples_177, e_X12_mostCouples_178, e_X12_mostCouples_179, e_X12_mostCouples_182, e_X12_mostCouples_184, e_X12_mostCouples_185, e_X12_mostCouples_187, e_X12_mostCouples_188, e_X12_mostCouples_189, e_X12_mostCouples_190, e_X12_mostCouples_191, e_X12_mostCouples_192, e_X12_mostCouples_193, e_X12_mostCouples_196, e_X12_mostCouples_197, e_X12_mostCouples_200, cA_6, cA_12, cA_18, cA_30, cA_42, cA_54, cA_66, cA_78, cA_90, cA_102, cA_114, cA_126, cA_138, cA_210, cA_222, lc_0, lc_1, lc_2, lc_3, lc_4, lc_5, g_143_20, q_148, nI_neg (show 30 + a < 2 ^ 31 by omega), nI_clamp (show 30 + a < 2 ^ 31 by omega), k_148 (show 30 + a < 2530 by omega), l_148 (show 30 + a < 2530 by omega), nI_neg (show 30 + q < 2 ^ 31 by omega), nI_clamp (show 30 + q < 2 ^ 31 by omega), k_148 (show 30 + q < 2530 by omega), l_148 (show 30 + q < 2530 by omega), c_143, g_143_28, hW.c1 hR1, if_neg (nI_ge hq (show N < 2 ^ 31 by omega)), v_hasS (isS_nI hrm) (show q < 12 by omega), hR1.bears a ha, hR1.bears q hq, v_canBeWed hW hR1 ha hq, hs0, hrest, nI_neg (show r < 2 ^ 31 by omega), nI_clamp (show r < 2 ^ 31 by omega), k_153 hr, l_153 hr, nI_neg (show rm (rm r a) q < 2 ^ 31 by omega), nI_clamp (show rm (rm r a) q < 2 ^ 31 by omega), l_153 (show rm (rm r a) q < 4096 by omega), q_153, zr_same, zu_zr, hx2, hx3, a1, j_max, hmax, fu_fu, nI_1, zclr_map, Option.bind_some, Option.isSome_some, Option.toList, List.cons_append, List.nil_append, zclr_i, zclr_r, zclr_n, zfit_i, zfit_l, and_self, if_true, if_false]
      cases hbit : (rm r a).testBit q
      · simp [bI]
      · have hcn : cn A b N s a q = ((decide (s = -1) || decide (A (b + 7) a = s) || decide (A (b + 7) q = s)) && tMarry A b a q 0 N) := by simp [cn, ha, hq]
        rw [hcn]
        cases hm : tMarry A b a q 0 N
        · by_cases g1 : s = -1 <;> by_cases g2 : A (b + 7) a = s <;> by_cases g3 : A (b + 7) q = s <;> simp [g1, g2, g3, bI]
        · by_cases g1 : s = -1
          · simp [g1, bI]
          · by_cases g2 : A (b + 7) a = s
            · simp [g1, g2, bI]
            · by_cases g3 : A (b + 7) q = s <;> simp [g1, g2, g3, bI]
    · split
      · omega
      · exact hacc
end MD
