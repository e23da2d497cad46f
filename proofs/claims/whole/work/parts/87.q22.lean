/-! CALLS: pour -/
section QX
variable {n m : Nat} {g : Nat → zC} {I I2 A : Nat → Nat → Int32} {J J2 : Nat → Nat → Int64} {N S : Nat}
theorem i64_sum (x y z : Int32) : (z.toInt64 < x.toInt64 + y.toInt64) = (z.toInt < x.toInt + y.toInt) := by
  apply propext
  rw [Int64.lt_iff_toInt_lt, Int64.toInt_add, Int32.toInt_toInt64, Int32.toInt_toInt64, Int32.toInt_toInt64]
  have h1 := Int32.toInt_lt x
  have h2 := Int32.le_toInt x
  have h3 := Int32.toInt_lt y
  have h4 := Int32.le_toInt y
  simp only [Int.bmod]
  omega
theorem row_iff {f : Int32} {K L : Nat} (hK : K < 2 ^ 31) (hL : L ≤ 60) : (0 ≤ f ∧ nI K ≤ nI L ∧ f ≤ nI L - nI K) ↔ ∃ a, a + K ≤ L ∧ f = nI a := by
  rw [nI_leq hK (by omega)]
  constructor
  · rintro ⟨h1, h2, h3⟩
    rw [nI_subn h2] at h3
    obtain ⟨a, _, ha, e⟩ := range_nI (x := f) (lo := 0) (hi := L - K) (by decide) (by omega) ⟨h1, h3⟩
    exact ⟨a, by omega, e⟩
  · rintro ⟨a, ha, rfl⟩
    refine ⟨Int32.not_lt.mp (nI_pos (by omega)), by omega, ?_⟩
    rw [nI_subn (by omega), nI_leq (by omega) (by omega)]
    omega
theorem row_not {f : Int32} {K L : Nat} (hK : K < 2 ^ 31) (hL : L ≤ 60) (h : ¬ ∃ a, a + K ≤ L ∧ f = nI a) : f < 0 ∨ (nI L).toInt < f.toInt + (nI K).toInt := by
  by_cases h1 : f < 0
  · exact Or.inl h1
  · refine Or.inr (Classical.byContradiction (fun h2 => h ?_))
    rw [nI_toInt (by omega), nI_toInt hK] at h2
    have h3 : (0 : Int) ≤ f.toInt := Int32.le_iff_toInt_le.mp (Int32.not_lt.mp h1)
    refine ⟨f.toInt.toNat, by omega, ?_⟩
    apply Int32.toInt_inj.mp
    rw [nI_toInt (by omega)]
    omega
/-- the reference's numbers with k of K poured from p to q, from behind if r -/
def prd (r : Bool) (K k i : Nat) : Bool := if r = true then decide (K - k ≤ i) else decide (i < k)
def prX (x : Nat → Int64) (r : Bool) (p q K k : Nat) : Nat → Int64 := fun c => if q ≤ c ∧ c < q + K ∧ prd r K k (c - q) = true then x (p + (c - q)) else x c
theorem lp_pour {a b t u K : Nat} {s w : Int32} {z : Option Int32} (ht : t < 4) (hu : u < 4) (ha : a + K ≤ 60) (hb : b + K ≤ 60) (d : Nat) : ∀ k (z : Option Int32), k ≤ K → ∃ z' : Option Int32, zexec d 248 158 [some (.ref 143), some (.int (nI t)), some (.int (nI a)), some (.int (nI u)), some (.int (nI b)), some (.int (nI K)), some (.int (bI (decide (a < b)))), some (.int (nI 0)), z.map Value.int] [] (mk n m g I J) = zexec d 248 158 [some (.ref 143), some (.int (nI t)), some (.int (nI a)), some (.int (nI u)), some (.int (nI b)), some (.int (nI K)), some (.int (bI (decide (a < b)))), some (.int (nI k)), z'.map Value.int] [] (mk n m g I (zr J 146 (prX (J 146) (decide (a < b)) (60 * t + a) (60 * u + b) K k)))
  | 0, z, _ => by
    refine ⟨z, ?_⟩
    have : prX (J 146) (decide (a < b)) (60 * t + a) (60 * u + b) K 0 = J 146 := by
      funext c
      unfold prX prd
      by_cases h : a < b
      · simp only [h, decide_true, if_true]
        rw [if_neg]
        intro e
        have := e.2.2
        simp only [decide_eq_true_eq] at this
        omega
      · simp [h]
    rw [this, zr_id]
  | k + 1, z, hk => by
    obtain ⟨z1, e1⟩ := lp_pour (s := s) (w := w) (z := z) ht hu ha hb d k z (by omega)
    have hn : ∃ i, i < K ∧ (if a < b then nI K - 1 - nI k else nI k) = nI i ∧ (if a < b then i = K - 1 - k else i = k) := by
      by_cases h : a < b
      · refine ⟨K - 1 - k, by omega, ?_, by rw [if_pos h]⟩
        rw [if_pos h, nI_sub1 (by omega), nI_subn (by omega)]
      · exact ⟨k, by omega, by rw [if_neg h], by rw [if_neg h]⟩
    obtain ⟨i, hi, en, ei⟩ := hn
    have hx : prX (J 146) (decide (a < b)) (60 * t + a) (60 * u + b) K k (60 * t + a + i) = J 146 (60 * t + a + i) := by
      unfold prX prd
      rw [if_neg]
      rintro ⟨h1, h2, h3⟩
      by_cases h : a < b
      · rw [if_pos h] at ei
        simp only [h, decide_true, if_true, decide_eq_true_eq] at h3
        omega
      · rw [if_neg h] at ei
        simp only [h, decide_false, Bool.false_eq_true, if_false, decide_eq_true_eq] at h3
        omega
    have hstep : fu (prX (J 146) (decide (a < b)) (60 * t + a) (60 * u + b) K k) (60 * u + b + i) (J 146 (60 * t + a + i)) = prX (J 146) (decide (a < b)) (60 * t + a) (60 * u + b) K (k + 1) := by
      funext c
      by_cases e : c = 60 * u + b + i
      · subst e
        rw [fu_eq]
        unfold prX prd
        rw [if_pos]
        · congr 1
          omega
        · refine ⟨by omega, by omega, ?_⟩
          rw [show 60 * u + b + i - (60 * u + b) = i by omega]
          by_cases h : a < b
          · rw [if_pos h] at ei
            simp only [h, decide_true, if_true, decide_eq_true_eq]
            omega
          · rw [if_neg h] at ei
            simp only [h, decide_false, Bool.false_eq_true, if_false, decide_eq_true_eq]
            omega
      · rw [fu_ne _ _ e]
        unfold prX
        have : (60 * u + b ≤ c ∧ c < 60 * u + b + K ∧ prd (decide (a < b)) K k (c - (60 * u + b)) = true) ↔ (60 * u + b ≤ c ∧ c < 60 * u + b + K ∧ prd (decide (a < b)) K (k + 1) (c - (60 * u + b)) = true) := by
          unfold prd
          by_cases h : a < b
          · rw [if_pos h] at ei
            simp only [h, decide_true, if_true, decide_eq_true_eq]
            omega
          · rw [if_neg h] at ei
            simp only [h, decide_false, Bool.false_eq_true, if_false, decide_eq_true_eq]
            omega
        by_cases h : 60 * u + b ≤ c ∧ c < 60 * u + b + K ∧ prd (decide (a < b)) K k (c - (60 * u + b)) = true
        · rw [if_pos h, if_pos (this.mp h)]
        · rw [if_neg h, if_neg (fun e => h (this.mpr e))]
    refine ⟨some (nI i), e1.trans ?_⟩
    rw [e_X12_pour_158]
    have ix1 : (60 : Int32) * nI u + nI b + nI i = nI (60 * u + b + i) := by rw [nI_60, nI_add]
    have ix2 : (60 : Int32) * nI t + nI a + nI i = nI (60 * t + a + i) := by rw [nI_60, nI_add]
    by_cases h : a < b
    · simp only [h, if_true] at en
      simp only [e_X12_pour_160, e_X12_pour_162, e_X12_pour_165, e_X12_pour_167, e_X12_pour_170, e_X12_pour_172, e_X12_pour_173, e_X12_pour_174, e_X12_pour_176, e_X12_pour_177, e_X12_pour_180, e_X12_pour_182, e_X12_pour_184, e_X12_pour_185, e_X12_pour_188, e_X12_pour_190, e_X12_pour_191, e_X12_pour_192, e_X12_pour_194, e_X12_pour_195, e_X12_pour_197, e_X12_pour_198, e_X12_pour_199, e_X12_pour_202, e_X12_pour_204, e_X12_pour_205, e_X12_pour_206, e_X12_pour_207, e_X12_pour_208, e_X12_pour_210, e_X12_pour_211, e_X12_pour_212, e_X12_pour_213, e_X12_pour_216, g_143_6, h, decide_true, bI, if_neg (nI_ge (show k < K by omega) (show K < 2 ^ 31 by omega)), en, ix1, ix2, nI_neg (show 60 * u + b + i < 2 ^ 31 by omega), nI_clamp (show 60 * u + b + i < 2 ^ 31 by omega), k_146 (show 60 * u + b + i < 240 by omega), nI_neg (show 60 * t + a + i < 2 ^ 31 by omega), nI_clamp (show 60 * t + a + i < 2 ^ 31 by omega), k_146 (show 60 * t + a + i < 240 by omega), q_146, zr_same, zu_zr, nI_1, zclr_map, show ((1 : Int32) = 0) = False by decide, Option.bind_some, Option.isSome_some, Option.toList, List.cons_append, List.nil_append, zclr_i, zclr_r, zclr_n, zfit_i, zfit_l, and_self, if_true, if_false]
      simp only [h, decide_true] at hx hstep
      rw [hx, hstep]
      rfl
    · have eik : i = k := by
        rw [if_neg h] at ei
        exact ei
      have ix3 : (60 : Int32) * nI u + nI b + nI k = nI (60 * u + b + i) := by rw [eik, nI_60, nI_add]
      have ix4 : (60 : Int32) * nI t + nI a + nI k = nI (60 * t + a + i) := by rw [eik, nI_60, nI_add]
      simp only [e_X12_pour_160, e_X12_pour_162, e_X12_pour_165, e_X12_pour_167, e_X12_pour_170, e_X12_pour_172, e_X12_pour_173, e_X12_pour_174, e_X12_pour_176, e_X12_pour_177, e_X12_pour_180, e_X12_pour_182, e_X12_pour_184, e_X12_pour_185, e_X12_pour_188, e_X12_pour_190, e_X12_pour_191, e_X12_pour_192, e_X12_pour_194, e_X12_pour_195, e_X12_pour_197, e_X12_pour_198, e_X12_pour_199, e_X12_pour_202, e_X12_pour_204, e_X12_pour_205, e_X12_pour_206, e_X12_pour_207, e_X12_pour_208, e_X12_pour_210, e_X12_pour_211, e_X12_pour_212, e_X12_pour_213, e_X12_pour_216, g_143_6, h, decide_false, bI, Bool.false_eq_true, if_neg (nI_ge (show k < K by omega) (show K < 2 ^ 31 by omega)), ix3, ix4, nI_neg (show 60 * u + b + i < 2 ^ 31 by omega), nI_clamp (show 60 * u + b + i < 2 ^ 31 by omega), k_146 (show 60 * u + b + i < 240 by omega), nI_neg (show 60 * t + a + i < 2 ^ 31 by omega), nI_clamp (show 60 * t + a + i < 2 ^ 31 by omega), k_146 (show 60 * t + a + i < 240 by omega), q_146, zr_same, zu_zr, nI_1, zclr_map, Option.bind_some, Option.isSome_some, Option.toList, List.cons_append, List.nil_append, zclr_i, zclr_r, zclr_n, zfit_i, zfit_l, and_self, if_true, if_false]
      simp only [h, decide_false] at hx hstep
      rw [hx, hstep, eik]
      rfl
theorem q_pour {x i y j k : Int32} (h : Inv I J N S) (d : Nat) : Eqv (d + 30) 160 248 [.int x, .int i, .int y, .int j, .int k] n m g I J := by
  obtain ⟨y1, y2, y3⟩ := h.tray
  by_cases hx : 0 ≤ x ∧ x < 4
  · by_cases hy : 0 ≤ y ∧ y < 4
    · obtain ⟨t, ht, rfl⟩ := tray_cases x hx
      obtain ⟨u, hu, rfl⟩ := tray_cases y hy
      have n1 : ¬ nI t < 0 := Int32.not_lt.mpr hx.1
      have n2 : ¬ 4 ≤ nI t := Int32.not_le.mpr hx.2
      have n3 : ¬ nI u < 0 := Int32.not_lt.mpr hy.1
      have n4 : nI u < 4 := hy.2
      have m1 : ∀ w : Int32, (zu (zu (zu I 3 0 w) 143 1 0) 143 0 0) 145 t = I 6 t := fun w => (y2 t ht).2.symm
      have m2 : ∀ w : Int32, (zu (zu (zu I 3 0 w) 143 1 0) 143 0 0) 145 u = I 6 u := fun w => (y2 u hu).2.symm
      have s1 : ∀ w : Int32, (zu (zu (zu I 3 0 w) 143 1 0) 143 0 0) 144 t = I 5 t := fun w => (y2 t ht).1.symm
      have s2 : ∀ w : Int32, (zu (zu (zu I 3 0 w) 143 1 0) 143 0 0) 144 u = I 5 u := fun w => (y2 u hu).1.symm
      have neg : ∀ v, v < 4 → (I 6 v < 0) = (I 6 v = -1) := fun v hv => by
        apply propext
        rcases y1 v hv with e | ⟨L, hL, e⟩
        · rw [e]; decide
        · rw [e]
          simp [nI_pos (show L < 2 ^ 31 by omega), nI_m1 (show L < 2 ^ 31 by omega)]
      by_cases hm : I 6 t = -1 ∨ I 6 u = -1
      · refine ⟨.int 0, zu I 3 0 3, J, st 3 I, J, N, S, ?_, ?_, h.stI⟩
        · rw [m_X11_pour]
          simp only [e_X11_pour_0, e_X11_pour_1, e_X11_pour_4, e_X11_pour_7, e_X11_pour_8, e_X11_pour_11, e_X11_pour_14, e_X11_pour_15, e_X11_pour_16, e_X11_pour_19, e_X11_pour_20, e_X11_pour_21, e_X11_pour_24, e_X11_pour_25, e_X11_pour_28, e_X11_pour_31, e_X11_pour_32, e_X11_pour_35, e_X11_pour_36, e_X11_pour_39, e_X11_pour_42, e_X11_pour_43, e_X11_pour_44, e_X11_pour_47, e_X11_pour_48, e_X11_pour_49, e_X11_pour_52, e_X11_pour_53, e_X11_pour_56, e_X11_pour_57, e_X11_pour_60, e_X11_pour_61, e_X11_pour_64, e_X11_pour_67, e_X11_pour_68, e_X11_pour_70, e_X11_pour_73, e_X11_pour_74, e_X11_pour_76, e_X11_pour_79, e_X11_pour_80, e_X11_pour_82, e_X11_pour_85, e_X11_pour_86, e_X11_pour_87, e_X11_pour_90, e_X11_pour_91, e_X11_pour_92, e_X11_pour_94, e_X11_pour_97, e_X11_pour_100, e_X11_pour_101, e_X11_pour_104, e_X11_pour_105, e_X11_pour_107, e_X11_pour_109, e_X11_pour_112, e_X11_pour_115, e_X11_pour_116, e_X11_pour_117, e_X11_pour_120, e_X11_pour_121, e_X11_pour_122, e_X11_pour_125, e_X11_pour_126, e_X11_pour_127, e_X11_pour_128, e_X11_pour_130, e_X11_pour_132, e_X11_pour_135, e_X11_pour_136, e_X11_pour_139, c_3, c_4, g_3_3, y_isTray, hx, hy, and_self, decide_true, bI, y_isMissing ht, y_isMissing hu, n_deny, zfit_b0, Option.bind_some, Option.isSome_some, Option.toList, List.cons_append, List.nil_append, zclr_i, zclr_r, zclr_n, zfit_i, zfit_l, and_self, if_true, if_false]
          by_cases e1 : I 6 t = -1
          · simp [e1]
          · have e2 : I 6 u = -1 := hm.resolve_left e1
            simp [e1, e2]
        · rw [m_X12_pour]
          simp only [e_X12_pour_0, e_X12_pour_1, e_X12_pour_2, e_X12_pour_5, e_X12_pour_6, e_X12_pour_7, e_X12_pour_10, e_X12_pour_11, e_X12_pour_14, e_X12_pour_15, e_X12_pour_16, e_X12_pour_19, e_X12_pour_20, e_X12_pour_23, e_X12_pour_24, e_X12_pour_25, e_X12_pour_28, e_X12_pour_29, e_X12_pour_30, e_X12_pour_33, e_X12_pour_34, e_X12_pour_35, e_X12_pour_38, e_X12_pour_39, e_X12_pour_40, e_X12_pour_43, e_X12_pour_44, e_X12_pour_47, e_X12_pour_48, e_X12_pour_49, e_X12_pour_52, e_X12_pour_53, e_X12_pour_54, e_X12_pour_57, e_X12_pour_58, e_X12_pour_59, e_X12_pour_62, e_X12_pour_63, e_X12_pour_64, e_X12_pour_65, e_X12_pour_68, e_X12_pour_69, e_X12_pour_70, e_X12_pour_73, e_X12_pour_74, e_X12_pour_76, e_X12_pour_79, e_X12_pour_80, e_X12_pour_82, e_X12_pour_85, e_X12_pour_86, e_X12_pour_88, e_X12_pour_91, e_X12_pour_92, e_X12_pour_93, e_X12_pour_96, e_X12_pour_98, e_X12_pour_101, e_X12_pour_102, e_X12_pour_103, e_X12_pour_105, e_X12_pour_106, e_X12_pour_107, e_X12_pour_108, e_X12_pour_111, e_X12_pour_112, e_X12_pour_113, e_X12_pour_114, e_X12_pour_115, e_X12_pour_118, e_X12_pour_120, e_X12_pour_121, e_X12_pour_123, e_X12_pour_124, e_X12_pour_125, e_X12_pour_126, e_X12_pour_129, e_X12_pour_130, e_X12_pour_131, e_X12_pour_132, e_X12_pour_133, e_X12_pour_136, e_X12_pour_137, e_X12_pour_138, e_X12_pour_141, e_X12_pour_142, e_X12_pour_143, e_X12_pour_145, e_X12_pour_148, e_X12_pour_149, e_X12_pour_152, e_X12_pour_153, e_X12_pour_155, e_X12_pour_156, c_143, g_143_0, g_143_1, g_143_5, p_143_0, p_143_1, n1, n2, n3, n4, l_145 ht, l_145 hu, m1, m2, v_no, st_eq, neg t ht, neg u hu, zfit_b0, Option.bind_some, Option.isSome_some, Option.toList, List.cons_append, List.nil_append, zclr_i, zclr_r, zclr_n, zfit_i, zfit_l, and_self, if_true, if_false]
          by_cases e1 : I 6 t = -1
          · simp [e1]
          · have e2 : I 6 u = -1 := hm.resolve_left e1
            simp [e1, e2, neg t ht]
      · have e1 : ¬ I 6 t = -1 := fun e => hm (Or.inl e)
        have e2 : ¬ I 6 u = -1 := fun e => hm (Or.inr e)
        obtain ⟨L1, hL1, eL1⟩ : ∃ L, L ≤ 60 ∧ I 6 t = nI L := (y1 t ht).resolve_left e1
        obtain ⟨L2, hL2, eL2⟩ : ∃ L, L ≤ 60 ∧ I 6 u = nI L := (y1 u hu).resolve_left e2
        have ge1 : 0 ≤ nI L2 := Int32.not_lt.mp (nI_pos (by omega))
        have ng1 : ¬ nI L1 < 0 := nI_pos (by omega)
        have mm1 : ¬ nI L1 = -1 := nI_m1 (by omega)
        have mm2 : ¬ nI L2 = -1 := nI_m1 (by omega)
        by_cases hs : I 5 t = I 5 u
        · by_cases hk : k < 0
          · refine ⟨.int 0, zu I 3 0 6, J, st 6 I, J, N, S, ?_, ?_, h.stI⟩
            · rw [m_X11_pour]
              simp only [e_X11_pour_0, e_X11_pour_1, e_X11_pour_4, e_X11_pour_7, e_X11_pour_8, e_X11_pour_11, e_X11_pour_14, e_X11_pour_15, e_X11_pour_16, e_X11_pour_19, e_X11_pour_20, e_X11_pour_21, e_X11_pour_24, e_X11_pour_25, e_X11_pour_28, e_X11_pour_31, e_X11_pour_32, e_X11_pour_35, e_X11_pour_36, e_X11_pour_39, e_X11_pour_42, e_X11_pour_43, e_X11_pour_44, e_X11_pour_47, e_X11_pour_48, e_X11_pour_49, e_X11_pour_52, e_X11_pour_53, e_X11_pour_56, e_X11_pour_57, e_X11_pour_60, e_X11_pour_61, e_X11_pour_64, e_X11_pour_67, e_X11_pour_68, e_X11_pour_70, e_X11_pour_73, e_X11_pour_74, e_X11_pour_76, e_X11_pour_79, e_X11_pour_80, e_X11_pour_82, e_X11_pour_85, e_X11_pour_86, e_X11_pour_87, e_X11_pour_90, e_X11_pour_91, e_X11_pour_92, e_X11_pour_94, e_X11_pour_97, e_X11_pour_100, e_X11_pour_101, e_X11_pour_104, e_X11_pour_105, e_X11_pour_107, e_X11_pour_109, e_X11_pour_112, e_X11_pour_115, e_X11_pour_116, e_X11_pour_117, e_X11_pour_120, e_X11_pour_121, e_X11_pour_122, e_X11_pour_125, e_X11_pour_126, e_X11_pour_127, e_X11_pour_128, e_X11_pour_130, e_X11_pour_132, e_X11_pour_135, e_X11_pour_136, e_X11_pour_139, c_3, c_4, g_3_3, y_isTray, hx, hy, and_self, decide_true, decide_false, bI, y_isMissing ht, y_isMissing hu, eL1, eL2, mm1, mm2, y_sortOf ht, y_sortOf hu, hs, if_neg (Int32.not_le.mpr hk), n_deny, zfit_b0, Bool.false_eq_true, Option.bind_some, Option.isSome_some, Option.toList, List.cons_append, List.nil_append, zclr_i, zclr_r, zclr_n, zfit_i, zfit_l, and_self, if_true, if_false] <;> first | rfl | simp
            · rw [m_X12_pour]
              simp only [e_X12_pour_0, e_X12_pour_1, e_X12_pour_2, e_X12_pour_5, e_X12_pour_6, e_X12_pour_7, e_X12_pour_10, e_X12_pour_11, e_X12_pour_14, e_X12_pour_15, e_X12_pour_16, e_X12_pour_19, e_X12_pour_20, e_X12_pour_23, e_X12_pour_24, e_X12_pour_25, e_X12_pour_28, e_X12_pour_29, e_X12_pour_30, e_X12_pour_33, e_X12_pour_34, e_X12_pour_35, e_X12_pour_38, e_X12_pour_39, e_X12_pour_40, e_X12_pour_43, e_X12_pour_44, e_X12_pour_47, e_X12_pour_48, e_X12_pour_49, e_X12_pour_52, e_X12_pour_53, e_X12_pour_54, e_X12_pour_57, e_X12_pour_58, e_X12_pour_59, e_X12_pour_62, e_X12_pour_63, e_X12_pour_64, e_X12_pour_65, e_X12_pour_68, e_X12_pour_69, e_X12_pour_70, e_X12_pour_73, e_X12_pour_74, e_X12_pour_76, e_X12_pour_79, e_X12_pour_80, e_X12_pour_82, e_X12_pour_85, e_X12_pour_86, e_X12_pour_88, e_X12_pour_91, e_X12_pour_92, e_X12_pour_93, e_X12_pour_96, e_X12_pour_98, e_X12_pour_101, e_X12_pour_102, e_X12_pour_103, e_X12_pour_105, e_X12_pour_106, e_X12_pour_107, e_X12_pour_108, e_X12_pour_111, e_X12_pour_112, e_X12_pour_113, e_X12_pour_114, e_X12_pour_115, e_X12_pour_118, e_X12_pour_120, e_X12_pour_121, e_X12_pour_123, e_X12_pour_124, e_X12_pour_125, e_X12_pour_126, e_X12_pour_129, e_X12_pour_130, e_X12_pour_131, e_X12_pour_132, e_X12_pour_133, e_X12_pour_136, e_X12_pour_137, e_X12_pour_138, e_X12_pour_141, e_X12_pour_142, e_X12_pour_143, e_X12_pour_145, e_X12_pour_148, e_X12_pour_149, e_X12_pour_152, e_X12_pour_153, e_X12_pour_155, e_X12_pour_156, c_143, g_143_0, g_143_1, g_143_4, g_143_5, p_143_0, p_143_1, n1, n2, n3, n4, l_145 ht, l_145 hu, l_144 ht, l_144 hu, m1, m2, s1, s2, eL1, eL2, ng1, ge1, hs, if_neg (Int32.not_le.mpr hk), v_no, st_eq, zfit_b0, Option.bind_some, Option.isSome_some, Option.toList, List.cons_append, List.nil_append, zclr_i, zclr_r, zclr_n, zfit_i, zfit_l, and_self, if_true, if_false] <;> first | rfl | simp
          · have hk0 := Int32.not_lt.mp hk
            obtain ⟨K, hK, rfl⟩ : ∃ K, K < 2 ^ 31 ∧ k = nI K := by
              have h1 : (0 : Int) ≤ k.toInt := Int32.le_iff_toInt_le.mp hk0
              have h2 := Int32.toInt_lt k
              refine ⟨k.toInt.toNat, by omega, ?_⟩
              apply Int32.toInt_inj.mp
              rw [nI_toInt (by omega)]
              omega
            have r1 := row_iff (f := i) hK hL1
            have r2 := row_iff (f := j) hK hL2
            have q1 : ∀ w : Int32, ∀ z : Int32, (lg_cmp (i.toInt64 + (nI K).toInt64) z.toInt64 ≤ 0) = ¬ (z.toInt < i.toInt + (nI K).toInt) := fun w z => by rw [← Int32.not_lt, lg_gt0, i64_sum]
            have q1' : ∀ z : Int32, (0 < lg_cmp (i.toInt64 + (nI K).toInt64) z.toInt64) = (z.toInt < i.toInt + (nI K).toInt) := fun z => by rw [lg_gt0, i64_sum]
            have q2' : ∀ z : Int32, (lg_cmp (j.toInt64 + (nI K).toInt64) z.toInt64 ≤ 0) = ¬ (z.toInt < j.toInt + (nI K).toInt) := fun z => by rw [← Int32.not_lt, lg_gt0, i64_sum]
            by_cases ha : ∃ a, a + K ≤ L1 ∧ i = nI a
            · by_cases hb : ∃ a, a + K ≤ L2 ∧ j = nI a
              · obtain ⟨a, ha, rfl⟩ := ha
                obtain ⟨b, hb, rfl⟩ := hb
                have na : ¬ nI a < 0 := nI_pos (by omega)
                have nb : ¬ nI b < 0 := nI_pos (by omega)
                have ra : (0 : Int32) ≤ nI a ∧ nI K ≤ nI L1 ∧ nI a ≤ nI L1 - nI K := r1.mpr ⟨a, ha, rfl⟩
                have rb : (0 : Int32) ≤ nI b ∧ nI K ≤ nI L2 ∧ nI b ≤ nI L2 - nI K := r2.mpr ⟨b, hb, rfl⟩
                have g1 : ¬ (nI L1).toInt < (nI a).toInt + (nI K).toInt := by
                  rw [nI_toInt (by omega), nI_toInt (by omega), nI_toInt hK]
                  omega
                have g2 : ¬ (nI L2).toInt < (nI b).toInt + (nI K).toInt := by
                  rw [nI_toInt (by omega), nI_toInt (by omega), nI_toInt hK]
                  omega
                have hlt : (nI b ≤ nI a) = ¬ (a < b) := by rw [nI_leq (by omega) (by omega)]; simp
                have hlt2 : (nI a < nI b) = (a < b) := nI_ltq (by omega) (by omega)
                obtain ⟨z', e9⟩ := lp_pour (n := n) (m := m) (g := g) (I := (zu (zu (zu I 3 0 0) 143 1 0) 143 0 0)) (J := zr J (8 + u) (va_cpy (J (8 + t)) (J (8 + u)) a b K)) (a := a) (b := b) (K := K) (s := 0) (w := 0) (z := none) ht hu (by omega) (by omega) (d + 30) K none (Nat.le_refl K)
                have h146 : zr J (8 + u) (va_cpy (J (8 + t)) (J (8 + u)) a b K) 146 = J 146 := zr_far _ _ (by omega)
                rw [h146] at e9
                refine ⟨.int 1, zu I 3 0 0, zr J (8 + u) (va_cpy (J (8 + t)) (J (8 + u)) a b K), st 0 I, zr (zr J (8 + u) (va_cpy (J (8 + t)) (J (8 + u)) a b K)) 146 (prX (J 146) (decide (a < b)) (60 * t + a) (60 * u + b) K K), N, S, ?_, ?_, Inv.stI (h.tr (fun _ _ _ _ _ => rfl) (fun c c8 c146 => by rw [zr_far _ _ c146, zr_far _ _ (by omega)]) ⟨y1, y2, fun v q hv hq hlq => ?_⟩)⟩
                · rw [m_X11_pour]
                  simp only [e_X11_pour_0, e_X11_pour_1, e_X11_pour_4, e_X11_pour_7, e_X11_pour_8, e_X11_pour_11, e_X11_pour_14, e_X11_pour_15, e_X11_pour_16, e_X11_pour_19, e_X11_pour_20, e_X11_pour_21, e_X11_pour_24, e_X11_pour_25, e_X11_pour_28, e_X11_pour_31, e_X11_pour_32, e_X11_pour_35, e_X11_pour_36, e_X11_pour_39, e_X11_pour_42, e_X11_pour_43, e_X11_pour_44, e_X11_pour_47, e_X11_pour_48, e_X11_pour_49, e_X11_pour_52, e_X11_pour_53, e_X11_pour_56, e_X11_pour_57, e_X11_pour_60, e_X11_pour_61, e_X11_pour_64, e_X11_pour_67, e_X11_pour_68, e_X11_pour_70, e_X11_pour_73, e_X11_pour_74, e_X11_pour_76, e_X11_pour_79, e_X11_pour_80, e_X11_pour_82, e_X11_pour_85, e_X11_pour_86, e_X11_pour_87, e_X11_pour_90, e_X11_pour_91, e_X11_pour_92, e_X11_pour_94, e_X11_pour_97, e_X11_pour_100, e_X11_pour_101, e_X11_pour_104, e_X11_pour_105, e_X11_pour_107, e_X11_pour_109, e_X11_pour_112, e_X11_pour_115, e_X11_pour_116, e_X11_pour_117, e_X11_pour_120, e_X11_pour_121, e_X11_pour_122, e_X11_pour_125, e_X11_pour_126, e_X11_pour_127, e_X11_pour_128, e_X11_pour_130, e_X11_pour_132, e_X11_pour_135, e_X11_pour_136, e_X11_pour_139, c_3, c_4, g_3_3, y_isTray, hx, hy, and_self, decide_true, decide_false, bI, y_isMissing ht, y_isMissing hu, eL1, eL2, mm1, mm2, y_sortOf ht, y_sortOf hu, hs, if_pos hk0, y_hasRow ht, y_hasRow hu, ra, rb, y_move ht hu (show a + K ≤ 60 by omega) (show b + K ≤ 60 by omega), n_grant, zfit_b1, Bool.false_eq_true, Option.bind_some, Option.isSome_some, Option.toList, List.cons_append, List.nil_append, zclr_i, zclr_r, zclr_n, zfit_i, zfit_l, and_self, if_true, if_false] <;> first | rfl | simp
                · rw [m_X12_pour]
                  have hst : zexec (d + 30) 248 0 [some (.ref 143), some (.int (nI t)), some (.int (nI a)), some (.int (nI u)), some (.int (nI b)), some (.int (nI K)), none, none, none] [] (mk n m g (zu I 3 0 0) (zr J (8 + u) (va_cpy (J (8 + t)) (J (8 + u)) a b K))) = zexec (d + 30) 248 158 [some (.ref 143), some (.int (nI t)), some (.int (nI a)), some (.int (nI u)), some (.int (nI b)), some (.int (nI K)), some (.int (bI (decide (a < b)))), some (.int (nI 0)), none] [] (mk n m g (zu (zu (zu I 3 0 0) 143 1 0) 143 0 0) (zr J (8 + u) (va_cpy (J (8 + t)) (J (8 + u)) a b K))) := by
                    simp only [e_X12_pour_0, e_X12_pour_1, e_X12_pour_2, e_X12_pour_5, e_X12_pour_6, e_X12_pour_7, e_X12_pour_10, e_X12_pour_11, e_X12_pour_14, e_X12_pour_15, e_X12_pour_16, e_X12_pour_19, e_X12_pour_20, e_X12_pour_23, e_X12_pour_24, e_X12_pour_25, e_X12_pour_28, e_X12_pour_29, e_X12_pour_30, e_X12_pour_33, e_X12_pour_34, e_X12_pour_35, e_X12_pour_38, e_X12_pour_39, e_X12_pour_40, e_X12_pour_43, e_X12_pour_44, e_X12_pour_47, e_X12_pour_48, e_X12_pour_49, e_X12_pour_52, e_X12_pour_53, e_X12_pour_54, e_X12_pour_57, e_X12_pour_58, e_X12_pour_59, e_X12_pour_62, e_X12_pour_63, e_X12_pour_64, e_X12_pour_65, e_X12_pour_68, e_X12_pour_69, e_X12_pour_70, e_X12_pour_73, e_X12_pour_74, e_X12_pour_76, e_X12_pour_79, e_X12_pour_80, e_X12_pour_82, e_X12_pour_85, e_X12_pour_86, e_X12_pour_88, e_X12_pour_91, e_X12_pour_92, e_X12_pour_93, e_X12_pour_96, e_X12_pour_98, e_X12_pour_101, e_X12_pour_102, e_X12_pour_103, e_X12_pour_105, e_X12_pour_106, e_X12_pour_107, e_X12_pour_108, e_X12_pour_111, e_X12_pour_112, e_X12_pour_113, e_X12_pour_114, e_X12_pour_115, e_X12_pour_118, e_X12_pour_120, e_X12_pour_121, e_X12_pour_123, e_X12_pour_124, e_X12_pour_125, e_X12_pour_126, e_X12_pour_129, e_X12_pour_130, e_X12_pour_131, e_X12_pour_132, e_X12_pour_133, e_X12_pour_136, e_X12_pour_137, e_X12_pour_138, e_X12_pour_141, e_X12_pour_142, e_X12_pour_143, e_X12_pour_145, e_X12_pour_148, e_X12_pour_149, e_X12_pour_152, e_X12_pour_153, e_X12_pour_155, e_X12_pour_156, c_143, g_143_0, g_143_1, g_143_4, g_143_5, p_143_0, p_143_1, n1, n2, n3, n4, l_145 ht, l_145 hu, l_144 ht, l_144 hu, m1, m2, s1, s2, eL1, eL2, ng1, ge1, hs, if_pos hk0, na, nb, q1', q2', g1, g2, not_false_eq_true, hlt, Option.bind_some, Option.isSome_some, Option.toList, List.cons_append, List.nil_append, zclr_i, zclr_r, zclr_n, zfit_i, zfit_l, and_self, if_true, if_false]
                    by_cases e : a < b
                    · simp only [e, decide_true, bI, not_true, if_false, if_true]
                      rfl
                    · simp only [e, decide_false, bI, not_false_eq_true, Bool.false_eq_true, if_false, if_true]
                      rfl
                  refine hst.trans (e9.trans ?_)
                  rw [e_X12_pour_158]
                  simp only [e_X12_pour_160, e_X12_pour_162, e_X12_pour_165, e_X12_pour_167, e_X12_pour_170, e_X12_pour_172, e_X12_pour_173, e_X12_pour_174, e_X12_pour_176, e_X12_pour_177, e_X12_pour_180, e_X12_pour_182, e_X12_pour_184, e_X12_pour_185, e_X12_pour_188, e_X12_pour_190, e_X12_pour_191, e_X12_pour_192, e_X12_pour_194, e_X12_pour_195, e_X12_pour_197, e_X12_pour_198, e_X12_pour_199, e_X12_pour_202, e_X12_pour_204, e_X12_pour_205, e_X12_pour_206, e_X12_pour_207, e_X12_pour_208, e_X12_pour_210, e_X12_pour_211, e_X12_pour_212, e_X12_pour_213, e_X12_pour_216, e_X12_pour_219, e_X12_pour_220, if_pos (nI_le (Nat.le_refl K) (show K < 2 ^ 31 by omega)), zfit_b1, Option.bind_some, Option.isSome_some, Option.toList, List.cons_append, List.nil_append, zclr_i, zclr_r, zclr_n, zfit_i, zfit_l, and_self, if_true, if_false]
                  rfl
                · rw [zr_same, zr_far _ _ (show 8 + v ≠ 146 by omega)]
                  have hfull : ∀ c, prX (J 146) (decide (a < b)) (60 * t + a) (60 * u + b) K K c = if 60 * u + b ≤ c ∧ c < 60 * u + b + K then J 146 (60 * t + a + (c - (60 * u + b))) else J 146 c := by
                    intro c
                    unfold prX prd
                    by_cases e : 60 * u + b ≤ c ∧ c < 60 * u + b + K
                    · rw [if_pos e, if_pos]
                      refine ⟨e.1, e.2, ?_⟩
                      by_cases e3 : a < b
                      · simp only [e3, decide_true, if_true, decide_eq_true_eq]
                        omega
                      · simp only [e3, decide_false, Bool.false_eq_true, if_false, decide_eq_true_eq]
                        omega
                    · rw [if_neg e, if_neg (fun e4 => e ⟨e4.1, e4.2.1⟩)]
                  rw [hfull]
                  by_cases ev : v = u
                  · subst ev
                    rw [zr_same]
                    unfold va_cpy
                    by_cases e : b ≤ q ∧ q < b + K
                    · rw [if_pos e, if_pos (by omega), y3 t (a + (q - b)) ht (by omega) (by rw [eL1, nI_ltq (by omega) (by omega)]; omega)]
                      congr 1
                      omega
                    · rw [if_neg e, if_neg (by omega)]
                      exact y3 v q hv hq hlq
                  · rw [zr_far _ _ (by omega), if_neg (by omega)]
                    exact y3 v q hv hq hlq
              · obtain ⟨a, ha, rfl⟩ := ha
                have rn : ¬ ((0 : Int32) ≤ j ∧ nI K ≤ nI L2 ∧ j ≤ nI L2 - nI K) := fun e => hb (r2.mp e)
                have rw2 := row_not hK hL2 hb
                have ra : (0 : Int32) ≤ nI a ∧ nI K ≤ nI L1 ∧ nI a ≤ nI L1 - nI K := r1.mpr ⟨a, ha, rfl⟩
                have na : ¬ nI a < 0 := nI_pos (by omega)
                have g1 : ¬ (nI L1).toInt < (nI a).toInt + (nI K).toInt := by
                  rw [nI_toInt (by omega), nI_toInt (by omega), nI_toInt hK]
                  omega
                refine ⟨.int 0, zu I 3 0 4, J, st 4 I, J, N, S, ?_, ?_, h.stI⟩
                · rw [m_X11_pour]
                  simp only [e_X11_pour_0, e_X11_pour_1, e_X11_pour_4, e_X11_pour_7, e_X11_pour_8, e_X11_pour_11, e_X11_pour_14, e_X11_pour_15, e_X11_pour_16, e_X11_pour_19, e_X11_pour_20, e_X11_pour_21, e_X11_pour_24, e_X11_pour_25, e_X11_pour_28, e_X11_pour_31, e_X11_pour_32, e_X11_pour_35, e_X11_pour_36, e_X11_pour_39, e_X11_pour_42, e_X11_pour_43, e_X11_pour_44, e_X11_pour_47, e_X11_pour_48, e_X11_pour_49, e_X11_pour_52, e_X11_pour_53, e_X11_pour_56, e_X11_pour_57, e_X11_pour_60, e_X11_pour_61, e_X11_pour_64, e_X11_pour_67, e_X11_pour_68, e_X11_pour_70, e_X11_pour_73, e_X11_pour_74, e_X11_pour_76, e_X11_pour_79, e_X11_pour_80, e_X11_pour_82, e_X11_pour_85, e_X11_pour_86, e_X11_pour_87, e_X11_pour_90, e_X11_pour_91, e_X11_pour_92, e_X11_pour_94, e_X11_pour_97, e_X11_pour_100, e_X11_pour_101, e_X11_pour_104, e_X11_pour_105, e_X11_pour_107, e_X11_pour_109, e_X11_pour_112, e_X11_pour_115, e_X11_pour_116, e_X11_pour_117, e_X11_pour_120, e_X11_pour_121, e_X11_pour_122, e_X11_pour_125, e_X11_pour_126, e_X11_pour_127, e_X11_pour_128, e_X11_pour_130, e_X11_pour_132, e_X11_pour_135, e_X11_pour_136, e_X11_pour_139, c_3, c_4, g_3_3, y_isTray, hx, hy, and_self, decide_true, decide_false, bI, y_isMissing ht, y_isMissing hu, eL1, eL2, mm1, mm2, y_sortOf ht, y_sortOf hu, hs, if_pos hk0, y_hasRow ht, y_hasRow hu, ra, rn, n_deny, zfit_b0, Bool.false_eq_true, Option.bind_some, Option.isSome_some, Option.toList, List.cons_append, List.nil_append, zclr_i, zclr_r, zclr_n, zfit_i, zfit_l, and_self, if_true, if_false] <;> first | rfl | simp
                · rw [m_X12_pour]
                  simp only [e_X12_pour_0, e_X12_pour_1, e_X12_pour_2, e_X12_pour_5, e_X12_pour_6, e_X12_pour_7, e_X12_pour_10, e_X12_pour_11, e_X12_pour_14, e_X12_pour_15, e_X12_pour_16, e_X12_pour_19, e_X12_pour_20, e_X12_pour_23, e_X12_pour_24, e_X12_pour_25, e_X12_pour_28, e_X12_pour_29, e_X12_pour_30, e_X12_pour_33, e_X12_pour_34, e_X12_pour_35, e_X12_pour_38, e_X12_pour_39, e_X12_pour_40, e_X12_pour_43, e_X12_pour_44, e_X12_pour_47, e_X12_pour_48, e_X12_pour_49, e_X12_pour_52, e_X12_pour_53, e_X12_pour_54, e_X12_pour_57, e_X12_pour_58, e_X12_pour_59, e_X12_pour_62, e_X12_pour_63, e_X12_pour_64, e_X12_pour_65, e_X12_pour_68, e_X12_pour_69, e_X12_pour_70, e_X12_pour_73, e_X12_pour_74, e_X12_pour_76, e_X12_pour_79, e_X12_pour_80, e_X12_pour_82, e_X12_pour_85, e_X12_pour_86, e_X12_pour_88, e_X12_pour_91, e_X12_pour_92, e_X12_pour_93, e_X12_pour_96, e_X12_pour_98, e_X12_pour_101, e_X12_pour_102, e_X12_pour_103, e_X12_pour_105, e_X12_pour_106, e_X12_pour_107, e_X12_pour_108, e_X12_pour_111, e_X12_pour_112, e_X12_pour_113, e_X12_pour_114, e_X12_pour_115, e_X12_pour_118, e_X12_pour_120, e_X12_pour_121, e_X12_pour_123, e_X12_pour_124, e_X12_pour_125, e_X12_pour_126, e_X12_pour_129, e_X12_pour_130, e_X12_pour_131, e_X12_pour_132, e_X12_pour_133, e_X12_pour_136, e_X12_pour_137, e_X12_pour_138, e_X12_pour_141, e_X12_pour_142, e_X12_pour_143, e_X12_pour_145, e_X12_pour_148, e_X12_pour_149, e_X12_pour_152, e_X12_pour_153, e_X12_pour_155, e_X12_pour_156, c_143, g_143_0, g_143_1, g_143_4, g_143_5, p_143_0, p_143_1, n1, n2, n3, n4, l_145 ht, l_145 hu, l_144 ht, l_144 hu, m1, m2, s1, s2, eL1, eL2, ng1, ge1, hs, if_pos hk0, na, q1', q2', g1, v_no, st_eq, zfit_b0, Option.bind_some, Option.isSome_some, Option.toList, List.cons_append, List.nil_append, zclr_i, zclr_r, zclr_n, zfit_i, zfit_l, and_self, if_true, if_false]
                  rcases rw2 with e | e
                  · simp [e]
                  · simp [e]
            · have rn : ¬ ((0 : Int32) ≤ i ∧ nI K ≤ nI L1 ∧ i ≤ nI L1 - nI K) := fun e => ha (r1.mp e)
              have rw2 := row_not hK hL1 ha
              refine ⟨.int 0, zu I 3 0 4, J, st 4 I, J, N, S, ?_, ?_, h.stI⟩
              · rw [m_X11_pour]
                simp only [e_X11_pour_0, e_X11_pour_1, e_X11_pour_4, e_X11_pour_7, e_X11_pour_8, e_X11_pour_11, e_X11_pour_14, e_X11_pour_15, e_X11_pour_16, e_X11_pour_19, e_X11_pour_20, e_X11_pour_21, e_X11_pour_24, e_X11_pour_25, e_X11_pour_28, e_X11_pour_31, e_X11_pour_32, e_X11_pour_35, e_X11_pour_36, e_X11_pour_39, e_X11_pour_42, e_X11_pour_43, e_X11_pour_44, e_X11_pour_47, e_X11_pour_48, e_X11_pour_49, e_X11_pour_52, e_X11_pour_53, e_X11_pour_56, e_X11_pour_57, e_X11_pour_60, e_X11_pour_61, e_X11_pour_64, e_X11_pour_67, e_X11_pour_68, e_X11_pour_70, e_X11_pour_73, e_X11_pour_74, e_X11_pour_76, e_X11_pour_79, e_X11_pour_80, e_X11_pour_82, e_X11_pour_85, e_X11_pour_86, e_X11_pour_87, e_X11_pour_90, e_X11_pour_91, e_X11_pour_92, e_X11_pour_94, e_X11_pour_97, e_X11_pour_100, e_X11_pour_101, e_X11_pour_104, e_X11_pour_105, e_X11_pour_107, e_X11_pour_109, e_X11_pour_112, e_X11_pour_115, e_X11_pour_116, e_X11_pour_117, e_X11_pour_120, e_X11_pour_121, e_X11_pour_122, e_X11_pour_125, e_X11_pour_126, e_X11_pour_127, e_X11_pour_128, e_X11_pour_130, e_X11_pour_132, e_X11_pour_135, e_X11_pour_136, e_X11_pour_139, c_3, c_4, g_3_3, y_isTray, hx, hy, and_self, decide_true, decide_false, bI, y_isMissing ht, y_isMissing hu, eL1, eL2, mm1, mm2, y_sortOf ht, y_sortOf hu, hs, if_pos hk0, y_hasRow ht, y_hasRow hu, rn, n_deny, zfit_b0, Bool.false_eq_true, Option.bind_some, Option.isSome_some, Option.toList, List.cons_append, List.nil_append, zclr_i, zclr_r, zclr_n, zfit_i, zfit_l, and_self, if_true, if_false] <;> first | rfl | simp
              · rw [m_X12_pour]
                simp only [e_X12_pour_0, e_X12_pour_1, e_X12_pour_2, e_X12_pour_5, e_X12_pour_6, e_X12_pour_7, e_X12_pour_10, e_X12_pour_11, e_X12_pour_14, e_X12_pour_15, e_X12_pour_16, e_X12_pour_19, e_X12_pour_20, e_X12_pour_23, e_X12_pour_24, e_X12_pour_25, e_X12_pour_28, e_X12_pour_29, e_X12_pour_30, e_X12_pour_33, e_X12_pour_34, e_X12_pour_35, e_X12_pour_38, e_X12_pour_39, e_X12_pour_40, e_X12_pour_43, e_X12_pour_44, e_X12_pour_47, e_X12_pour_48, e_X12_pour_49, e_X12_pour_52, e_X12_pour_53, e_X12_pour_54, e_X12_pour_57, e_X12_pour_58, e_X12_pour_59, e_X12_pour_62, e_X12_pour_63, e_X12_pour_64, e_X12_pour_65, e_X12_pour_68, e_X12_pour_69, e_X12_pour_70, e_X12_pour_73, e_X12_pour_74, e_X12_pour_76, e_X12_pour_79, e_X12_pour_80, e_X12_pour_82, e_X12_pour_85, e_X12_pour_86, e_X12_pour_88, e_X12_pour_91, e_X12_pour_92, e_X12_pour_93, e_X12_pour_96, e_X12_pour_98, e_X12_pour_101, e_X12_pour_102, e_X12_pour_103, e_X12_pour_105, e_X12_pour_106, e_X12_pour_107, e_X12_pour_108, e_X12_pour_111, e_X12_pour_112, e_X12_pour_113, e_X12_pour_114, e_X12_pour_115, e_X12_pour_118, e_X12_pour_120, e_X12_pour_121, e_X12_pour_123, e_X12_pour_124, e_X12_pour_125, e_X12_pour_126, e_X12_pour_129, e_X12_pour_130, e_X12_pour_131, e_X12_pour_132, e_X12_pour_133, e_X12_pour_136, e_X12_pour_137, e_X12_pour_138, e_X12_pour_141, e_X12_pour_142, e_X12_pour_143, e_X12_pour_145, e_X12_pour_148, e_X12_pour_149, e_X12_pour_152, e_X12_pour_153, e_X12_pour_155, e_X12_pour_156, c_143, g_143_0, g_143_1, g_143_4, g_143_5, p_143_0, p_143_1, n1, n2, n3, n4, l_145 ht, l_145 hu, l_144 ht, l_144 hu, m1, m2, s1, s2, eL1, eL2, ng1, ge1, hs, if_pos hk0, q1', v_no, st_eq, zfit_b0, Option.bind_some, Option.isSome_some, Option.toList, List.cons_append, List.nil_append, zclr_i, zclr_r, zclr_n, zfit_i, zfit_l, and_self, if_true, if_false]
                rcases rw2 with e | e
                · simp [e]
                · simp [e]
        · refine ⟨.int 0, zu I 3 0 11, J, st 11 I, J, N, S, ?_, ?_, h.stI⟩
          · rw [m_X11_pour]
            simp only [e_X11_pour_0, e_X11_pour_1, e_X11_pour_4, e_X11_pour_7, e_X11_pour_8, e_X11_pour_11, e_X11_pour_14, e_X11_pour_15, e_X11_pour_16, e_X11_pour_19, e_X11_pour_20, e_X11_pour_21, e_X11_pour_24, e_X11_pour_25, e_X11_pour_28, e_X11_pour_31, e_X11_pour_32, e_X11_pour_35, e_X11_pour_36, e_X11_pour_39, e_X11_pour_42, e_X11_pour_43, e_X11_pour_44, e_X11_pour_47, e_X11_pour_48, e_X11_pour_49, e_X11_pour_52, e_X11_pour_53, e_X11_pour_56, e_X11_pour_57, e_X11_pour_60, e_X11_pour_61, e_X11_pour_64, e_X11_pour_67, e_X11_pour_68, e_X11_pour_70, e_X11_pour_73, e_X11_pour_74, e_X11_pour_76, e_X11_pour_79, e_X11_pour_80, e_X11_pour_82, e_X11_pour_85, e_X11_pour_86, e_X11_pour_87, e_X11_pour_90, e_X11_pour_91, e_X11_pour_92, e_X11_pour_94, e_X11_pour_97, e_X11_pour_100, e_X11_pour_101, e_X11_pour_104, e_X11_pour_105, e_X11_pour_107, e_X11_pour_109, e_X11_pour_112, e_X11_pour_115, e_X11_pour_116, e_X11_pour_117, e_X11_pour_120, e_X11_pour_121, e_X11_pour_122, e_X11_pour_125, e_X11_pour_126, e_X11_pour_127, e_X11_pour_128, e_X11_pour_130, e_X11_pour_132, e_X11_pour_135, e_X11_pour_136, e_X11_pour_139, c_3, c_4, g_3_3, y_isTray, hx, hy, and_self, decide_true, decide_false, bI, y_isMissing ht, y_isMissing hu, eL1, eL2, mm1, mm2, y_sortOf ht, y_sortOf hu, hs, n_deny, zfit_b0, Bool.false_eq_true, Option.bind_some, Option.isSome_some, Option.toList, List.cons_append, List.nil_append, zclr_i, zclr_r, zclr_n, zfit_i, zfit_l, and_self, if_true, if_false] <;> first | rfl | simp
          · rw [m_X12_pour]
            simp only [e_X12_pour_0, e_X12_pour_1, e_X12_pour_2, e_X12_pour_5, e_X12_pour_6, e_X12_pour_7, e_X12_pour_10, e_X12_pour_11, e_X12_pour_14, e_X12_pour_15, e_X12_pour_16, e_X12_pour_19, e_X12_pour_20, e_X12_pour_23, e_X12_pour_24, e_X12_pour_25, e_X12_pour_28, e_X12_pour_29, e_X12_pour_30, e_X12_pour_33, e_X12_pour_34, e_X12_pour_35, e_X12_pour_38, e_X12_pour_39, e_X12_pour_40, e_X12_pour_43, e_X12_pour_44, e_X12_pour_47, e_X12_pour_48, e_X12_pour_49, e_X12_pour_52, e_X12_pour_53, e_X12_pour_54, e_X12_pour_57, e_X12_pour_58, e_X12_pour_59, e_X12_pour_62, e_X12_pour_63, e_X12_pour_64, e_X12_pour_65, e_X12_pour_68, e_X12_pour_69, e_X12_pour_70, e_X12_pour_73, e_X12_pour_74, e_X12_pour_76, e_X12_pour_79, e_X12_pour_80, e_X12_pour_82, e_X12_pour_85, e_X12_pour_86, e_X12_pour_88, e_X12_pour_91, e_X12_pour_92, e_X12_pour_93, e_X12_pour_96, e_X12_pour_98, e_X12_pour_101, e_X12_pour_102, e_X12_pour_103, e_X12_pour_105, e_X12_pour_106, e_X12_pour_107, e_X12_pour_108, e_X12_pour_111, e_X12_pour_112, e_X12_pour_113, e_X12_pour_114, e_X12_pour_115, e_X12_pour_118, e_X12_pour_120, e_X12_pour_121, e_X12_pour_123, e_X12_pour_124, e_X12_pour_125, e_X12_pour_126, e_X12_pour_129, e_X12_pour_130, e_X12_pour_131, e_X12_pour_132, e_X12_pour_133, e_X12_pour_136, e_X12_pour_137, e_X12_pour_138, e_X12_pour_141, e_X12_pour_142, e_X12_pour_143, e_X12_pour_145, e_X12_pour_148, e_X12_pour_149, e_X12_pour_152, e_X12_pour_153, e_X12_pour_155, e_X12_pour_156, c_143, g_143_0, g_143_1, g_143_4, g_143_5, p_143_0, p_143_1, n1, n2, n3, n4, l_145 ht, l_145 hu, l_144 ht, l_144 hu, m1, m2, s1, s2, eL1, eL2, ng1, ge1, hs, v_no, st_eq, zfit_b0, Option.bind_some, Option.isSome_some, Option.toList, List.cons_append, List.nil_append, zclr_i, zclr_r, zclr_n, zfit_i, zfit_l, and_self, if_true, if_false] <;> first | rfl | simp
    · refine ⟨.int 0, zu I 3 0 1, J, st 1 I, J, N, S, ?_, ?_, h.stI⟩
      · rw [m_X11_pour]
        simp only [e_X11_pour_0, e_X11_pour_1, e_X11_pour_4, e_X11_pour_7, e_X11_pour_8, e_X11_pour_11, e_X11_pour_14, e_X11_pour_15, e_X11_pour_16, e_X11_pour_19, e_X11_pour_20, e_X11_pour_21, e_X11_pour_24, e_X11_pour_25, e_X11_pour_28, e_X11_pour_31, e_X11_pour_32, e_X11_pour_35, e_X11_pour_36, e_X11_pour_39, e_X11_pour_42, e_X11_pour_43, e_X11_pour_44, e_X11_pour_47, e_X11_pour_48, e_X11_pour_49, e_X11_pour_52, e_X11_pour_53, e_X11_pour_56, e_X11_pour_57, e_X11_pour_60, e_X11_pour_61, e_X11_pour_64, e_X11_pour_67, e_X11_pour_68, e_X11_pour_70, e_X11_pour_73, e_X11_pour_74, e_X11_pour_76, e_X11_pour_79, e_X11_pour_80, e_X11_pour_82, e_X11_pour_85, e_X11_pour_86, e_X11_pour_87, e_X11_pour_90, e_X11_pour_91, e_X11_pour_92, e_X11_pour_94, e_X11_pour_97, e_X11_pour_100, e_X11_pour_101, e_X11_pour_104, e_X11_pour_105, e_X11_pour_107, e_X11_pour_109, e_X11_pour_112, e_X11_pour_115, e_X11_pour_116, e_X11_pour_117, e_X11_pour_120, e_X11_pour_121, e_X11_pour_122, e_X11_pour_125, e_X11_pour_126, e_X11_pour_127, e_X11_pour_128, e_X11_pour_130, e_X11_pour_132, e_X11_pour_135, e_X11_pour_136, e_X11_pour_139, c_3, c_4, g_3_3, y_isTray, bI_t hx, bI_f hy, n_deny, zfit_b0, Option.bind_some, Option.isSome_some, Option.toList, List.cons_append, List.nil_append, zclr_i, zclr_r, zclr_n, zfit_i, zfit_l, and_self, if_true, if_false] <;> first | rfl | simp
      · rw [m_X12_pour]
        simp only [e_X12_pour_0, e_X12_pour_1, e_X12_pour_2, e_X12_pour_5, e_X12_pour_6, e_X12_pour_7, e_X12_pour_10, e_X12_pour_11, e_X12_pour_14, e_X12_pour_15, e_X12_pour_16, e_X12_pour_19, e_X12_pour_20, e_X12_pour_23, e_X12_pour_24, e_X12_pour_25, e_X12_pour_28, e_X12_pour_29, e_X12_pour_30, e_X12_pour_33, e_X12_pour_34, e_X12_pour_35, e_X12_pour_38, e_X12_pour_39, e_X12_pour_40, e_X12_pour_43, e_X12_pour_44, e_X12_pour_47, e_X12_pour_48, e_X12_pour_49, e_X12_pour_52, e_X12_pour_53, e_X12_pour_54, e_X12_pour_57, e_X12_pour_58, e_X12_pour_59, e_X12_pour_62, e_X12_pour_63, e_X12_pour_64, e_X12_pour_65, e_X12_pour_68, e_X12_pour_69, e_X12_pour_70, e_X12_pour_73, e_X12_pour_74, e_X12_pour_76, e_X12_pour_79, e_X12_pour_80, e_X12_pour_82, e_X12_pour_85, e_X12_pour_86, e_X12_pour_88, e_X12_pour_91, e_X12_pour_92, e_X12_pour_93, e_X12_pour_96, e_X12_pour_98, e_X12_pour_101, e_X12_pour_102, e_X12_pour_103, e_X12_pour_105, e_X12_pour_106, e_X12_pour_107, e_X12_pour_108, e_X12_pour_111, e_X12_pour_112, e_X12_pour_113, e_X12_pour_114, e_X12_pour_115, e_X12_pour_118, e_X12_pour_120, e_X12_pour_121, e_X12_pour_123, e_X12_pour_124, e_X12_pour_125, e_X12_pour_126, e_X12_pour_129, e_X12_pour_130, e_X12_pour_131, e_X12_pour_132, e_X12_pour_133, e_X12_pour_136, e_X12_pour_137, e_X12_pour_138, e_X12_pour_141, e_X12_pour_142, e_X12_pour_143, e_X12_pour_145, e_X12_pour_148, e_X12_pour_149, e_X12_pour_152, e_X12_pour_153, e_X12_pour_155, e_X12_pour_156, c_143, g_143_0, g_143_1, p_143_0, p_143_1, Int32.not_lt.mpr hx.1, Int32.not_le.mpr hx.2, v_no, st_eq, zfit_b0, Option.bind_some, Option.isSome_some, Option.toList, List.cons_append, List.nil_append, zclr_i, zclr_r, zclr_n, zfit_i, zfit_l, and_self, if_true, if_false]
        by_cases g1 : y < 0
        · simp [g1]
        · have g2 : ¬ y < 4 := fun e => hy ⟨Int32.not_lt.mp g1, e⟩
          simp [g1, g2]
  · refine ⟨.int 0, zu I 3 0 1, J, st 1 I, J, N, S, ?_, ?_, h.stI⟩
    · rw [m_X11_pour]
      simp only [e_X11_pour_0, e_X11_pour_1, e_X11_pour_4, e_X11_pour_7, e_X11_pour_8, e_X11_pour_11, e_X11_pour_14, e_X11_pour_15, e_X11_pour_16, e_X11_pour_19, e_X11_pour_20, e_X11_pour_21, e_X11_pour_24, e_X11_pour_25, e_X11_pour_28, e_X11_pour_31, e_X11_pour_32, e_X11_pour_35, e_X11_pour_36, e_X11_pour_39, e_X11_pour_42, e_X11_pour_43, e_X11_pour_44, e_X11_pour_47, e_X11_pour_48, e_X11_pour_49, e_X11_pour_52, e_X11_pour_53, e_X11_pour_56, e_X11_pour_57, e_X11_pour_60, e_X11_pour_61, e_X11_pour_64, e_X11_pour_67, e_X11_pour_68, e_X11_pour_70, e_X11_pour_73, e_X11_pour_74, e_X11_pour_76, e_X11_pour_79, e_X11_pour_80, e_X11_pour_82, e_X11_pour_85, e_X11_pour_86, e_X11_pour_87, e_X11_pour_90, e_X11_pour_91, e_X11_pour_92, e_X11_pour_94, e_X11_pour_97, e_X11_pour_100, e_X11_pour_101, e_X11_pour_104, e_X11_pour_105, e_X11_pour_107, e_X11_pour_109, e_X11_pour_112, e_X11_pour_115, e_X11_pour_116, e_X11_pour_117, e_X11_pour_120, e_X11_pour_121, e_X11_pour_122, e_X11_pour_125, e_X11_pour_126, e_X11_pour_127, e_X11_pour_128, e_X11_pour_130, e_X11_pour_132, e_X11_pour_135, e_X11_pour_136, e_X11_pour_139, c_3, c_4, g_3_3, y_isTray, bI_f hx, n_deny, zfit_b0, Option.bind_some, Option.isSome_some, Option.toList, List.cons_append, List.nil_append, zclr_i, zclr_r, zclr_n, zfit_i, zfit_l, and_self, if_true, if_false] <;> first | rfl | simp
    · rw [m_X12_pour]
      simp only [e_X12_pour_0, e_X12_pour_1, e_X12_pour_2, e_X12_pour_5, e_X12_pour_6, e_X12_pour_7, e_X12_pour_10, e_X12_pour_11, e_X12_pour_14, e_X12_pour_15, e_X12_pour_16, e_X12_pour_19, e_X12_pour_20, e_X12_pour_23, e_X12_pour_24, e_X12_pour_25, e_X12_pour_28, e_X12_pour_29, e_X12_pour_30, e_X12_pour_33, e_X12_pour_34, e_X12_pour_35, e_X12_pour_38, e_X12_pour_39, e_X12_pour_40, e_X12_pour_43, e_X12_pour_44, e_X12_pour_47, e_X12_pour_48, e_X12_pour_49, e_X12_pour_52, e_X12_pour_53, e_X12_pour_54, e_X12_pour_57, e_X12_pour_58, e_X12_pour_59, e_X12_pour_62, e_X12_pour_63, e_X12_pour_64, e_X12_pour_65, e_X12_pour_68, e_X12_pour_69, e_X12_pour_70, e_X12_pour_73, e_X12_pour_74, e_X12_pour_76, e_X12_pour_79, e_X12_pour_80, e_X12_pour_82, e_X12_pour_85, e_X12_pour_86, e_X12_pour_88, e_X12_pour_91, e_X12_pour_92, e_X12_pour_93, e_X12_pour_96, e_X12_pour_98, e_X12_pour_101, e_X12_pour_102, e_X12_pour_103, e_X12_pour_105, e_X12_pour_106, e_X12_pour_107, e_X12_pour_108, e_X12_pour_111, e_X12_pour_112, e_X12_pour_113, e_X12_pour_114, e_X12_pour_115, e_X12_pour_118, e_X12_pour_120, e_X12_pour_121, e_X12_pour_123, e_X12_pour_124, e_X12_pour_125, e_X12_pour_126, e_X12_pour_129, e_X12_pour_130, e_X12_pour_131, e_X12_pour_132, e_X12_pour_133, e_X12_pour_136, e_X12_pour_137, e_X12_pour_138, e_X12_pour_141, e_X12_pour_142, e_X12_pour_143, e_X12_pour_145, e_X12_pour_148, e_X12_pour_149, e_X12_pour_152, e_X12_pour_153, e_X12_pour_155, e_X12_pour_156, c_143, g_143_0, g_143_1, p_143_0, p_143_1, v_no, st_eq, zfit_b0, Option.bind_some, Option.isSome_some, Option.toList, List.cons_append, List.nil_append, zclr_i, zclr_r, zclr_n, zfit_i, zfit_l, and_self, if_true, if_false]
      by_cases g1 : x < 0
      · simp [g1]
      · have g2 : 4 ≤ x := Int32.not_lt.mp (fun e => hx ⟨Int32.not_lt.mp g1, e⟩)
        simp [g1, g2]
end QX
