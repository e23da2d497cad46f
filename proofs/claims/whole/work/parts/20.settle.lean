/-! THE QUEUE AS A LIST, AND SETTLING -/
section SET
variable {n m : Nat} {g : Nat → zC} {I : Nat → Nat → Int32} {J : Nat → Nat → Int64}
theorem zfor_inv {α : Type} {f : Nat → α → α} {P : Nat → α → Prop} (hs : ∀ p a, P p a → P (p + 1) (f p a)) : ∀ k p a, P p a → P (p + k) (zfor f p k a)
  | 0, _, _, h => h
  | k + 1, p, a, h => by
    have := zfor_inv hs k (p + 1) (f p a) (hs p a h)
    rw [show p + (k + 1) = p + 1 + k by omega]
    exact this
theorem zfind_some {c : Nat → Bool} : ∀ k p {j : Nat}, zfind c some none p k = some j → p ≤ j ∧ j < p + k ∧ c j = true
  | 0, _, _, h => by cases h
  | k + 1, p, j, h => by
    rw [zfind] at h
    split at h
    · rename_i hc
      cases h
      exact ⟨Nat.le_refl _, by omega, hc⟩
    · have := zfind_some k (p + 1) h
      exact ⟨by omega, by omega, this.2.2⟩
def qL (I : Nat → Nat → Int32) (b K : Nat) : List (Int32 × Int32) := (List.range K).map (fun k => (I (b + 15) k, I (b + 16) k))
theorem qL_succ (I : Nat → Nat → Int32) (b k : Nat) : qL I b (k + 1) = qL I b k ++ [(I (b + 15) k, I (b + 16) k)] := by simp [qL, List.range_succ]
theorem qL_len (I : Nat → Nat → Int32) (b k : Nat) : (qL I b k).length = k := by simp [qL]
theorem qL_eq {I I' : Nat → Nat → Int32} {b K : Nat} (h : ∀ k, k < K → I (b + 15) k = I' (b + 15) k ∧ I (b + 16) k = I' (b + 16) k) : qL I b K = qL I' b K := List.map_congr_left (fun k hk => by
  have := h k (List.mem_range.mp hk)
  rw [this.1, this.2])
theorem qL_mem {I : Nat → Nat → Int32} {b K : Nat} {e : Int32 × Int32} : e ∈ qL I b K ↔ ∃ k, k < K ∧ e = (I (b + 15) k, I (b + 16) k) := by
  simp only [qL, List.mem_map, List.mem_range]
  exact ⟨fun ⟨k, h, e⟩ => ⟨k, h, e.symm⟩, fun ⟨k, h, e⟩ => ⟨k, h, e.symm⟩⟩
theorem qPress_L {b Q : Nat} (c : (Nat → Nat → Int32) → Nat → Bool) (c' : Int32 × Int32 → Bool) (hc : ∀ I', I' (b + 7) = I (b + 7) → ∀ k, c I' k = c' (I' (b + 15) k, I' (b + 16) k)) : qPress c b Q I (b + 14) 2 = nI ((qL I b Q).filter c').length ∧ qL (qPress c b Q I) b ((qL I b Q).filter c').length = (qL I b Q).filter c' := by
  have h := zfor_inv (f := qStep c b) (P := fun p x => x.2 (b + 7) = I (b + 7) ∧ x.1 ≤ p ∧ qL x.2 b x.1 = (qL I b p).filter c' ∧ ∀ j, x.1 ≤ j → x.2 (b + 15) j = I (b + 15) j ∧ x.2 (b + 16) j = I (b + 16) j) ?_ Q 0 (0, I) ⟨rfl, Nat.le_refl _, rfl, fun _ _ => ⟨rfl, rfl⟩⟩
  · rw [Nat.zero_add] at h
    obtain ⟨-, -, h3, -⟩ := h
    have h4 : (zfor (qStep c b) 0 Q (0, I)).1 = ((qL I b Q).filter c').length := by rw [← h3, qL_len]
    unfold qPress
    refine ⟨by rw [zu_row, if_pos rfl, h4], ?_⟩
    rw [← h4, ← h3]
    exact qL_eq (fun k _ => by simp only [zu_oo (i := 14) (j := 15) (by decide), zu_oo (i := 14) (j := 16) (by decide), and_self])
  · rintro p ⟨r, I'⟩ ⟨h1, h2, h3, h4⟩
    have h5 := h4 p h2
    simp only at h1 h2 h3 h4 h5
    have h6 := hc I' h1 p
    rw [h5.1, h5.2] at h6
    rw [qL_succ, List.filter_append]
    unfold qStep
    by_cases h7 : c' (I (b + 15) p, I (b + 16) p) = true
    · simp only [h6, h7, if_true, h5.1, h5.2]
      refine ⟨?_, by omega, ?_, ?_⟩
      · rw [zu_far _ _ _ (by omega), zu_far _ _ _ (by omega), h1]
      · rw [qL_succ, ← h3]
        simp only [zu_oo (i := 16) (j := 15) (by decide), zu_oo (i := 15) (j := 16) (by decide), zu_row, if_true, List.filter_cons, h7, List.filter_nil]
        exact congrArg (· ++ _) (qL_eq (fun k hk => by simp only [zu_oo (i := 16) (j := 15) (by decide), zu_oo (i := 15) (j := 16) (by decide), zu_row, if_neg (show ¬ k = r by omega), and_self]))
      · intro j hj
        simp only [zu_oo (i := 16) (j := 15) (by decide), zu_oo (i := 15) (j := 16) (by decide), zu_row, if_neg (show ¬ j = r by omega)]
        exact h4 j (by omega)
    · simp only [h6, h7, Bool.false_eq_true, if_false, List.filter_cons, List.filter_nil, List.append_nil]
      exact ⟨h1, by omega, h3, h4⟩
theorem qFilter_le {c' : Int32 × Int32 → Bool} {b Q : Nat} : ((qL I b Q).filter c').length ≤ Q := by
  have := List.length_filter_le c' (qL I b Q)
  rwa [qL_len] at this
theorem qOk_L {b Q : Nat} : qOk I b Q ↔ ∀ e ∈ qL I b Q, ∃ p, p < 12 ∧ e.1 = nI p := by
  constructor
  · intro h e he
    obtain ⟨k, hk, rfl⟩ := qL_mem.mp he
    exact h k hk
  · intro h k hk
    exact h (I (b + 15) k, I (b + 16) k) (qL_mem.mpr ⟨k, hk, rfl⟩)
/-- what a queue is: a count, and people -/
def qWell (I : Nat → Nat → Int32) (b : Nat) : Prop := ∃ Q, Q ≤ 12 ∧ I (b + 14) 2 = nI Q ∧ qOk I b Q
def qN (I : Nat → Nat → Int32) (b : Nat) : Nat := (I (b + 14) 2).toNatClampNeg
theorem qWell_N {b : Nat} (h : qWell I b) : qN I b ≤ 12 ∧ I (b + 14) 2 = nI (qN I b) ∧ qOk I b (qN I b) := by
  obtain ⟨Q, h1, h2, h3⟩ := h
  have : qN I b = Q := by
    unfold qN
    rw [h2, nI_clamp (by omega)]
  rw [this]
  exact ⟨h1, h2, h3⟩
theorem qPress_well {b Q : Nat} (c : (Nat → Nat → Int32) → Nat → Bool) (c' : Int32 × Int32 → Bool) (hc : ∀ I', I' (b + 7) = I (b + 7) → ∀ k, c I' k = c' (I' (b + 15) k, I' (b + 16) k)) (h12 : Q ≤ 12) (hq : qOk I b Q) : qWell (qPress c b Q I) b := by
  have h := qPress_L (I := I) (Q := Q) c c' hc
  refine ⟨_, Nat.le_trans qFilter_le h12, h.1, ?_⟩
  rw [qOk_L, h.2]
  intro e he
  exact qOk_L.mp hq e (List.mem_filter.mp he).1
/-- may the one at place k be served? -/
def sMay (I : Nat → Nat → Int32) (b N k : Nat) : Bool := decide (I (b + 11) (I (b + 15) k).toNatClampNeg = -1 ∧ 0 < tFree I b (I (b + 16) k) N)
def sServe (I : Nat → Nat → Int32) (b k : Nat) : Nat → Nat → Int32 := qPress (fun I' j => decide (I' (b + 15) j ≠ I (b + 15) k)) b (qN I b) (zu I (b + 7) (I (b + 15) k).toNatClampNeg (I (b + 16) k))
def sRun (b N : Nat) : Nat → (Nat → Nat → Int32) → Nat → Nat → Int32
  | 0, I => I
  | r + 1, I => match zfind (sMay I b N) some none 0 (qN I b) with | none => I | some k => sRun b N r (sServe I b k)
def tSettle (I : Nat → Nat → Int32) (b N : Nat) : Nat → Nat → Int32 := sRun b N 12 (qPress (fun I k => decide (I (b + 7) (I (b + 15) k).toNatClampNeg ≠ I (b + 16) k)) b (qN I b) I)
theorem qN_zu {b a k : Nat} {x : Int32} (h : a ≠ b + 14) : qN (zu I a k x) b = qN I b := by
  unfold qN
  rw [zu_far _ _ _ (Ne.symm h)]
theorem sServe_well {b k : Nat} (hq : qWell I b) : qWell (sServe I b k) b := by
  have h := qWell_N hq
  refine qPress_well _ (fun e => decide (e.1 ≠ I (b + 15) k)) (fun _ _ _ => rfl) h.1 ?_
  intro j hj
  simp only [zu_oo (i := 7) (j := 15) (by decide)]
  exact h.2.2 j hj
theorem sServe_far {b a k : Nat} (h7 : a ≠ b + 7) (h14 : a ≠ b + 14) (h15 : a ≠ b + 15) (h16 : a ≠ b + 16) : sServe I b k a = I a := by
  unfold sServe
  rw [qPress_far _ h14 h15 h16, zu_far _ _ _ h7]
theorem s_run {b N : Nat} (hb : isTown b) (h12 : N ≤ 12) (d : Nat) : ∀ (r i : Nat) (I : Nat → Nat → Int32) (x y : Option Value), i + r = 12 → I b 4 = nI N → qWell I b → zexec (d + 1) 119 13 [some (.ref b), some (.int (nI i)), x, y] [] (mk n m g I J) = some (none, mk n m g (sRun b N r I) J)
  | 0, i, I, x, y, hi, hN, hq => by
    rw [e_X7_settle_13]
    simp only [e_X7_settle_0, e_X7_settle_1, e_X7_settle_4, e_X7_settle_5, e_X7_settle_8, e_X7_settle_11, e_X7_settle_12, e_X7_settle_14, e_X7_settle_16, e_X7_settle_19, e_X7_settle_20, e_X7_settle_21, e_X7_settle_22, e_X7_settle_23, e_X7_settle_26, e_X7_settle_29, e_X7_settle_32, e_X7_settle_33, e_X7_settle_36, e_X7_settle_37, e_X7_settle_40, e_X7_settle_43, e_X7_settle_44, e_X7_settle_45, e_X7_settle_46, e_X7_settle_47, e_X7_settle_50, e_X7_settle_51, e_X7_settle_52, e_X7_settle_55, e_X7_settle_58, e_X7_settle_59, e_X7_settle_60, e_X7_settle_63, e_X7_settle_66, e_X7_settle_69, e_X7_settle_72, e_X7_settle_73, e_X7_settle_74, e_X7_settle_77, e_X7_settle_80, e_X7_settle_83, e_X7_settle_84, e_X7_settle_85, e_X7_settle_88, e_X7_settle_91, e_X7_settle_92, e_X7_settle_93, e_X7_settle_94, e_X7_settle_95, e_X7_settle_98, e_X7_settle_99, e_X7_settle_100, e_X7_settle_103, e_X7_settle_106, e_X7_settle_107, e_X7_settle_108, e_X7_settle_109, e_X7_settle_110, e_X7_settle_113, e_X7_settle_114, e_X7_settle_117, e_X7_settle_120, e_X7_settle_123, if_pos (show (12 : Int32) ≤ nI i from nI_le (a := 12) (by omega) (by omega)), Option.bind_some, Option.isSome_some, Option.toList, List.cons_append, List.nil_append, zclr_i, zclr_r, zclr_n, zfit_i, zfit_l, and_self, if_true, if_false]
    rfl
  | r + 1, i, I, x, y, hi, hN, hq => by
    obtain ⟨h1, h2, h3⟩ := qWell_N hq
    rw [e_X7_settle_13]
    simp only [e_X7_settle_0, e_X7_settle_1, e_X7_settle_4, e_X7_settle_5, e_X7_settle_8, e_X7_settle_11, e_X7_settle_12, e_X7_settle_14, e_X7_settle_16, e_X7_settle_19, e_X7_settle_20, e_X7_settle_22, e_X7_settle_23, e_X7_settle_26, e_X7_settle_29, e_X7_settle_32, e_X7_settle_33, e_X7_settle_36, e_X7_settle_37, e_X7_settle_40, e_X7_settle_43, e_X7_settle_44, e_X7_settle_45, e_X7_settle_46, e_X7_settle_47, e_X7_settle_50, e_X7_settle_51, e_X7_settle_52, e_X7_settle_55, e_X7_settle_58, e_X7_settle_59, e_X7_settle_60, e_X7_settle_63, e_X7_settle_66, e_X7_settle_69, e_X7_settle_73, e_X7_settle_74, e_X7_settle_77, e_X7_settle_80, e_X7_settle_83, e_X7_settle_84, e_X7_settle_85, e_X7_settle_88, e_X7_settle_91, e_X7_settle_92, e_X7_settle_93, e_X7_settle_94, e_X7_settle_95, e_X7_settle_98, e_X7_settle_99, e_X7_settle_100, e_X7_settle_103, e_X7_settle_106, e_X7_settle_107, e_X7_settle_108, e_X7_settle_109, e_X7_settle_110, e_X7_settle_113, e_X7_settle_114, e_X7_settle_117, e_X7_settle_120, e_X7_settle_123, if_neg (show ¬ (12 : Int32) ≤ nI i from nI_ge (b := 12) (by omega) (by decide)), Option.bind_some, Option.isSome_some, Option.toList, List.cons_append, List.nil_append, zclr_i, zclr_r, zclr_n, zfit_i, zfit_l, and_self, if_true, if_false]
    have h := zsearch (fun k => zexec (d + 1) 119 21 [some (.ref b), some (.int (nI i)), some (.int (nI k)), y] [] (mk n m g I J)) (sMay I b N) (fun k => zexec (d + 1) 119 72 [some (.ref b), some (.int (nI i)), some (.int (nI k)), y] [] (mk n m g I J)) (qN I b) ?_ (qN I b) 0 (by omega)
    · refine h.trans ?_
      have h21 : zexec (d + 1) 119 21 [some (.ref b), some (.int (nI i)), some (.int (nI (qN I b))), y] [] (mk n m g I J) = zexec (d + 1) 119 72 [some (.ref b), some (.int (nI i)), some (.int (nI (qN I b))), y] [] (mk n m g I J) := by
        rw [e_X7_settle_21]
        simp only [e_X7_settle_0, e_X7_settle_1, e_X7_settle_4, e_X7_settle_5, e_X7_settle_8, e_X7_settle_11, e_X7_settle_12, e_X7_settle_14, e_X7_settle_16, e_X7_settle_19, e_X7_settle_20, e_X7_settle_22, e_X7_settle_23, e_X7_settle_26, e_X7_settle_29, e_X7_settle_32, e_X7_settle_33, e_X7_settle_36, e_X7_settle_37, e_X7_settle_40, e_X7_settle_43, e_X7_settle_44, e_X7_settle_45, e_X7_settle_46, e_X7_settle_47, e_X7_settle_50, e_X7_settle_51, e_X7_settle_52, e_X7_settle_55, e_X7_settle_58, e_X7_settle_59, e_X7_settle_60, e_X7_settle_63, e_X7_settle_66, e_X7_settle_69, e_X7_settle_73, e_X7_settle_74, e_X7_settle_77, e_X7_settle_80, e_X7_settle_83, e_X7_settle_84, e_X7_settle_85, e_X7_settle_88, e_X7_settle_91, e_X7_settle_92, e_X7_settle_93, e_X7_settle_94, e_X7_settle_95, e_X7_settle_98, e_X7_settle_99, e_X7_settle_100, e_X7_settle_103, e_X7_settle_106, e_X7_settle_107, e_X7_settle_108, e_X7_settle_109, e_X7_settle_110, e_X7_settle_113, e_X7_settle_114, e_X7_settle_117, e_X7_settle_120, e_X7_settle_123, g_T0_19 hb, g_T14_2 hb, h2, if_pos (nI_le (Nat.le_refl (qN I b)) (by omega : qN I b < 2 ^ 31)), Option.bind_some, Option.isSome_some, Option.toList, List.cons_append, List.nil_append, zclr_i, zclr_r, zclr_n, zfit_i, zfit_l, and_self, if_true, if_false]
      rw [h21]
      refine (zfind_app (fun v : Option Nat => zexec (d + 1) 119 72 [some (.ref b), some (.int (nI i)), some (.int (nI (v.getD (qN I b)))), y] [] (mk n m g I J)) (sMay I b N) some none (qN I b) 0).trans ?_
      rw [sRun]
      cases hf : zfind (sMay I b N) some none 0 (qN I b) with
      | none =>
        simp only [Option.getD_none]
        rw [e_X7_settle_72]
        simp only [e_X7_settle_0, e_X7_settle_1, e_X7_settle_4, e_X7_settle_5, e_X7_settle_8, e_X7_settle_11, e_X7_settle_12, e_X7_settle_14, e_X7_settle_16, e_X7_settle_19, e_X7_settle_20, e_X7_settle_22, e_X7_settle_23, e_X7_settle_26, e_X7_settle_29, e_X7_settle_32, e_X7_settle_33, e_X7_settle_36, e_X7_settle_37, e_X7_settle_40, e_X7_settle_43, e_X7_settle_44, e_X7_settle_45, e_X7_settle_46, e_X7_settle_47, e_X7_settle_50, e_X7_settle_51, e_X7_settle_52, e_X7_settle_55, e_X7_settle_58, e_X7_settle_59, e_X7_settle_60, e_X7_settle_63, e_X7_settle_66, e_X7_settle_69, e_X7_settle_73, e_X7_settle_74, e_X7_settle_77, e_X7_settle_80, e_X7_settle_83, e_X7_settle_84, e_X7_settle_85, e_X7_settle_88, e_X7_settle_91, e_X7_settle_92, e_X7_settle_93, e_X7_settle_94, e_X7_settle_95, e_X7_settle_98, e_X7_settle_99, e_X7_settle_100, e_X7_settle_103, e_X7_settle_106, e_X7_settle_107, e_X7_settle_108, e_X7_settle_109, e_X7_settle_110, e_X7_settle_113, e_X7_settle_114, e_X7_settle_117, e_X7_settle_120, e_X7_settle_123, g_T0_19 hb, g_T14_2 hb, h2, if_neg (Int32.not_lt.mpr (nI_le (Nat.le_refl (qN I b)) (by omega : qN I b < 2 ^ 31))), Option.bind_some, Option.isSome_some, Option.toList, List.cons_append, List.nil_append, zclr_i, zclr_r, zclr_n, zfit_i, zfit_l, and_self, if_true, if_false]
      | some k =>
        obtain ⟨-, hk, -⟩ := zfind_some _ _ hf
        obtain ⟨p, hp, hpk⟩ := h3 k (by omega)
        simp only [Option.getD_some]
        have hlt : nI k < nI (qN I b) := Int32.not_le.mp (nI_ge (by omega : k < qN I b) (by omega))
        have hQ2 : (zu I (b + 7) p (I (b + 16) k)) (b + 14) 2 = nI (qN I b) := by simp only [zu_oo (i := 7) (j := 14) (by decide), h2]
        have hrow : sServe I b k = qPress (fun I' j => decide (I' (b + 15) j ≠ nI p)) b (qN I b) (zu I (b + 7) p (I (b + 16) k)) := by
          unfold sServe
          rw [hpk, nI_clamp (by omega)]
        have hrec := s_run hb h12 d r (i + 1) (sServe I b k) (some (.int (nI k))) (some (.int (nI p))) (by omega) (by rw [sServe_far (by omega) (by omega) (by omega) (by omega)]; exact hN) (sServe_well hq)
        rw [← hrec, hrow]
        rw [e_X7_settle_72]
        simp only [e_X7_settle_0, e_X7_settle_1, e_X7_settle_4, e_X7_settle_5, e_X7_settle_8, e_X7_settle_11, e_X7_settle_12, e_X7_settle_14, e_X7_settle_16, e_X7_settle_19, e_X7_settle_20, e_X7_settle_22, e_X7_settle_23, e_X7_settle_26, e_X7_settle_29, e_X7_settle_32, e_X7_settle_33, e_X7_settle_36, e_X7_settle_37, e_X7_settle_40, e_X7_settle_43, e_X7_settle_44, e_X7_settle_45, e_X7_settle_46, e_X7_settle_47, e_X7_settle_50, e_X7_settle_51, e_X7_settle_52, e_X7_settle_55, e_X7_settle_58, e_X7_settle_59, e_X7_settle_60, e_X7_settle_63, e_X7_settle_66, e_X7_settle_69, e_X7_settle_73, e_X7_settle_74, e_X7_settle_77, e_X7_settle_80, e_X7_settle_83, e_X7_settle_84, e_X7_settle_85, e_X7_settle_88, e_X7_settle_91, e_X7_settle_92, e_X7_settle_93, e_X7_settle_94, e_X7_settle_95, e_X7_settle_98, e_X7_settle_99, e_X7_settle_100, e_X7_settle_103, e_X7_settle_106, e_X7_settle_107, e_X7_settle_108, e_X7_settle_109, e_X7_settle_110, e_X7_settle_113, e_X7_settle_114, e_X7_settle_117, e_X7_settle_120, e_X7_settle_123, c_T14 hb, g_T0_12 hb, g_T0_19 hb, g_T14_0 hb, g_T14_1 hb, g_T14_2 hb, h2, if_pos hlt, l_T15 hb (show k < 12 by omega), l_T16 hb (show k < 12 by omega), hpk, nI_neg (show p < 2 ^ 31 by omega), nI_clamp (show p < 2 ^ 31 by omega), k_T7 hb hp, q_T7 hb, q_drop hb hQ2 h1, nI_1, Option.bind_some, Option.isSome_some, Option.toList, List.cons_append, List.nil_append, zclr_i, zclr_r, zclr_n, zfit_i, zfit_l, and_self, if_true, if_false]
    · intro k hk
      obtain ⟨p, hp, hpk⟩ := h3 k hk
      rw [e_X7_settle_21]
      simp only [e_X7_settle_0, e_X7_settle_1, e_X7_settle_4, e_X7_settle_5, e_X7_settle_8, e_X7_settle_11, e_X7_settle_12, e_X7_settle_14, e_X7_settle_16, e_X7_settle_19, e_X7_settle_20, e_X7_settle_22, e_X7_settle_23, e_X7_settle_26, e_X7_settle_29, e_X7_settle_32, e_X7_settle_33, e_X7_settle_36, e_X7_settle_37, e_X7_settle_40, e_X7_settle_43, e_X7_settle_44, e_X7_settle_45, e_X7_settle_46, e_X7_settle_47, e_X7_settle_50, e_X7_settle_51, e_X7_settle_52, e_X7_settle_55, e_X7_settle_58, e_X7_settle_59, e_X7_settle_60, e_X7_settle_63, e_X7_settle_66, e_X7_settle_69, e_X7_settle_73, e_X7_settle_74, e_X7_settle_77, e_X7_settle_80, e_X7_settle_83, e_X7_settle_84, e_X7_settle_85, e_X7_settle_88, e_X7_settle_91, e_X7_settle_92, e_X7_settle_93, e_X7_settle_94, e_X7_settle_95, e_X7_settle_98, e_X7_settle_99, e_X7_settle_100, e_X7_settle_103, e_X7_settle_106, e_X7_settle_107, e_X7_settle_108, e_X7_settle_109, e_X7_settle_110, e_X7_settle_113, e_X7_settle_114, e_X7_settle_117, e_X7_settle_120, e_X7_settle_123, c_T0 hb, g_T0_16 hb, g_T0_19 hb, g_T14_0 hb, g_T14_1 hb, g_T14_2 hb, h2, l_T15 hb (show k < 12 by omega), l_T16 hb (show k < 12 by omega), hpk, l_T11 hb hp, t_free hb hN h12, if_neg (nI_ge hk (by omega : qN I b < 2 ^ 31)), nI_1, Option.bind_some, Option.isSome_some, Option.toList, List.cons_append, List.nil_append, zclr_i, zclr_r, zclr_n, zfit_i, zfit_l, and_self, if_true, if_false]
      unfold sMay
      simp only [hpk, nI_clamp (show p < 2 ^ 31 by omega)]
      by_cases h4 : I (b + 11) p = -1
      · by_cases h5 : 0 < tFree I b (I (b + 16) k) N <;> simp [h4, h5]
      · simp [h4]
theorem t_settle {b N : Nat} (hb : isTown b) (hN : I b 4 = nI N) (h12 : N ≤ 12) (hq : qWell I b) (d : Nat) : zcall (d + 1) 119 [.ref b] (mk n m g I J) = some (none, mk n m g (tSettle I b N) J) := by
  rw [m_X7_settle]
  obtain ⟨h1, h2, h3⟩ := qWell_N hq
  simp only [e_X7_settle_0, e_X7_settle_1, e_X7_settle_4, e_X7_settle_5, e_X7_settle_8, e_X7_settle_11, e_X7_settle_12, e_X7_settle_14, e_X7_settle_16, e_X7_settle_19, e_X7_settle_20, e_X7_settle_21, e_X7_settle_22, e_X7_settle_23, e_X7_settle_26, e_X7_settle_29, e_X7_settle_32, e_X7_settle_33, e_X7_settle_36, e_X7_settle_37, e_X7_settle_40, e_X7_settle_43, e_X7_settle_44, e_X7_settle_45, e_X7_settle_46, e_X7_settle_47, e_X7_settle_50, e_X7_settle_51, e_X7_settle_52, e_X7_settle_55, e_X7_settle_58, e_X7_settle_59, e_X7_settle_60, e_X7_settle_63, e_X7_settle_66, e_X7_settle_69, e_X7_settle_72, e_X7_settle_73, e_X7_settle_74, e_X7_settle_77, e_X7_settle_80, e_X7_settle_83, e_X7_settle_84, e_X7_settle_85, e_X7_settle_88, e_X7_settle_91, e_X7_settle_92, e_X7_settle_93, e_X7_settle_94, e_X7_settle_95, e_X7_settle_98, e_X7_settle_99, e_X7_settle_100, e_X7_settle_103, e_X7_settle_106, e_X7_settle_107, e_X7_settle_108, e_X7_settle_109, e_X7_settle_110, e_X7_settle_113, e_X7_settle_114, e_X7_settle_117, e_X7_settle_120, e_X7_settle_123, c_T14 hb, g_T0_12 hb, g_T0_19 hb, q_dropServed hb h2 h1 h3, Option.bind_some, Option.isSome_some, Option.toList, List.cons_append, List.nil_append, zclr_i, zclr_r, zclr_n, zfit_i, zfit_l, and_self, if_true, if_false]
  exact s_run hb h12 d 12 0 _ _ _ rfl (by rw [qPress_far _ (by omega) (by omega) (by omega)]; exact hN) (qPress_well _ (fun e => decide (I (b + 7) e.1.toNatClampNeg ≠ e.2)) (fun I' h k => by rw [h]) h1 h3)
end SET
