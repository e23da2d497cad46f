/-! RECOUNT -/
section RC
variable {n m : Nat} {g : Nat → zC} {I X A : Nat → Nat → Int32} {J : Nat → Nat → Int64} {N S U b : Nat}
theorem free_pos : ∀ M, M < 10 → ∀ c, c < 13 → ((0 < nI M - nI c) ↔ c < M) := by decide +kernel
theorem cnt_congr {f f' : Nat → Bool} {k : Nat} (h : ∀ q, q < k → f q = f' q) : cnt f k = cnt f' k := zfor_congr _ _ _ (fun q x _ h2 => by rw [h q (by omega)])
/-- how many of the living have s by the new count -/
def cc (I : Nat → Nat → Int32) (N : Nat) (bs : Nat → Int32) (s : Int32) : Nat := cnt (fun p => decide (p < N) && decide (bs p = s ∧ I (16 + 6) p = -1)) 12
theorem cc_le {bs : Nat → Int32} {s : Int32} : cc I N bs s < 13 := by
  have := cnt_le (fun p => decide (p < N) && decide (bs p = s ∧ I (16 + 6) p = -1)) 12 0 0
  rw [Nat.zero_add] at this
  exact Nat.lt_succ_of_le this
def fwL (I : Nat → Nat → Int32) (N M : Nat) (bs : Nat → Int32) (p : Nat) : Nat → Nat → Int32
  | _, 0 => -1
  | k, f + 1 => if cc I N bs (I (16 + 13) (p * 6 + k)) < M then I (16 + 13) (p * 6 + k) else fwL I N M bs p (k + 1) f
def fw (I : Nat → Nat → Int32) (N M : Nat) (bs : Nat → Int32) (p : Nat) : Int32 := if I (16 + 7) p ≠ -1 ∧ cc I N bs (I (16 + 7) p) < M then I (16 + 7) p else fwL I N M bs p 0 (pK I 16 p)
/-- the draft of the count -/
def drf (X I : Nat → Nat → Int32) (N M : Nat) (bs : Nat → Int32) : Prop := (∀ i, i < 17 → X (16 + i) = I (16 + i)) ∧ X 33 1 = nI M ∧ X 33 4 = nI N ∧ (∀ p, p < N → X (33 + 6) p = I (16 + 6) p) ∧ (∀ p, p < N → X (33 + 5) p = I (16 + 5) p) ∧ ∀ p, p < 12 → X (33 + 7) p = bs p
theorem drf_free {M : Nat} {bs : Nat → Int32} {s : Int32} (h : drf X I N M bs) (h12 : N ≤ 12) (hM : M < 10) : ((if 0 < tFree X 33 s N then tFree X 33 s N else 0) ≤ 0) = ¬ cc I N bs s < M := by
  obtain ⟨_, h1, _, h3, _, h5⟩ := h
  have e : tFree X 33 s N = nI M - nI (cc I N bs s) := by
    rw [tFree_cnt, h1]
    unfold cc
    rw [cnt_12 h12]
    congr 2
    refine cnt_congr (fun q hq => ?_)
    rw [h3 q hq, h5 q (by omega)]
  have := free_pos M hM (cc I N bs s) cc_le
  rw [e]
  apply propext
  by_cases h9 : 0 < nI M - nI (cc I N bs s)
  · rw [if_pos h9]
    constructor
    · intro h8
      exact absurd h9 (Int32.not_lt.mpr h8)
    · intro h8
      exact absurd (this.mp h9) h8
  · rw [if_neg h9]
    exact ⟨fun _ h8 => h9 (this.mpr h8), fun _ => by decide⟩
theorem n_firstWithPlace {M p : Nat} {bs : Nat → Int32} (hW : WT I 16 N S U) (h : drf X I N M bs) (hM : M < 10) (hp : p < N) (d : Nat) : zcall (d + 1) 230 [.ref 3, .int (nI p)] (mk n m g X J) = some (some (.int (fw I N M bs p)), mk n m g X J) := by
  have h12 := hW.h12
  have hp12 : p < 12 := by omega
  obtain ⟨K, hK, eK⟩ := hW.likes p hp
  have ek : pK I 16 p = K := by
    unfold pK
    rw [eK, nI_clamp (by omega)]
  have e7 : X (16 + 7) p = I (16 + 7) p := by rw [h.1 7 (by decide)]
  have e12 : X (16 + 12) p = nI K := by rw [h.1 12 (by decide)]; exact eK
  have hfree : ∀ s, zcall d 93 [.ref 33, .int s] (mk n m g X J) = some (some (.int (if 0 < tFree X 33 s N then tFree X 33 s N else 0)), mk n m g X J) := fun s => t_free t33 h.2.2.1 h12 d
  have hl : ∀ f k (y : Option Int32), k + f = K → zexec (d + 1) 230 30 [some (.ref 3), some (.int (nI p)), some (.int (I (16 + 7) p)), some (.int (nI k)), y.map Value.int] [] (mk n m g X J) = some (some (.int (fwL I N M bs p k f)), mk n m g X J) := by
    intro f
    induction f with
    | zero =>
      intro k y hk
      rw [e_X11_firstWithPlace_30]
      simp only [e_X11_firstWithPlace_31, e_X11_firstWithPlace_32, e_X11_firstWithPlace_35, e_X11_firstWithPlace_38, e_X11_firstWithPlace_39, e_X11_firstWithPlace_40, e_X11_firstWithPlace_75, e_X11_firstWithPlace_76, g_3_7, g_T0_17 t16, l_T12 t16 hp12, e12, if_pos (nI_le (show K ≤ k by omega) (by omega : k < 2 ^ 31)), zclr_map, Option.bind_some, Option.isSome_some, Option.toList, List.cons_append, List.nil_append, zclr_i, zclr_r, zclr_n, zfit_i, zfit_l, and_self, if_true, if_false]
      rfl
    | succ f ih =>
      intro k y hk
      have e13 : X (16 + 13) (p * 6 + k) = I (16 + 13) (p * 6 + k) := by rw [h.1 13 (by decide)]
      have hih : zexec (d + 1) 230 30 [some (.ref 3), some (.int (nI p)), some (.int (I (16 + 7) p)), some (.int (nI (k + 1))), some (.int (I (16 + 13) (p * 6 + k)))] [] (mk n m g X J) = some (some (.int (fwL I N M bs p (k + 1) f)), mk n m g X J) := ih (k + 1) (some (I (16 + 13) (p * 6 + k))) (by omega)
      rw [e_X11_firstWithPlace_30, fwL]
      simp only [e_X11_firstWithPlace_31, e_X11_firstWithPlace_32, e_X11_firstWithPlace_35, e_X11_firstWithPlace_38, e_X11_firstWithPlace_39, e_X11_firstWithPlace_40, e_X11_firstWithPlace_43, e_X11_firstWithPlace_44, e_X11_firstWithPlace_47, e_X11_firstWithPlace_48, e_X11_firstWithPlace_49, e_X11_firstWithPlace_52, e_X11_firstWithPlace_54, e_X11_firstWithPlace_55, e_X11_firstWithPlace_58, e_X11_firstWithPlace_60, e_X11_firstWithPlace_63, e_X11_firstWithPlace_66, e_X11_firstWithPlace_68, e_X11_firstWithPlace_69, e_X11_firstWithPlace_72, c_T0 t16, c_T0 t33, g_3_7, g_3_8, g_T0_17 t16, l_T12 t16 hp12, e12, if_neg (nI_ge (show k < K by omega) (by omega : K < 2 ^ 31)), t_likedAt t16 (show p * 6 + k < 72 by omega), e13, hfree, drf_free h h12 hM, nI_1, hih, zclr_map, Option.bind_some, Option.isSome_some, Option.toList, List.cons_append, List.nil_append, zclr_i, zclr_r, zclr_n, zfit_i, zfit_l, and_self, if_true, if_false]
      by_cases e : cc I N bs (I (16 + 13) (p * 6 + k)) < M <;> simp [e]
  have hl0 : zexec (d + 1) 230 30 [some (.ref 3), some (.int (nI p)), some (.int (I (16 + 7) p)), some (.int 0), none] [] (mk n m g X J) = some (some (.int (fwL I N M bs p 0 K)), mk n m g X J) := hl K 0 none (by omega)
  rw [m_X11_firstWithPlace]
  unfold fw
  rw [ek]
  simp only [e_X11_firstWithPlace_0, e_X11_firstWithPlace_1, e_X11_firstWithPlace_4, e_X11_firstWithPlace_7, e_X11_firstWithPlace_8, e_X11_firstWithPlace_9, e_X11_firstWithPlace_10, e_X11_firstWithPlace_11, e_X11_firstWithPlace_12, e_X11_firstWithPlace_15, e_X11_firstWithPlace_16, e_X11_firstWithPlace_19, e_X11_firstWithPlace_20, e_X11_firstWithPlace_23, e_X11_firstWithPlace_26, e_X11_firstWithPlace_27, e_X11_firstWithPlace_28, e_X11_firstWithPlace_29, c_T0 t33, g_3_7, g_3_8, g_T0_12 t16, l_T7 t16 hp12, e7, hfree, drf_free h h12 hM, hl0, zclr_map, Option.bind_some, Option.isSome_some, Option.toList, List.cons_append, List.nil_append, zclr_i, zclr_r, zclr_n, zfit_i, zfit_l, and_self, if_true, if_false]
  by_cases e1 : I (16 + 7) p = -1
  · simp [e1]
  · by_cases e2 : cc I N bs (I (16 + 7) p) < M <;> simp [e1, e2]
theorem eld_some {r : Nat} (hr : r < 4096) (h12 : N ≤ 12) (h0 : r ≠ 0) (hs : ∀ q, r.testBit q = true → q < N) : ∃ e, zfor (tEld A b (nI r)) 0 N none = some e ∧ r.testBit e = true := by
  have hz := zfor_inv (f := tEld A b (nI r)) (P := fun p a => p ≤ 12 → (∀ e, a = some e → r.testBit e = true) ∧ (a = none → ∀ q, q < p → r.testBit q = false)) ?_ N 0 none (fun _ => ⟨fun e h => (by cases h), fun _ q hq => (by omega)⟩)
  · obtain ⟨h1, h2⟩ := hz (by omega)
    cases hf : zfor (tEld A b (nI r)) 0 N none with
    | some e => exact ⟨e, rfl, h1 e hf⟩
    | none =>
      exfalso
      apply h0
      refine Nat.eq_of_testBit_eq (fun q => ?_)
      rw [Nat.zero_testBit]
      cases e : r.testBit q
      · rfl
      · have := h2 hf q (by have := hs q e; omega)
        rw [e] at this
        exact absurd this (by decide)
  · intro p a ih hp
    obtain ⟨h1, h2⟩ := ih (by omega)
    unfold tEld
    rw [bit_isS (isS_nI hr) (show p < 12 by omega)]
    cases hb : r.testBit p
    · simp only [Bool.false_eq_true, if_false, if_true]
      refine ⟨h1, fun ha q hq => ?_⟩
      by_cases e : q = p
      · rw [e]; exact hb
      · exact h2 ha q (by omega)
    · simp only [if_true, show ((1 : Int32) = 0) = False by decide, if_false]
      cases a with
      | none => exact ⟨fun e h => by rw [← Option.some.inj h]; exact hb, fun h => by cases h⟩
      | some q =>
        refine ⟨fun e h => ?_, fun h => ?_⟩
        · dsimp only at h
          split at h
          · rw [← Option.some.inj h]; exact hb
          · rw [← Option.some.inj h]; exact h1 q rfl
        · dsimp only at h
          split at h <;> cases h
def eld (I : Nat → Nat → Int32) (N r : Nat) : Nat := (zfor (tEld I 16 (nI r)) 0 N none).getD 0
/-- the count, one after the other -/
def rcn (I : Nat → Nat → Int32) (N M : Nat) : Nat → Nat → (Nat → Int32) → Nat → Int32
  | 0, _, bs => bs
  | f + 1, r, bs => if r = 0 then bs else rcn I N M f (rm r (eld I N r)) (fu bs (eld I N r) (fw I N M bs (eld I N r)))
theorem drf_set {M p : Nat} {bs : Nat → Int32} {x : Int32} (h : drf X I N M bs) : drf (zu X (33 + 7) p x) I N M (fu bs p x) := by
  obtain ⟨h0, h1, h2, h3, h4, h5⟩ := h
  refine ⟨fun i hi => by rw [zu_far _ _ _ (by omega)]; exact h0 i hi, by rw [zu_far _ _ _ (by decide)]; exact h1, by rw [zu_far _ _ _ (by decide)]; exact h2, fun q hq => by rw [zu_far _ _ _ (by decide)]; exact h3 q hq, fun q hq => by rw [zu_far _ _ _ (by decide)]; exact h4 q hq, fun q hq => ?_⟩
  rw [zu_row]
  by_cases e : q = p
  · rw [if_pos e, e, fu_eq]
  · rw [if_neg e, fu_ne _ _ e]
    exact h5 q hq
theorem tEld_lt {s : Int32} {p : Nat} {a : Option Nat} {e : Nat} (h : tEld A b s p a = some e) : e = p ∨ a = some e := by
  unfold tEld at h
  split at h
  · exact .inr h
  · cases a with
    | none => exact .inl (Option.some.inj h).symm
    | some q =>
      dsimp only at h
      split at h
      · exact .inl (Option.some.inj h).symm
      · exact .inr h
theorem tEld_same {c : Nat} {s : Int32} {p : Nat} {a : Option Nat} (hp : X (c + 5) p = A (b + 5) p) (ha : ∀ e, a = some e → X (c + 5) e = A (b + 5) e) : tEld X c s p a = tEld A b s p a := by
  unfold tEld
  cases a with
  | none => rfl
  | some q =>
    dsimp only
    rw [hp, ha q rfl]
theorem eld_same {c : Nat} {s : Int32} (h : ∀ p, p < N → X (c + 5) p = A (b + 5) p) : ∀ k p (a : Option Nat), p + k = N → (∀ e, a = some e → e < N) → zfor (tEld X c s) p k a = zfor (tEld A b s) p k a
  | 0, _, _, _, _ => by rw [zfor, zfor]
  | k + 1, p, a, hp, ha => by
    rw [zfor, zfor, tEld_same (h p (by omega)) (fun e he => h e (ha e he))]
    refine eld_same h k (p + 1) _ (by omega) (fun e he => ?_)
    rcases tEld_lt he with h1 | h1
    · omega
    · exact ha e h1
theorem eld_draft {M r : Nat} {bs : Nat → Int32} (h : drf X I N M bs) (hr : r < 4096) (h12 : N ≤ 12) (h0 : r ≠ 0) (hs : ∀ q, r.testBit q = true → q < N) : zfor (tEld X 33 (nI r)) 0 N none = some (eld I N r) ∧ r.testBit (eld I N r) = true ∧ zfor (tEld I 16 (nI r)) 0 N none = some (eld I N r) := by
  obtain ⟨e, h1, h2⟩ := eld_some (A := I) (b := 16) hr h12 h0 hs
  have he : eld I N r = e := by
    unfold eld
    rw [h1]
    rfl
  have hz : zfor (tEld X 33 (nI r)) 0 N none = zfor (tEld I 16 (nI r)) 0 N none := eld_same h.2.2.2.2.1 N 0 none (by omega) (fun e h => (by cases h))
  rw [hz, he]
  exact ⟨h1, h2, h1⟩
/-- the class's loop -/
theorem rc_class {M : Nat} (hW : WT I 16 N S U) (hM : M < 10) (d : Nat) : ∀ f k r (bs : Nat → Int32) (X : Nat → Nat → Int32) (y : Option Int32), k + f = 12 → r < 4096 → (∀ q, r.testBit q = true → q < N) → drf X I N M bs → ∃ (v : Int32) (X' : Nat → Nat → Int32) (k' : Int32) (y' : Option Int32), zexec (d + 3) 209 53 [some (.ref 3), some (.int (nI M)), some (.int (nI r)), some (.int (nI k)), y.map Value.int] [] (mk n m g X J) = zexec (d + 3) 209 104 [some (.ref 3), some (.int (nI M)), some (.int v), some (.int k'), y'.map Value.int] [] (mk n m g X' J) ∧ drf X' I N M (rcn I N M f r bs) ∧ ∀ a, a ≠ 33 + 7 → X' a = X a := by
  have h12 := hW.h12
  intro f
  induction f with
  | zero =>
    intro k r bs X y hk hr hs hd
    have : k = 12 := by omega
    subst this
    refine ⟨nI r, X, nI 12, y, ?_, hd, fun _ _ => rfl⟩
    rw [e_X11_recount_53]
    simp only [e_X11_recount_54, e_X11_recount_56, e_X11_recount_59, e_X11_recount_60, if_pos (show (12 : Int32) ≤ nI 12 by decide), zclr_map, Option.bind_some, Option.isSome_some, Option.toList, List.cons_append, List.nil_append, zclr_i, zclr_r, zclr_n, zfit_i, zfit_l, and_self, if_true, if_false]
  | succ f ih =>
    intro k r bs X y hk hr hs hd
    have hk12 : ¬ (12 : Int32) ≤ nI k := nI_ge (b := 12) (by omega) (by decide)
    rw [rcn]
    by_cases h0 : r = 0
    · rw [if_pos h0]
      refine ⟨nI r, X, nI k, y, ?_, hd, fun _ _ => rfl⟩
      rw [e_X11_recount_53, h0]
      simp only [e_X11_recount_54, e_X11_recount_56, e_X11_recount_59, e_X11_recount_60, if_neg hk12, show (nI 0 = 0) = True by decide, zclr_map, Option.bind_some, Option.isSome_some, Option.toList, List.cons_append, List.nil_append, zclr_i, zclr_r, zclr_n, zfit_i, zfit_l, and_self, if_true, if_false]
    · rw [if_neg h0]
      obtain ⟨e1, e2, _⟩ := eld_draft hd hr h12 h0 hs
      have heN := hs _ e2
      have he12 : eld I N r < 12 := by omega
      have hne : ¬ nI r = 0 := fun h => h0 (nI_inj (by omega) (by decide) h)
      have hel : zcall (d + 2) 97 [.ref 33, .int (nI r)] (mk n m g X J) = some (some (.int (oI (some (eld I N r)))), mk n m g X J) := by
        rw [t_eldest t33 hd.2.2.1 h12, e1]
      have hrm : nI r &&& (1 <<< (nI (eld I N r) &&& 31) ^^^ -1) = nI (rm r (eld I N r)) := rm_nI hr he12
      have hfw := n_firstWithPlace (n := n) (m := m) (g := g) (J := J) hW hd hM heN (d + 1)
      obtain ⟨v, X', k', y', e3, e4, e5⟩ := ih (k + 1) (rm r (eld I N r)) (fu bs (eld I N r) (fw I N M bs (eld I N r))) (zu X (33 + 7) (eld I N r) (fw I N M bs (eld I N r))) (some (nI (eld I N r))) (by omega) (Nat.lt_of_le_of_lt (rm_le _ _) hr) (fun q hq => by
        rw [rm_bit hr he12] at hq
        simp at hq
        exact hs q hq.1) (drf_set hd)
      refine ⟨v, X', k', y', ?_, e4, fun a ha => by rw [e5 a ha, zu_far _ _ _ ha]⟩
      rw [← e3, e_X11_recount_53]
      simp only [e_X11_recount_54, e_X11_recount_56, e_X11_recount_59, e_X11_recount_60, e_X11_recount_63, e_X11_recount_64, e_X11_recount_67, e_X11_recount_68, e_X11_recount_71, e_X11_recount_73, e_X11_recount_74, e_X11_recount_75, e_X11_recount_77, e_X11_recount_78, e_X11_recount_79, e_X11_recount_80, e_X11_recount_81, e_X11_recount_82, e_X11_recount_83, e_X11_recount_86, e_X11_recount_89, e_X11_recount_91, e_X11_recount_92, e_X11_recount_94, e_X11_recount_97, e_X11_recount_98, e_X11_recount_101, c_3, c_T0 t33, g_3_8, g_T0_12 t33, if_neg hk12, hne, hel, oI, hrm, hfw, nI_neg (show eld I N r < 2 ^ 31 by omega), nI_clamp (show eld I N r < 2 ^ 31 by omega), k_T7 t33 he12, q_T7 t33, nI_1, zclr_map, Option.bind_some, Option.isSome_some, Option.toList, List.cons_append, List.nil_append, zclr_i, zclr_r, zclr_n, zfit_i, zfit_l, and_self, if_true, if_false]
      rfl
end RC
