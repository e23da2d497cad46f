/-! THE READER: signs, and the next token -/
section RF
variable {n m : Nat} {g : Nat → zC} {I : Nat → Nat → Int32} {J : Nat → Nat → Int64}
def toC (x : Int32) : Int32 := (x.toUInt32 % 65536).toInt32
theorem zfit_c (x : Int32) : zfit .char (.int (toC x)) = true := by
  show ((toC x).toUInt32 % 65536).toInt32 == toC x
  rw [beq_iff_eq]
  have h : (x.toUInt32 % 65536) % 65536 = x.toUInt32 % 65536 := by
    apply UInt32.toNat.inj
    simp [UInt32.toNat_mod]
  exact congrArg UInt32.toInt32 h
def dSgn (x : Int32) : Int32 := if x = 59 ∨ x = 60 ∨ x = 62 ∨ x = 61 then 4 else 1
def dSign (I : Nat → Nat → Int32) (p : Nat) : Nat → Nat → Int32 := zu (zu (zu I 13 7 (toC (I 12 p &&& 255))) 13 5 (dSgn (toC (I 12 p &&& 255)))) 13 3 (nI (p + 1))
theorem d_readSign {p : Nat} (ht : I 13 1 = nI 12) (hp : I 13 4 = nI p) (h900 : p < 900) (d : Nat) : zcall d 49 [.ref 13] (mk n m g I J) = some (none, mk n m g (dSign I p) J) := by
  rw [m_X4_readSign]
  have hc : ∀ x : Int32, (x.toUInt32 % 65536).toInt32 = toC x := fun _ => rfl
  have h4 : ∀ x y, (zu (zu I 13 7 x) 13 5 y) 13 4 = nI p := fun x y => by rw [zu_row, if_neg (by decide), zu_row, if_neg (by decide)]; exact hp
  have h7 : ∀ x, (zu I 13 7 x) 13 7 = x := fun x => by rw [zu_row, if_pos rfl]
  simp only [e_X4_readSign_0, e_X4_readSign_1, e_X4_readSign_2, e_X4_readSign_5, e_X4_readSign_6, e_X4_readSign_9, e_X4_readSign_10, e_X4_readSign_13, e_X4_readSign_14, e_X4_readSign_15, e_X4_readSign_18, e_X4_readSign_19, e_X4_readSign_20, e_X4_readSign_23, e_X4_readSign_25, e_X4_readSign_28, e_X4_readSign_29, e_X4_readSign_32, e_X4_readSign_34, e_X4_readSign_37, e_X4_readSign_38, e_X4_readSign_41, e_X4_readSign_43, e_X4_readSign_46, e_X4_readSign_47, e_X4_readSign_50, e_X4_readSign_52, e_X4_readSign_55, e_X4_readSign_56, e_X4_readSign_59, e_X4_readSign_60, e_X4_readSign_63, e_X4_readSign_64, e_X4_readSign_65, e_X4_readSign_68, e_X4_readSign_69, e_X4_readSign_70, e_X4_readSign_73, g_13_1, g_13_3, g_13_4, g_13_5, g_13_7, p_13_3, p_13_5, p_13_7, ht, hp, h4, h7, nI_clamp (show 12 < 2 ^ 31 by decide), l_12 h900, hc, zfit_c, nI_1, Option.bind_some, Option.isSome_some, Option.toList, List.cons_append, List.nil_append, zclr_i, zclr_r, zclr_n, zfit_i, zfit_l, and_self, if_true, if_false]
  unfold dSign dSgn
  generalize toC (I 12 p &&& 255) = v
  by_cases h59 : v = 59
  · simp [h59]
  by_cases h60 : v = 60
  · simp [h60]
  by_cases h62 : v = 62
  · simp [h62]
  by_cases h61 : v = 61
  · simp [h61]
  simp [h59, h60, h61, h62]
def dSkip (I : Nat → Nat → Int32) : Nat → Nat → Nat
  | p, 0 => p
  | p, f + 1 => if I 12 p = 32 ∨ I 12 p = 10 then dSkip I (p + 1) f else p
theorem dSkip_le : ∀ f p, p ≤ dSkip I p f ∧ dSkip I p f ≤ p + f
  | 0, _ => ⟨Nat.le_refl _, Nat.le_refl _⟩
  | f + 1, p => by
    rw [dSkip]
    split
    · have := dSkip_le f (p + 1)
      exact ⟨by omega, by omega⟩
    · exact ⟨Nat.le_refl _, by omega⟩
/-- at the next token -/
def dAt (I : Nat → Nat → Int32) (q : Nat) : Nat → Nat → Int32 := zu (zu (zu I 13 3 (nI q)) 13 4 (nI q)) 13 9 (-1)
theorem d_skip {L : Nat} (ht : I 13 1 = nI 12) (hL : I 13 2 = nI L) (h900 : L ≤ 900) (d : Nat) : ∀ f p, p + f = L → zexec d 45 0 [some (.ref 13), none, none] [] (mk n m g (zu I 13 3 (nI p)) J) = zexec d 45 65 [some (.ref 13), none, none] [] (mk n m g (dAt I (dSkip I p f)) J) := by
  have h1 : ∀ p, (zu I 13 3 (nI p)) 13 1 = nI 12 := fun p => by rw [zu_row, if_neg (by decide)]; exact ht
  have h2 : ∀ p, (zu I 13 3 (nI p)) 13 2 = nI L := fun p => by rw [zu_row, if_neg (by decide)]; exact hL
  have h3 : ∀ p, (zu I 13 3 (nI p)) 13 3 = nI p := fun p => by rw [zu_row, if_pos rfl]
  have h12 : ∀ p, (zu I 13 3 (nI p)) 12 = I 12 := fun p => zu_far _ _ _ (by decide)
  have hend : ∀ p, zexec d 45 52 [some (.ref 13), none, none] [] (mk n m g (zu I 13 3 (nI p)) J) = zexec d 45 65 [some (.ref 13), none, none] [] (mk n m g (dAt I p) J) := fun p => by
    simp only [e_X4_advance_52, e_X4_advance_53, e_X4_advance_54, e_X4_advance_57, e_X4_advance_60, e_X4_advance_61, e_X4_advance_62, g_13_3, g_13_4, g_13_9, p_13_4, p_13_9, h3, Option.bind_some, Option.isSome_some, Option.toList, List.cons_append, List.nil_append, zclr_i, zclr_r, zclr_n, zfit_i, zfit_l, and_self, if_true, if_false]
    rfl
  intro f
  induction f with
  | zero =>
    intro p hp
    rw [e_X4_advance_0]
    simp only [e_X4_advance_1, e_X4_advance_4, e_X4_advance_5, e_X4_advance_8, e_X4_advance_11, e_X4_advance_12, e_X4_advance_15, e_X4_advance_16, e_X4_advance_19, e_X4_advance_20, e_X4_advance_22, e_X4_advance_25, e_X4_advance_26, e_X4_advance_29, e_X4_advance_30, e_X4_advance_33, e_X4_advance_34, e_X4_advance_36, e_X4_advance_39, e_X4_advance_40, e_X4_advance_41, e_X4_advance_44, e_X4_advance_45, e_X4_advance_46, e_X4_advance_49, g_13_2, g_13_3, h2, h3, if_pos (nI_le (show L ≤ p by omega) (by omega : p < 2 ^ 31)), hend, Option.bind_some, Option.isSome_some, Option.toList, List.cons_append, List.nil_append, zclr_i, zclr_r, zclr_n, zfit_i, zfit_l, and_self, if_true, if_false]
    rfl
  | succ f ih =>
    intro p hp
    rw [e_X4_advance_0, dSkip]
    simp only [e_X4_advance_1, e_X4_advance_4, e_X4_advance_5, e_X4_advance_8, e_X4_advance_11, e_X4_advance_12, e_X4_advance_15, e_X4_advance_16, e_X4_advance_19, e_X4_advance_20, e_X4_advance_22, e_X4_advance_25, e_X4_advance_26, e_X4_advance_29, e_X4_advance_30, e_X4_advance_33, e_X4_advance_34, e_X4_advance_36, e_X4_advance_39, e_X4_advance_40, e_X4_advance_41, e_X4_advance_44, e_X4_advance_45, e_X4_advance_46, e_X4_advance_49, g_13_1, g_13_2, g_13_3, p_13_3, h1, h2, h3, h12, nI_clamp (show 12 < 2 ^ 31 by decide), l_12 (show p < 900 by omega), if_neg (nI_ge (show p < L by omega) (by omega : L < 2 ^ 31)), zu_zu, nI_1, ih (p + 1) (by omega), hend, Option.bind_some, Option.isSome_some, Option.toList, List.cons_append, List.nil_append, zclr_i, zclr_r, zclr_n, zfit_i, zfit_l, and_self, if_true, if_false]
    by_cases h4 : I 12 p = 32
    · simp [h4]
    by_cases h5 : I 12 p = 10
    · simp [h5]
    simp [h4, h5]
end RF
