/-! WHAT IS MADE: the reader -/
section PKS
variable {g : Nat → zC} {ps : List zC} {m a : Nat}
def readerL (a : Nat) (f : Nat → Int64) : List zC := [.inr (4, [.ref (a + 1), .ref (a + 2), .int 0, .int 0, .int 0, .int 0, .int 0, .int 0, .long 0, .int 0, .int (-1), .int (-1)]), .inl (.long, 27, .inr (.inl f)), .inl (.byte, 0, .inl (fun _ => 0))]
def rdr : Nat → Nat × Int64 × (Nat → Int64)
  | 0 => (0, 0, fun _ => 0)
  | i + 1 => if zby.getD i 0 = 32 then ((rdr i).1 + 1, 0, vp_updL (rdr i).2.2 (rdr i).1 (rdr i).2.1) else ((rdr i).1, (rdr i).2.1 * 32 + (zby.getD i 0 - 97 + 1).toInt64, (rdr i).2.2)
def rdk : Nat → Nat
  | 0 => 0
  | i + 1 => if zby.getD i 0 = 32 then rdk i + 1 else rdk i
theorem rdk_eq : ∀ i, (rdr i).1 = rdk i
  | 0 => rfl
  | i + 1 => by
    rw [rdr, rdk, ← rdk_eq i]
    split <;> rfl
theorem rdk_all : ∀ i, i < 138 → rdk i < 27 := by decide +kernel
def resF : Nat → Int64 := (rdr 138).2.2
theorem resF_all : ∀ k, k < 27 → resF k = (resL[k]?).getD 0 := by decide +kernel
def rd5 (i : Nat) : Option Value := if i = 0 then none else some (.int (zby.getD (i - 1) 0))
set_option maxHeartbeats 4000000 in
theorem i_Reader (h1 : g 1 = .inr (13, [.ref 2, .int 0])) (h2 : g 2 = .inl (.char, 138, .inl (fun j => zby.getD j 0))) (ha : 3 + ps.length = a) (d : Nat) : zcall (d + 5) 43 [.ref a] (PH g (ps ++ [.inr (4, zdef 4)]) m) = some (none, PH g (ps ++ readerL a resF) (m + 27)) := by
  have ht : ∀ cs M, hasText (PH g cs M) := fun cs M => ⟨(ph_low (by decide)).trans h1, (ph_low (by decide)).trans h2⟩
  have c1 : ∀ cs M, zcls (PH g cs M) 1 = 13 := fun cs M => by simp [zcls, (ht cs M).1]
  have q : ∀ (f : Nat → Int64) k y M, zql (PH g (ps ++ readerL a f) M) (a + 1) k y = PH g (ps ++ readerL a (vp_updL f k y)) M := fun f k y M => ph_ql (i := 1) ha (show 1 < 3 by decide) rfl
  have lg : ∀ (f : Nat → Int64) k M, k < 27 → zlg (PH g (ps ++ readerL a f) M) (a + 1) k = some (f k) := fun f k M hk => ph_lg (i := 1) ha rfl hk
  have gr : ∀ (f : Nat → Int64) M, zgf (PH g (ps ++ readerL a f) M) a 4 0 = some (.ref (a + 1)) := fun f M => (ph_gf0 ha).trans rfl
  have st : ∀ M i, i < 138 → zexec (d + 5) 43 36 [some (.ref a), some (.int (nI (rdr i).1)), some (.long (rdr i).2.1), none, some (.int (nI i)), rd5 i] [] (PH g (ps ++ readerL a (rdr i).2.2) M) = zexec (d + 5) 43 36 [some (.ref a), some (.int (nI (rdr (i + 1)).1)), some (.long (rdr (i + 1)).2.1), none, some (.int (nI (i + 1))), rd5 (i + 1)] [] (PH g (ps ++ readerL a (rdr (i + 1)).2.2) M) := fun M i hi => by
    have hk : (rdr i).1 < 27 := by rw [rdk_eq]; exact rdk_all i hi
    have r5 : rd5 (i + 1) = some (.int (zby.getD i 0)) := rfl
    rw [e_X4_init_36, r5, rdr]
    by_cases hc : zby.getD i 0 = 32
    · simp only [e_X4_init_38, e_X4_init_40, e_X4_init_43, e_X4_init_46, e_X4_init_47, e_X4_init_49, e_X4_init_52, e_X4_init_54, e_X4_init_56, e_X4_init_59, e_X4_init_61, e_X4_init_63, e_X4_init_65, e_X4_init_68, e_X4_init_69, e_X4_init_72, e_X4_init_73, e_X4_init_74, e_X4_init_75, e_X4_init_76, e_X4_init_77, e_X4_init_80, e_X4_init_83, e_X4_init_84, e_X4_init_87, e_X4_init_88, e_X4_init_90, e_X4_init_92, e_X4_init_93, e_X4_init_94, e_X4_init_95, e_X4_init_96, e_X4_init_97, e_X4_init_98, e_X4_init_101, c1, j_length (ht _ _), j_charAt (ht _ _) hi, eq_false (show ¬ (138 : Int32) ≤ nI i from nI_ge (b := 138) hi (by decide)), eq_false (show ¬ (27 : Int32) ≤ nI (rdr i).1 from nI_ge (b := 27) hk (by decide)), hc, gr, nI_neg (show (rdr i).1 < 2 ^ 31 by omega), nI_clamp (show (rdr i).1 < 2 ^ 31 by omega), lg _ _ _ hk, q, nI_1, zclr_l, Option.bind_some, Option.isSome_some, Option.toList, List.cons_append, List.nil_append, zclr_i, zclr_r, zclr_n, zfit_i, zfit_l, and_self, if_true, if_false]
    · simp only [e_X4_init_38, e_X4_init_40, e_X4_init_43, e_X4_init_46, e_X4_init_47, e_X4_init_49, e_X4_init_52, e_X4_init_54, e_X4_init_56, e_X4_init_59, e_X4_init_61, e_X4_init_63, e_X4_init_65, e_X4_init_68, e_X4_init_69, e_X4_init_72, e_X4_init_73, e_X4_init_74, e_X4_init_75, e_X4_init_76, e_X4_init_77, e_X4_init_80, e_X4_init_83, e_X4_init_84, e_X4_init_87, e_X4_init_88, e_X4_init_90, e_X4_init_92, e_X4_init_93, e_X4_init_94, e_X4_init_95, e_X4_init_96, e_X4_init_97, e_X4_init_98, e_X4_init_101, c1, j_length (ht _ _), j_charAt (ht _ _) hi, eq_false (show ¬ (138 : Int32) ≤ nI i from nI_ge (b := 138) hi (by decide)), eq_false (show ¬ (27 : Int32) ≤ nI (rdr i).1 from nI_ge (b := 27) hk (by decide)), hc, nI_1, zclr_l, Option.bind_some, Option.isSome_some, Option.toList, List.cons_append, List.nil_append, zclr_i, zclr_r, zclr_n, zfit_i, zfit_l, and_self, if_true, if_false]
  have hl := fun M => zsteps (fun i => zexec (d + 5) 43 36 [some (.ref a), some (.int (nI (rdr i).1)), some (.long (rdr i).2.1), none, some (.int (nI i)), rd5 i] [] (PH g (ps ++ readerL a (rdr i).2.2) M)) 138 (st M) 138 0 (by decide)
  have h0 := hl (m + 27)
  rw [m_X4_init, zdef_Reader]
  simp only [e_X4_init_0, e_X4_init_1, e_X4_init_4, e_X4_init_5, e_X4_init_7, e_X4_init_9, e_X4_init_12, e_X4_init_13, e_X4_init_14, e_X4_init_16, e_X4_init_19, e_X4_init_20, e_X4_init_21, e_X4_init_24, e_X4_init_25, e_X4_init_26, e_X4_init_29, e_X4_init_30, e_X4_init_31, e_X4_init_32, e_X4_init_33, e_X4_init_34, ph_1 ha, ph_newi2, ph_newl2, ph_gf0 ha, ph_pf0 ha, cgf, List.set, List.getElem?_cons_zero, List.getElem?_cons_succ, List.length_cons, List.length_nil, Nat.zero_add, Nat.reduceAdd, Nat.add_assoc, eq_self, show zsz 27 = true by decide, show zsz 0 = true by decide, show (27 : Int32).toNatClampNeg = 27 by decide, show (0 : Int32).toNatClampNeg = 0 by decide, show ∀ x, zfit (zfT 4 0) (.ref x) = true from fun _ => rfl, show ∀ x, zfit (zfT 4 1) (.ref x) = true from fun _ => rfl, Option.bind_some, Option.isSome_some, Option.toList, List.cons_append, List.nil_append, zclr_i, zclr_r, zclr_n, zfit_i, zfit_l, and_self, if_true, if_false]
  refine (show _ = _ from h0).trans ?_
  show zexec (d + 5) 43 36 [some (.ref a), some (.int (nI (rdr 138).1)), some (.long (rdr 138).2.1), none, some (.int (nI 138)), rd5 138] [] (PH g (ps ++ readerL a (rdr 138).2.2) (m + 27)) = _
  rw [e_X4_init_36]
  simp only [e_X4_init_38, e_X4_init_40, e_X4_init_43, e_X4_init_104, c1, j_length (ht _ _), if_pos (show (138 : Int32) ≤ nI 138 by decide), Option.bind_some, Option.isSome_some, Option.toList, List.cons_append, List.nil_append, zclr_i, zclr_r, zclr_n, zfit_i, zfit_l, and_self, if_true, if_false]
  rfl
end PKS
