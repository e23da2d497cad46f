/-! WHAT IS MADE: the class's own (written by wip/whole/gen_nn.py) -/
section PLS
variable {g : Nat → zC} {cs ps : List zC} {m i n k x : Nat} {f : Nat → Option Nat} {t : FieldType} {v : Option Value}
theorem ph_pa (hi : i < cs.length) (hc : cs[i]? = some (.inl (t, n, .inr (.inr (.inr (.inr f)))))) : zpa (PH g cs m) (3 + i) k x = PH g (cs.set i (.inl (t, n, .inr (.inr (.inr (.inr (va_up f k (some x)))))))) m := by
  have e : (PH g cs m).2.2 (3 + i) = .inl (t, n, .inr (.inr (.inr (.inr f)))) := by
    have := ph_at (g := g) (ps := []) (qs := cs) (m := m) (a := 3) (i := i) rfl
    rw [hc] at this
    exact this
  unfold zpa
  rw [e]
  exact ph_up (ps := []) (a := 3) rfl hi _
theorem zcN_7 : zcN 7 = "NineNames$Town" := by decide +kernel
theorem zcN_6 : zcN 6 = "NineNames$Script" := by decide +kernel
def tapeL : List zC := [.inl (.byte, 900, .inl (fun _ => 0))]
def atownL : List zC := [.inl (.object (zcN 7), 3, .inr (.inr (.inr (.inr (fun _ => none)))))]
def ascriptL : List zC := [.inl (.object (zcN 6), 3, .inr (.inr (.inr (.inr (fun _ => none)))))]
def cs_0 : List zC := [.inr (11, zdef 11)]
theorem nn_0 (d : Nat) : zexec (d + 20) 153 0 [some (.ref 3), v] [] (PH g cs_0 m) = zexec (d + 20) 153 9 [some (.ref 3), v] [] (PH g [.inr (11, [.int 0, .long 0, .long 1, .null, .null, .int 0, .null, .null, .null, .null, .null, .null, .null, .null, .null, .null, .null, .int 0])] m) := by
  have hf : zgf (PH g [.inr (11, [.int 0, .long 0, .long 0, .null, .null, .int 0, .null, .null, .null, .null, .null, .null, .null, .null, .null, .null, .null, .int 0])] m) 3 11 2 = some (.long 0) := (ph_gf0 (ps := []) (a := 3) rfl).trans rfl
  have hp : zpf (PH g [.inr (11, [.int 0, .long 0, .long 0, .null, .null, .int 0, .null, .null, .null, .null, .null, .null, .null, .null, .null, .null, .null, .int 0])] m) 3 2 (.long 1) = PH g [.inr (11, [.int 0, .long 0, .long 1, .null, .null, .int 0, .null, .null, .null, .null, .null, .null, .null, .null, .null, .null, .null, .int 0])] m := ph_pf0 (ps := []) (a := 3) rfl
  unfold cs_0
  rw [zdef_NineNames]
  simp only [e_X11_init_0, e_X11_init_1, e_X11_init_4, e_X11_init_5, e_X11_init_6, hf, hp, zfit_l, Option.bind_some, Option.isSome_some, Option.toList, List.cons_append, List.nil_append, zclr_i, zclr_r, zclr_n, zfit_i, zfit_l, and_self, if_true, if_false]
def R_1 : List zC := []
def cs_1 : List zC := .inr (11, [.int 0, .long 0, .long 1, .null, .null, .int 0, .null, .null, .null, .null, .null, .null, .null, .null, .null, .null, .null, .int 0]) :: R_1
def R_2 : List zC := R_1 ++ traysL 4
def cs_2 : List zC := .inr (11, [.int 0, .long 0, .long 1, .ref 4, .null, .int 0, .null, .null, .null, .null, .null, .null, .null, .null, .null, .null, .null, .int 0]) :: R_2
theorem nn_1 (d : Nat) : zexec (d + 20) 153 9 [some (.ref 3), v] [] (PH g cs_1 m) = zexec (d + 20) 153 20 [some (.ref 3), v] [] (PH g cs_2 (m + 255)) := by
  have len : 3 + cs_1.length = 4 := rfl
  have e1 : (PH g cs_1 m).1 = 4 := len
  have hf : ∀ M, zgf (PH g (cs_1 ++ traysL 4) M) 3 11 3 = some .null := fun M => (ph_gf0 (g := g) (m := M) (ci := 11) (k := 3) (ps := []) (a := 3) (c := .inr (11, [.int 0, .long 0, .long 1, .null, .null, .int 0, .null, .null, .null, .null, .null, .null, .null, .null, .null, .null, .null, .int 0])) (qs := R_1 ++ traysL 4) rfl).trans rfl
  have hp : ∀ M, zpf (PH g (cs_1 ++ traysL 4) M) 3 3 (.ref 4) = PH g cs_2 M := fun M => ph_pf0 (g := g) (m := M) (ps := []) (a := 3) (o := (11, [.int 0, .long 0, .long 1, .null, .null, .int 0, .null, .null, .null, .null, .null, .null, .null, .null, .null, .null, .null, .int 0])) (qs := (R_1 ++ traysL 4 : List zC)) (k := 3) (v := .ref 4) rfl
  have hn : znew (PH g cs_1 m) 9 = PH g (cs_1 ++ [.inr (9, zdef 9)]) (m + 3) := (ph_new (a := 4) len).trans (by rw [zfN_Trays])
  have hi := i_Trays (g := g) (ps := cs_1) (m := m + 3) len (d + 18)
  simp only [e_X11_init_9, e_X11_init_10, e_X11_init_13, e_X11_init_14, e_X11_init_17, hn, e1, hi, hf, hp, show ∀ x, zfit (zfT 11 3) (.ref x) = true from fun _ => rfl, Nat.add_assoc, Nat.reduceAdd, Option.bind_some, Option.isSome_some, Option.toList, List.cons_append, List.nil_append, zclr_i, zclr_r, zclr_n, zfit_i, zfit_l, and_self, if_true, if_false]
def R_3 : List zC := R_2 ++ tapeL
def cs_3 : List zC := .inr (11, [.int 0, .long 0, .long 1, .ref 4, .ref 12, .int 0, .null, .null, .null, .null, .null, .null, .null, .null, .null, .null, .null, .int 0]) :: R_3
theorem nn_2 (d : Nat) : zexec (d + 20) 153 20 [some (.ref 3), v] [] (PH g cs_2 m) = zexec (d + 20) 153 29 [some (.ref 3), v] [] (PH g cs_3 (m + 900)) := by
  have len : 3 + cs_2.length = 12 := rfl
  have e1 : (PH g cs_2 m).1 = 12 := len
  have hf : ∀ M, zgf (PH g (cs_2 ++ tapeL) M) 3 11 4 = some .null := fun M => (ph_gf0 (g := g) (m := M) (ci := 11) (k := 4) (ps := []) (a := 3) (c := .inr (11, [.int 0, .long 0, .long 1, .ref 4, .null, .int 0, .null, .null, .null, .null, .null, .null, .null, .null, .null, .null, .null, .int 0])) (qs := R_2 ++ tapeL) rfl).trans rfl
  have hp : ∀ M, zpf (PH g (cs_2 ++ tapeL) M) 3 4 (.ref 12) = PH g cs_3 M := fun M => ph_pf0 (g := g) (m := M) (ps := []) (a := 3) (o := (11, [.int 0, .long 0, .long 1, .ref 4, .null, .int 0, .null, .null, .null, .null, .null, .null, .null, .null, .null, .null, .null, .int 0])) (qs := (R_2 ++ tapeL : List zC)) (k := 4) (v := .ref 12) rfl
  have hn : znewi (PH g cs_2 m) .byte 900 = PH g (cs_2 ++ tapeL) (m + 900) := ph_newi (a := 12) len
  simp only [e_X11_init_20, e_X11_init_21, e_X11_init_24, e_X11_init_26, show zsz 900 = true by decide, show (900 : Int32).toNatClampNeg = 900 by decide, hn, e1, hf, hp, show ∀ x, zfit (zfT 11 4) (.ref x) = true from fun _ => rfl, Option.bind_some, Option.isSome_some, Option.toList, List.cons_append, List.nil_append, zclr_i, zclr_r, zclr_n, zfit_i, zfit_l, and_self, if_true, if_false]
def R_4 : List zC := R_3 ++ readerL 13 resF
def cs_4 : List zC := .inr (11, [.int 0, .long 0, .long 1, .ref 4, .ref 12, .int 0, .ref 13, .null, .null, .null, .null, .null, .null, .null, .null, .null, .null, .int 0]) :: R_4
theorem nn_3 (h1 : g 1 = .inr (13, [.ref 2, .int 0])) (h2 : g 2 = .inl (.char, 138, .inl (fun j => zby.getD j 0))) (d : Nat) : zexec (d + 20) 153 29 [some (.ref 3), v] [] (PH g cs_3 m) = zexec (d + 20) 153 40 [some (.ref 3), v] [] (PH g cs_4 (m + 39)) := by
  have len : 3 + cs_3.length = 13 := rfl
  have e1 : (PH g cs_3 m).1 = 13 := len
  have hf : ∀ M, zgf (PH g (cs_3 ++ readerL 13 resF) M) 3 11 6 = some .null := fun M => (ph_gf0 (g := g) (m := M) (ci := 11) (k := 6) (ps := []) (a := 3) (c := .inr (11, [.int 0, .long 0, .long 1, .ref 4, .ref 12, .int 0, .null, .null, .null, .null, .null, .null, .null, .null, .null, .null, .null, .int 0])) (qs := R_3 ++ readerL 13 resF) rfl).trans rfl
  have hp : ∀ M, zpf (PH g (cs_3 ++ readerL 13 resF) M) 3 6 (.ref 13) = PH g cs_4 M := fun M => ph_pf0 (g := g) (m := M) (ps := []) (a := 3) (o := (11, [.int 0, .long 0, .long 1, .ref 4, .ref 12, .int 0, .null, .null, .null, .null, .null, .null, .null, .null, .null, .null, .null, .int 0])) (qs := (R_3 ++ readerL 13 resF : List zC)) (k := 6) (v := .ref 13) rfl
  have hn : znew (PH g cs_3 m) 4 = PH g (cs_3 ++ [.inr (4, zdef 4)]) (m + 12) := (ph_new (a := 13) len).trans (by rw [zfN_Reader])
  have hi := i_Reader (ps := cs_3) (m := m + 12) h1 h2 len (d + 14)
  simp only [e_X11_init_29, e_X11_init_30, e_X11_init_33, e_X11_init_34, e_X11_init_37, hn, e1, hi, hf, hp, show ∀ x, zfit (zfT 11 6) (.ref x) = true from fun _ => rfl, Nat.add_assoc, Nat.reduceAdd, Option.bind_some, Option.isSome_some, Option.toList, List.cons_append, List.nil_append, zclr_i, zclr_r, zclr_n, zfit_i, zfit_l, and_self, if_true, if_false]
def R_5 : List zC := R_4 ++ townL 16
def cs_5 : List zC := .inr (11, [.int 0, .long 0, .long 1, .ref 4, .ref 12, .int 0, .ref 13, .ref 16, .null, .null, .null, .null, .null, .null, .null, .null, .null, .int 0]) :: R_5
theorem nn_4 (d : Nat) : zexec (d + 20) 153 40 [some (.ref 3), v] [] (PH g cs_4 m) = zexec (d + 20) 153 51 [some (.ref 3), v] [] (PH g cs_5 (m + 257)) := by
  have len : 3 + cs_4.length = 16 := rfl
  have e1 : (PH g cs_4 m).1 = 16 := len
  have hf : ∀ M, zgf (PH g (cs_4 ++ townL 16) M) 3 11 7 = some .null := fun M => (ph_gf0 (g := g) (m := M) (ci := 11) (k := 7) (ps := []) (a := 3) (c := .inr (11, [.int 0, .long 0, .long 1, .ref 4, .ref 12, .int 0, .ref 13, .null, .null, .null, .null, .null, .null, .null, .null, .null, .null, .int 0])) (qs := R_4 ++ townL 16) rfl).trans rfl
  have hp : ∀ M, zpf (PH g (cs_4 ++ townL 16) M) 3 7 (.ref 16) = PH g cs_5 M := fun M => ph_pf0 (g := g) (m := M) (ps := []) (a := 3) (o := (11, [.int 0, .long 0, .long 1, .ref 4, .ref 12, .int 0, .ref 13, .null, .null, .null, .null, .null, .null, .null, .null, .null, .null, .int 0])) (qs := (R_4 ++ townL 16 : List zC)) (k := 7) (v := .ref 16) rfl
  have hn : znew (PH g cs_4 m) 7 = PH g (cs_4 ++ [.inr (7, zdef 7)]) (m + 20) := (ph_new (a := 16) len).trans (by rw [zfN_Town])
  have hi := i_Town (g := g) (ps := cs_4) (m := m + 20) len (d + 18)
  simp only [e_X11_init_40, e_X11_init_41, e_X11_init_44, e_X11_init_45, e_X11_init_48, hn, e1, hi, hf, hp, show ∀ x, zfit (zfT 11 7) (.ref x) = true from fun _ => rfl, Nat.add_assoc, Nat.reduceAdd, Option.bind_some, Option.isSome_some, Option.toList, List.cons_append, List.nil_append, zclr_i, zclr_r, zclr_n, zfit_i, zfit_l, and_self, if_true, if_false]
def R_6 : List zC := R_5 ++ townL 33
def cs_6 : List zC := .inr (11, [.int 0, .long 0, .long 1, .ref 4, .ref 12, .int 0, .ref 13, .ref 16, .ref 33, .null, .null, .null, .null, .null, .null, .null, .null, .int 0]) :: R_6
theorem nn_5 (d : Nat) : zexec (d + 20) 153 51 [some (.ref 3), v] [] (PH g cs_5 m) = zexec (d + 20) 153 62 [some (.ref 3), v] [] (PH g cs_6 (m + 257)) := by
  have len : 3 + cs_5.length = 33 := rfl
  have e1 : (PH g cs_5 m).1 = 33 := len
  have hf : ∀ M, zgf (PH g (cs_5 ++ townL 33) M) 3 11 8 = some .null := fun M => (ph_gf0 (g := g) (m := M) (ci := 11) (k := 8) (ps := []) (a := 3) (c := .inr (11, [.int 0, .long 0, .long 1, .ref 4, .ref 12, .int 0, .ref 13, .ref 16, .null, .null, .null, .null, .null, .null, .null, .null, .null, .int 0])) (qs := R_5 ++ townL 33) rfl).trans rfl
  have hp : ∀ M, zpf (PH g (cs_5 ++ townL 33) M) 3 8 (.ref 33) = PH g cs_6 M := fun M => ph_pf0 (g := g) (m := M) (ps := []) (a := 3) (o := (11, [.int 0, .long 0, .long 1, .ref 4, .ref 12, .int 0, .ref 13, .ref 16, .null, .null, .null, .null, .null, .null, .null, .null, .null, .int 0])) (qs := (R_5 ++ townL 33 : List zC)) (k := 8) (v := .ref 33) rfl
  have hn : znew (PH g cs_5 m) 7 = PH g (cs_5 ++ [.inr (7, zdef 7)]) (m + 20) := (ph_new (a := 33) len).trans (by rw [zfN_Town])
  have hi := i_Town (g := g) (ps := cs_5) (m := m + 20) len (d + 18)
  simp only [e_X11_init_51, e_X11_init_52, e_X11_init_55, e_X11_init_56, e_X11_init_59, hn, e1, hi, hf, hp, show ∀ x, zfit (zfT 11 8) (.ref x) = true from fun _ => rfl, Nat.add_assoc, Nat.reduceAdd, Option.bind_some, Option.isSome_some, Option.toList, List.cons_append, List.nil_append, zclr_i, zclr_r, zclr_n, zfit_i, zfit_l, and_self, if_true, if_false]
def R_7 : List zC := R_6 ++ scriptL 50
def cs_7 : List zC := .inr (11, [.int 0, .long 0, .long 1, .ref 4, .ref 12, .int 0, .ref 13, .ref 16, .ref 33, .ref 50, .null, .null, .null, .null, .null, .null, .null, .int 0]) :: R_7
theorem nn_6 (d : Nat) : zexec (d + 20) 153 62 [some (.ref 3), v] [] (PH g cs_6 m) = zexec (d + 20) 153 73 [some (.ref 3), v] [] (PH g cs_7 (m + 308)) := by
  have len : 3 + cs_6.length = 50 := rfl
  have e1 : (PH g cs_6 m).1 = 50 := len
  have hf : ∀ M, zgf (PH g (cs_6 ++ scriptL 50) M) 3 11 9 = some .null := fun M => (ph_gf0 (g := g) (m := M) (ci := 11) (k := 9) (ps := []) (a := 3) (c := .inr (11, [.int 0, .long 0, .long 1, .ref 4, .ref 12, .int 0, .ref 13, .ref 16, .ref 33, .null, .null, .null, .null, .null, .null, .null, .null, .int 0])) (qs := R_6 ++ scriptL 50) rfl).trans rfl
  have hp : ∀ M, zpf (PH g (cs_6 ++ scriptL 50) M) 3 9 (.ref 50) = PH g cs_7 M := fun M => ph_pf0 (g := g) (m := M) (ps := []) (a := 3) (o := (11, [.int 0, .long 0, .long 1, .ref 4, .ref 12, .int 0, .ref 13, .ref 16, .ref 33, .null, .null, .null, .null, .null, .null, .null, .null, .int 0])) (qs := (R_6 ++ scriptL 50 : List zC)) (k := 9) (v := .ref 50) rfl
  have hn : znew (PH g cs_6 m) 6 = PH g (cs_6 ++ [.inr (6, zdef 6)]) (m + 8) := (ph_new (a := 50) len).trans (by rw [zfN_Script])
  have hi := i_Script (g := g) (ps := cs_6) (m := m + 8) len (d + 19)
  simp only [e_X11_init_62, e_X11_init_63, e_X11_init_66, e_X11_init_67, e_X11_init_70, hn, e1, hi, hf, hp, show ∀ x, zfit (zfT 11 9) (.ref x) = true from fun _ => rfl, Nat.add_assoc, Nat.reduceAdd, Option.bind_some, Option.isSome_some, Option.toList, List.cons_append, List.nil_append, zclr_i, zclr_r, zclr_n, zfit_i, zfit_l, and_self, if_true, if_false]
def R_8 : List zC := R_7 ++ scriptL 56
def cs_8 : List zC := .inr (11, [.int 0, .long 0, .long 1, .ref 4, .ref 12, .int 0, .ref 13, .ref 16, .ref 33, .ref 50, .ref 56, .null, .null, .null, .null, .null, .null, .int 0]) :: R_8
theorem nn_7 (d : Nat) : zexec (d + 20) 153 73 [some (.ref 3), v] [] (PH g cs_7 m) = zexec (d + 20) 153 84 [some (.ref 3), v] [] (PH g cs_8 (m + 308)) := by
  have len : 3 + cs_7.length = 56 := rfl
  have e1 : (PH g cs_7 m).1 = 56 := len
  have hf : ∀ M, zgf (PH g (cs_7 ++ scriptL 56) M) 3 11 10 = some .null := fun M => (ph_gf0 (g := g) (m := M) (ci := 11) (k := 10) (ps := []) (a := 3) (c := .inr (11, [.int 0, .long 0, .long 1, .ref 4, .ref 12, .int 0, .ref 13, .ref 16, .ref 33, .ref 50, .null, .null, .null, .null, .null, .null, .null, .int 0])) (qs := R_7 ++ scriptL 56) rfl).trans rfl
  have hp : ∀ M, zpf (PH g (cs_7 ++ scriptL 56) M) 3 10 (.ref 56) = PH g cs_8 M := fun M => ph_pf0 (g := g) (m := M) (ps := []) (a := 3) (o := (11, [.int 0, .long 0, .long 1, .ref 4, .ref 12, .int 0, .ref 13, .ref 16, .ref 33, .ref 50, .null, .null, .null, .null, .null, .null, .null, .int 0])) (qs := (R_7 ++ scriptL 56 : List zC)) (k := 10) (v := .ref 56) rfl
  have hn : znew (PH g cs_7 m) 6 = PH g (cs_7 ++ [.inr (6, zdef 6)]) (m + 8) := (ph_new (a := 56) len).trans (by rw [zfN_Script])
  have hi := i_Script (g := g) (ps := cs_7) (m := m + 8) len (d + 19)
  simp only [e_X11_init_73, e_X11_init_74, e_X11_init_77, e_X11_init_78, e_X11_init_81, hn, e1, hi, hf, hp, show ∀ x, zfit (zfT 11 10) (.ref x) = true from fun _ => rfl, Nat.add_assoc, Nat.reduceAdd, Option.bind_some, Option.isSome_some, Option.toList, List.cons_append, List.nil_append, zclr_i, zclr_r, zclr_n, zfit_i, zfit_l, and_self, if_true, if_false]
def R_9 : List zC := R_8 ++ lifeL 62
def cs_9 : List zC := .inr (11, [.int 0, .long 0, .long 1, .ref 4, .ref 12, .int 0, .ref 13, .ref 16, .ref 33, .ref 50, .ref 56, .ref 62, .null, .null, .null, .null, .null, .int 0]) :: R_9
theorem nn_8 (d : Nat) : zexec (d + 20) 153 84 [some (.ref 3), v] [] (PH g cs_8 m) = zexec (d + 20) 153 95 [some (.ref 3), v] [] (PH g cs_9 (m + 69)) := by
  have len : 3 + cs_8.length = 62 := rfl
  have e1 : (PH g cs_8 m).1 = 62 := len
  have hf : ∀ M, zgf (PH g (cs_8 ++ lifeL 62) M) 3 11 11 = some .null := fun M => (ph_gf0 (g := g) (m := M) (ci := 11) (k := 11) (ps := []) (a := 3) (c := .inr (11, [.int 0, .long 0, .long 1, .ref 4, .ref 12, .int 0, .ref 13, .ref 16, .ref 33, .ref 50, .ref 56, .null, .null, .null, .null, .null, .null, .int 0])) (qs := R_8 ++ lifeL 62) rfl).trans rfl
  have hp : ∀ M, zpf (PH g (cs_8 ++ lifeL 62) M) 3 11 (.ref 62) = PH g cs_9 M := fun M => ph_pf0 (g := g) (m := M) (ps := []) (a := 3) (o := (11, [.int 0, .long 0, .long 1, .ref 4, .ref 12, .int 0, .ref 13, .ref 16, .ref 33, .ref 50, .ref 56, .null, .null, .null, .null, .null, .null, .int 0])) (qs := (R_8 ++ lifeL 62 : List zC)) (k := 11) (v := .ref 62) rfl
  have hn : znew (PH g cs_8 m) 2 = PH g (cs_8 ++ [.inr (2, zdef 2)]) (m + 9) := (ph_new (a := 62) len).trans (by rw [zfN_Life])
  have hi := i_Life (g := g) (ps := cs_8) (m := m + 9) len (d + 19)
  simp only [e_X11_init_84, e_X11_init_85, e_X11_init_88, e_X11_init_89, e_X11_init_92, hn, e1, hi, hf, hp, show ∀ x, zfit (zfT 11 11) (.ref x) = true from fun _ => rfl, Nat.add_assoc, Nat.reduceAdd, Option.bind_some, Option.isSome_some, Option.toList, List.cons_append, List.nil_append, zclr_i, zclr_r, zclr_n, zfit_i, zfit_l, and_self, if_true, if_false]
def R_10 : List zC := R_9 ++ lifeL 64
def cs_10 : List zC := .inr (11, [.int 0, .long 0, .long 1, .ref 4, .ref 12, .int 0, .ref 13, .ref 16, .ref 33, .ref 50, .ref 56, .ref 62, .ref 64, .null, .null, .null, .null, .int 0]) :: R_10
theorem nn_9 (d : Nat) : zexec (d + 20) 153 95 [some (.ref 3), v] [] (PH g cs_9 m) = zexec (d + 20) 153 106 [some (.ref 3), v] [] (PH g cs_10 (m + 69)) := by
  have len : 3 + cs_9.length = 64 := rfl
  have e1 : (PH g cs_9 m).1 = 64 := len
  have hf : ∀ M, zgf (PH g (cs_9 ++ lifeL 64) M) 3 11 12 = some .null := fun M => (ph_gf0 (g := g) (m := M) (ci := 11) (k := 12) (ps := []) (a := 3) (c := .inr (11, [.int 0, .long 0, .long 1, .ref 4, .ref 12, .int 0, .ref 13, .ref 16, .ref 33, .ref 50, .ref 56, .ref 62, .null, .null, .null, .null, .null, .int 0])) (qs := R_9 ++ lifeL 64) rfl).trans rfl
  have hp : ∀ M, zpf (PH g (cs_9 ++ lifeL 64) M) 3 12 (.ref 64) = PH g cs_10 M := fun M => ph_pf0 (g := g) (m := M) (ps := []) (a := 3) (o := (11, [.int 0, .long 0, .long 1, .ref 4, .ref 12, .int 0, .ref 13, .ref 16, .ref 33, .ref 50, .ref 56, .ref 62, .null, .null, .null, .null, .null, .int 0])) (qs := (R_9 ++ lifeL 64 : List zC)) (k := 12) (v := .ref 64) rfl
  have hn : znew (PH g cs_9 m) 2 = PH g (cs_9 ++ [.inr (2, zdef 2)]) (m + 9) := (ph_new (a := 64) len).trans (by rw [zfN_Life])
  have hi := i_Life (g := g) (ps := cs_9) (m := m + 9) len (d + 19)
  simp only [e_X11_init_95, e_X11_init_96, e_X11_init_99, e_X11_init_100, e_X11_init_103, hn, e1, hi, hf, hp, show ∀ x, zfit (zfT 11 12) (.ref x) = true from fun _ => rfl, Nat.add_assoc, Nat.reduceAdd, Option.bind_some, Option.isSome_some, Option.toList, List.cons_append, List.nil_append, zclr_i, zclr_r, zclr_n, zfit_i, zfit_l, and_self, if_true, if_false]
def R_11 : List zC := R_10 ++ weddingsL 66
def cs_11 : List zC := .inr (11, [.int 0, .long 0, .long 1, .ref 4, .ref 12, .int 0, .ref 13, .ref 16, .ref 33, .ref 50, .ref 56, .ref 62, .ref 64, .ref 66, .null, .null, .null, .int 0]) :: R_11
theorem nn_10 (d : Nat) : zexec (d + 20) 153 106 [some (.ref 3), v] [] (PH g cs_10 m) = zexec (d + 20) 153 117 [some (.ref 3), v] [] (PH g cs_11 (m + 4110)) := by
  have len : 3 + cs_10.length = 66 := rfl
  have e1 : (PH g cs_10 m).1 = 66 := len
  have hf : ∀ M, zgf (PH g (cs_10 ++ weddingsL 66) M) 3 11 13 = some .null := fun M => (ph_gf0 (g := g) (m := M) (ci := 11) (k := 13) (ps := []) (a := 3) (c := .inr (11, [.int 0, .long 0, .long 1, .ref 4, .ref 12, .int 0, .ref 13, .ref 16, .ref 33, .ref 50, .ref 56, .ref 62, .ref 64, .null, .null, .null, .null, .int 0])) (qs := R_10 ++ weddingsL 66) rfl).trans rfl
  have hp : ∀ M, zpf (PH g (cs_10 ++ weddingsL 66) M) 3 13 (.ref 66) = PH g cs_11 M := fun M => ph_pf0 (g := g) (m := M) (ps := []) (a := 3) (o := (11, [.int 0, .long 0, .long 1, .ref 4, .ref 12, .int 0, .ref 13, .ref 16, .ref 33, .ref 50, .ref 56, .ref 62, .ref 64, .null, .null, .null, .null, .int 0])) (qs := (R_10 ++ weddingsL 66 : List zC)) (k := 13) (v := .ref 66) rfl
  have hn : znew (PH g cs_10 m) 10 = PH g (cs_10 ++ [.inr (10, zdef 10)]) (m + 2) := (ph_new (a := 66) len).trans (by rw [zfN_Weddings])
  have hi := i_Weddings (g := g) (ps := cs_10) (m := m + 2) len (d + 19)
  simp only [e_X11_init_106, e_X11_init_107, e_X11_init_110, e_X11_init_111, e_X11_init_114, hn, e1, hi, hf, hp, show ∀ x, zfit (zfT 11 13) (.ref x) = true from fun _ => rfl, Nat.add_assoc, Nat.reduceAdd, Option.bind_some, Option.isSome_some, Option.toList, List.cons_append, List.nil_append, zclr_i, zclr_r, zclr_n, zfit_i, zfit_l, and_self, if_true, if_false]
def R_12 : List zC := R_11 ++ ringsL 69
def cs_12 : List zC := .inr (11, [.int 0, .long 0, .long 1, .ref 4, .ref 12, .int 0, .ref 13, .ref 16, .ref 33, .ref 50, .ref 56, .ref 62, .ref 64, .ref 66, .ref 69, .null, .null, .int 0]) :: R_12
theorem nn_11 (d : Nat) : zexec (d + 20) 153 117 [some (.ref 3), v] [] (PH g cs_11 m) = zexec (d + 20) 153 128 [some (.ref 3), v] [] (PH g cs_12 (m + 28)) := by
  have len : 3 + cs_11.length = 69 := rfl
  have e1 : (PH g cs_11 m).1 = 69 := len
  have hf : ∀ M, zgf (PH g (cs_11 ++ ringsL 69) M) 3 11 14 = some .null := fun M => (ph_gf0 (g := g) (m := M) (ci := 11) (k := 14) (ps := []) (a := 3) (c := .inr (11, [.int 0, .long 0, .long 1, .ref 4, .ref 12, .int 0, .ref 13, .ref 16, .ref 33, .ref 50, .ref 56, .ref 62, .ref 64, .ref 66, .null, .null, .null, .int 0])) (qs := R_11 ++ ringsL 69) rfl).trans rfl
  have hp : ∀ M, zpf (PH g (cs_11 ++ ringsL 69) M) 3 14 (.ref 69) = PH g cs_12 M := fun M => ph_pf0 (g := g) (m := M) (ps := []) (a := 3) (o := (11, [.int 0, .long 0, .long 1, .ref 4, .ref 12, .int 0, .ref 13, .ref 16, .ref 33, .ref 50, .ref 56, .ref 62, .ref 64, .ref 66, .null, .null, .null, .int 0])) (qs := (R_11 ++ ringsL 69 : List zC)) (k := 14) (v := .ref 69) rfl
  have hn : znew (PH g cs_11 m) 5 = PH g (cs_11 ++ [.inr (5, zdef 5)]) (m + 4) := (ph_new (a := 69) len).trans (by rw [zfN_Rings])
  have hi := i_Rings (g := g) (ps := cs_11) (m := m + 4) len (d + 19)
  simp only [e_X11_init_117, e_X11_init_118, e_X11_init_121, e_X11_init_122, e_X11_init_125, hn, e1, hi, hf, hp, show ∀ x, zfit (zfT 11 14) (.ref x) = true from fun _ => rfl, Nat.add_assoc, Nat.reduceAdd, Option.bind_some, Option.isSome_some, Option.toList, List.cons_append, List.nil_append, zclr_i, zclr_r, zclr_n, zfit_i, zfit_l, and_self, if_true, if_false]
def R_13 : List zC := R_12 ++ atownL
def cs_13 : List zC := .inr (11, [.int 0, .long 0, .long 1, .ref 4, .ref 12, .int 0, .ref 13, .ref 16, .ref 33, .ref 50, .ref 56, .ref 62, .ref 64, .ref 66, .ref 69, .ref 72, .null, .int 0]) :: R_13
theorem nn_12 (d : Nat) : zexec (d + 20) 153 128 [some (.ref 3), v] [] (PH g cs_12 m) = zexec (d + 20) 153 136 [some (.ref 3), v] [] (PH g cs_13 (m + 3)) := by
  have len : 3 + cs_12.length = 72 := rfl
  have e1 : (PH g cs_12 m).1 = 72 := len
  have hf : ∀ M, zgf (PH g (cs_12 ++ atownL) M) 3 11 15 = some .null := fun M => (ph_gf0 (g := g) (m := M) (ci := 11) (k := 15) (ps := []) (a := 3) (c := .inr (11, [.int 0, .long 0, .long 1, .ref 4, .ref 12, .int 0, .ref 13, .ref 16, .ref 33, .ref 50, .ref 56, .ref 62, .ref 64, .ref 66, .ref 69, .null, .null, .int 0])) (qs := R_12 ++ atownL) rfl).trans rfl
  have hp : ∀ M, zpf (PH g (cs_12 ++ atownL) M) 3 15 (.ref 72) = PH g cs_13 M := fun M => ph_pf0 (g := g) (m := M) (ps := []) (a := 3) (o := (11, [.int 0, .long 0, .long 1, .ref 4, .ref 12, .int 0, .ref 13, .ref 16, .ref 33, .ref 50, .ref 56, .ref 62, .ref 64, .ref 66, .ref 69, .null, .null, .int 0])) (qs := (R_12 ++ atownL : List zC)) (k := 15) (v := .ref 72) rfl
  have hn : znewa (PH g cs_12 m) 7 3 = PH g (cs_12 ++ atownL) (m + 3) := ph_newa (a := 72) len
  simp only [e_X11_init_128, e_X11_init_129, e_X11_init_130, e_X11_init_133, show zsz 3 = true by decide, show (3 : Int32).toNatClampNeg = 3 by decide, hn, e1, hf, hp, show ∀ x, zfit (zfT 11 15) (.ref x) = true from fun _ => rfl, Option.bind_some, Option.isSome_some, Option.toList, List.cons_append, List.nil_append, zclr_i, zclr_r, zclr_n, zfit_i, zfit_l, and_self, if_true, if_false]
def R_14 : List zC := R_13 ++ ascriptL
def cs_14 : List zC := .inr (11, [.int 0, .long 0, .long 1, .ref 4, .ref 12, .int 0, .ref 13, .ref 16, .ref 33, .ref 50, .ref 56, .ref 62, .ref 64, .ref 66, .ref 69, .ref 72, .ref 73, .int 0]) :: R_14
theorem nn_13 (d : Nat) : zexec (d + 20) 153 136 [some (.ref 3), v] [] (PH g cs_13 m) = zexec (d + 20) 153 144 [some (.ref 3), v] [] (PH g cs_14 (m + 3)) := by
  have len : 3 + cs_13.length = 73 := rfl
  have e1 : (PH g cs_13 m).1 = 73 := len
  have hf : ∀ M, zgf (PH g (cs_13 ++ ascriptL) M) 3 11 16 = some .null := fun M => (ph_gf0 (g := g) (m := M) (ci := 11) (k := 16) (ps := []) (a := 3) (c := .inr (11, [.int 0, .long 0, .long 1, .ref 4, .ref 12, .int 0, .ref 13, .ref 16, .ref 33, .ref 50, .ref 56, .ref 62, .ref 64, .ref 66, .ref 69, .ref 72, .null, .int 0])) (qs := R_13 ++ ascriptL) rfl).trans rfl
  have hp : ∀ M, zpf (PH g (cs_13 ++ ascriptL) M) 3 16 (.ref 73) = PH g cs_14 M := fun M => ph_pf0 (g := g) (m := M) (ps := []) (a := 3) (o := (11, [.int 0, .long 0, .long 1, .ref 4, .ref 12, .int 0, .ref 13, .ref 16, .ref 33, .ref 50, .ref 56, .ref 62, .ref 64, .ref 66, .ref 69, .ref 72, .null, .int 0])) (qs := (R_13 ++ ascriptL : List zC)) (k := 16) (v := .ref 73) rfl
  have hn : znewa (PH g cs_13 m) 6 3 = PH g (cs_13 ++ ascriptL) (m + 3) := ph_newa (a := 73) len
  simp only [e_X11_init_136, e_X11_init_137, e_X11_init_138, e_X11_init_141, show zsz 3 = true by decide, show (3 : Int32).toNatClampNeg = 3 by decide, hn, e1, hf, hp, show ∀ x, zfit (zfT 11 16) (.ref x) = true from fun _ => rfl, Option.bind_some, Option.isSome_some, Option.toList, List.cons_append, List.nil_append, zclr_i, zclr_r, zclr_n, zfit_i, zfit_l, and_self, if_true, if_false]
def cs_14t : List zC := (cs_14 ++ townL 74).set 69 (.inl (.object (zcN 7), 3, .inr (.inr (.inr (.inr (va_up (fun _ => none) 0 (some 74)))))))
def cs_15 : List zC := (cs_14t ++ scriptL 91).set 70 (.inl (.object (zcN 6), 3, .inr (.inr (.inr (.inr (va_up (fun _ => none) 0 (some 91)))))))
set_option maxRecDepth 100000 in
theorem nn_14 (d : Nat) : zexec (d + 20) 153 146 [some (.ref 3), some (.int 0)] [] (PH g cs_14 m) = zexec (d + 20) 153 146 [some (.ref 3), some (.int 1)] [] (PH g cs_15 (m + 565)) := by
  have len : 3 + cs_14.length = 74 := rfl
  have e1 : (PH g cs_14 m).1 = 74 := len
  have hn : znew (PH g cs_14 m) 7 = PH g (cs_14 ++ [.inr (7, zdef 7)]) (m + 20) := (ph_new (a := 74) len).trans (by rw [zfN_Town])
  have hi := i_Town (g := g) (ps := cs_14) (m := m + 20) len (d + 18)
  have f15 : zgf (PH g cs_14 m) 3 11 15 = some (.ref 72) := rfl
  have k1 : ∀ M, zokA (PH g (cs_14 ++ townL 74) M) 72 0 74 = true := fun M => by
    have h1 : (PH g (cs_14 ++ townL 74) M).2.2 72 = .inl (.object (zcN 7), 3, .inr (.inr (.inr (.inr (fun _ => none))))) := rfl
    have h2 : zcls (PH g (cs_14 ++ townL 74) M) 74 = 7 := rfl
    unfold zokA
    rw [h1, h2]
    decide +kernel
  have p1 : ∀ M, zpa (PH g (cs_14 ++ townL 74) M) 72 0 74 = PH g cs_14t M := fun M => ph_pa (i := 69) (by decide +kernel) rfl
  have len2 : 3 + cs_14t.length = 91 := rfl
  have e2 : ∀ M, (PH g cs_14t M).1 = 91 := fun M => len2
  have hn2 : ∀ M, znew (PH g cs_14t M) 6 = PH g (cs_14t ++ [.inr (6, zdef 6)]) (M + 8) := fun M => (ph_new (a := 91) len2).trans (by rw [zfN_Script])
  have hi2 := fun M => i_Script (g := g) (ps := cs_14t) (m := M) len2 (d + 19)
  have f16 : ∀ M, zgf (PH g cs_14t M) 3 11 16 = some (.ref 73) := fun M => rfl
  have k2 : ∀ M, zokA (PH g (cs_14t ++ scriptL 91) M) 73 0 91 = true := fun M => by
    have h1 : (PH g (cs_14t ++ scriptL 91) M).2.2 73 = .inl (.object (zcN 6), 3, .inr (.inr (.inr (.inr (fun _ => none))))) := rfl
    have h2 : zcls (PH g (cs_14t ++ scriptL 91) M) 91 = 6 := rfl
    unfold zokA
    rw [h1, h2]
    decide +kernel
  have p2 : ∀ M, zpa (PH g (cs_14t ++ scriptL 91) M) 73 0 91 = PH g cs_15 M := fun M => ph_pa (i := 70) (by decide +kernel) rfl
  rw [e_X11_init_146]
  simp only [e_X11_init_147, e_X11_init_148, e_X11_init_151, e_X11_init_152, e_X11_init_155, e_X11_init_156, e_X11_init_159, e_X11_init_160, e_X11_init_163, e_X11_init_164, e_X11_init_165, e_X11_init_168, e_X11_init_169, e_X11_init_172, e_X11_init_173, e_X11_init_176, e_X11_init_177, e_X11_init_180, show ((3 : Int32) ≤ 0) = False by decide, f15, hn, e1, hi, ltc_0, clc_0, k1, p1, f16, hn2, e2, hi2, k2, p2, show (0 : Int32) + 1 = 1 by decide, Nat.add_assoc, Nat.reduceAdd, Option.bind_some, Option.isSome_some, Option.toList, List.cons_append, List.nil_append, zclr_i, zclr_r, zclr_n, zfit_i, zfit_l, and_self, if_true, if_false]
def cs_15t : List zC := (cs_15 ++ townL 97).set 69 (.inl (.object (zcN 7), 3, .inr (.inr (.inr (.inr (va_up (va_up (fun _ => none) 0 (some 74)) 1 (some 97)))))))
def cs_16 : List zC := (cs_15t ++ scriptL 114).set 70 (.inl (.object (zcN 6), 3, .inr (.inr (.inr (.inr (va_up (va_up (fun _ => none) 0 (some 91)) 1 (some 114)))))))
set_option maxRecDepth 100000 in
theorem nn_15 (d : Nat) : zexec (d + 20) 153 146 [some (.ref 3), some (.int 1)] [] (PH g cs_15 m) = zexec (d + 20) 153 146 [some (.ref 3), some (.int 2)] [] (PH g cs_16 (m + 565)) := by
  have len : 3 + cs_15.length = 97 := rfl
  have e1 : (PH g cs_15 m).1 = 97 := len
  have hn : znew (PH g cs_15 m) 7 = PH g (cs_15 ++ [.inr (7, zdef 7)]) (m + 20) := (ph_new (a := 97) len).trans (by rw [zfN_Town])
  have hi := i_Town (g := g) (ps := cs_15) (m := m + 20) len (d + 18)
  have f15 : zgf (PH g cs_15 m) 3 11 15 = some (.ref 72) := rfl
  have k1 : ∀ M, zokA (PH g (cs_15 ++ townL 97) M) 72 1 97 = true := fun M => by
    have h1 : (PH g (cs_15 ++ townL 97) M).2.2 72 = .inl (.object (zcN 7), 3, .inr (.inr (.inr (.inr (va_up (fun _ => none) 0 (some 74)))))) := rfl
    have h2 : zcls (PH g (cs_15 ++ townL 97) M) 97 = 7 := rfl
    unfold zokA
    rw [h1, h2]
    decide +kernel
  have p1 : ∀ M, zpa (PH g (cs_15 ++ townL 97) M) 72 1 97 = PH g cs_15t M := fun M => ph_pa (i := 69) (by decide +kernel) rfl
  have len2 : 3 + cs_15t.length = 114 := rfl
  have e2 : ∀ M, (PH g cs_15t M).1 = 114 := fun M => len2
  have hn2 : ∀ M, znew (PH g cs_15t M) 6 = PH g (cs_15t ++ [.inr (6, zdef 6)]) (M + 8) := fun M => (ph_new (a := 114) len2).trans (by rw [zfN_Script])
  have hi2 := fun M => i_Script (g := g) (ps := cs_15t) (m := M) len2 (d + 19)
  have f16 : ∀ M, zgf (PH g cs_15t M) 3 11 16 = some (.ref 73) := fun M => rfl
  have k2 : ∀ M, zokA (PH g (cs_15t ++ scriptL 114) M) 73 1 114 = true := fun M => by
    have h1 : (PH g (cs_15t ++ scriptL 114) M).2.2 73 = .inl (.object (zcN 6), 3, .inr (.inr (.inr (.inr (va_up (fun _ => none) 0 (some 91)))))) := rfl
    have h2 : zcls (PH g (cs_15t ++ scriptL 114) M) 114 = 6 := rfl
    unfold zokA
    rw [h1, h2]
    decide +kernel
  have p2 : ∀ M, zpa (PH g (cs_15t ++ scriptL 114) M) 73 1 114 = PH g cs_16 M := fun M => ph_pa (i := 70) (by decide +kernel) rfl
  rw [e_X11_init_146]
  simp only [e_X11_init_147, e_X11_init_148, e_X11_init_151, e_X11_init_152, e_X11_init_155, e_X11_init_156, e_X11_init_159, e_X11_init_160, e_X11_init_163, e_X11_init_164, e_X11_init_165, e_X11_init_168, e_X11_init_169, e_X11_init_172, e_X11_init_173, e_X11_init_176, e_X11_init_177, e_X11_init_180, show ((3 : Int32) ≤ 1) = False by decide, f15, hn, e1, hi, ltc_1, clc_1, k1, p1, f16, hn2, e2, hi2, k2, p2, show (1 : Int32) + 1 = 2 by decide, Nat.add_assoc, Nat.reduceAdd, Option.bind_some, Option.isSome_some, Option.toList, List.cons_append, List.nil_append, zclr_i, zclr_r, zclr_n, zfit_i, zfit_l, and_self, if_true, if_false]
def cs_16t : List zC := (cs_16 ++ townL 120).set 69 (.inl (.object (zcN 7), 3, .inr (.inr (.inr (.inr (va_up (va_up (va_up (fun _ => none) 0 (some 74)) 1 (some 97)) 2 (some 120)))))))
def cs_17 : List zC := (cs_16t ++ scriptL 137).set 70 (.inl (.object (zcN 6), 3, .inr (.inr (.inr (.inr (va_up (va_up (va_up (fun _ => none) 0 (some 91)) 1 (some 114)) 2 (some 137)))))))
set_option maxRecDepth 100000 in
theorem nn_16 (d : Nat) : zexec (d + 20) 153 146 [some (.ref 3), some (.int 2)] [] (PH g cs_16 m) = zexec (d + 20) 153 146 [some (.ref 3), some (.int 3)] [] (PH g cs_17 (m + 565)) := by
  have len : 3 + cs_16.length = 120 := rfl
  have e1 : (PH g cs_16 m).1 = 120 := len
  have hn : znew (PH g cs_16 m) 7 = PH g (cs_16 ++ [.inr (7, zdef 7)]) (m + 20) := (ph_new (a := 120) len).trans (by rw [zfN_Town])
  have hi := i_Town (g := g) (ps := cs_16) (m := m + 20) len (d + 18)
  have f15 : zgf (PH g cs_16 m) 3 11 15 = some (.ref 72) := rfl
  have k1 : ∀ M, zokA (PH g (cs_16 ++ townL 120) M) 72 2 120 = true := fun M => by
    have h1 : (PH g (cs_16 ++ townL 120) M).2.2 72 = .inl (.object (zcN 7), 3, .inr (.inr (.inr (.inr (va_up (va_up (fun _ => none) 0 (some 74)) 1 (some 97)))))) := rfl
    have h2 : zcls (PH g (cs_16 ++ townL 120) M) 120 = 7 := rfl
    unfold zokA
    rw [h1, h2]
    decide +kernel
  have p1 : ∀ M, zpa (PH g (cs_16 ++ townL 120) M) 72 2 120 = PH g cs_16t M := fun M => ph_pa (i := 69) (by decide +kernel) rfl
  have len2 : 3 + cs_16t.length = 137 := rfl
  have e2 : ∀ M, (PH g cs_16t M).1 = 137 := fun M => len2
  have hn2 : ∀ M, znew (PH g cs_16t M) 6 = PH g (cs_16t ++ [.inr (6, zdef 6)]) (M + 8) := fun M => (ph_new (a := 137) len2).trans (by rw [zfN_Script])
  have hi2 := fun M => i_Script (g := g) (ps := cs_16t) (m := M) len2 (d + 19)
  have f16 : ∀ M, zgf (PH g cs_16t M) 3 11 16 = some (.ref 73) := fun M => rfl
  have k2 : ∀ M, zokA (PH g (cs_16t ++ scriptL 137) M) 73 2 137 = true := fun M => by
    have h1 : (PH g (cs_16t ++ scriptL 137) M).2.2 73 = .inl (.object (zcN 6), 3, .inr (.inr (.inr (.inr (va_up (va_up (fun _ => none) 0 (some 91)) 1 (some 114)))))) := rfl
    have h2 : zcls (PH g (cs_16t ++ scriptL 137) M) 137 = 6 := rfl
    unfold zokA
    rw [h1, h2]
    decide +kernel
  have p2 : ∀ M, zpa (PH g (cs_16t ++ scriptL 137) M) 73 2 137 = PH g cs_17 M := fun M => ph_pa (i := 70) (by decide +kernel) rfl
  rw [e_X11_init_146]
  simp only [e_X11_init_147, e_X11_init_148, e_X11_init_151, e_X11_init_152, e_X11_init_155, e_X11_init_156, e_X11_init_159, e_X11_init_160, e_X11_init_163, e_X11_init_164, e_X11_init_165, e_X11_init_168, e_X11_init_169, e_X11_init_172, e_X11_init_173, e_X11_init_176, e_X11_init_177, e_X11_init_180, show ((3 : Int32) ≤ 2) = False by decide, f15, hn, e1, hi, ltc_2, clc_2, k1, p1, f16, hn2, e2, hi2, k2, p2, show (2 : Int32) + 1 = 3 by decide, Nat.add_assoc, Nat.reduceAdd, Option.bind_some, Option.isSome_some, Option.toList, List.cons_append, List.nil_append, zclr_i, zclr_r, zclr_n, zfit_i, zfit_l, and_self, if_true, if_false]
theorem i_Nine (h1 : g 1 = .inr (13, [.ref 2, .int 0])) (h2 : g 2 = .inl (.char, 138, .inl (fun j => zby.getD j 0))) (d : Nat) : zcall (d + 20) 153 [.ref 3] (PH g cs_0 m) = some (none, PH g cs_17 (m + 8301)) := by
  rw [m_X11_init, nn_0]
  show zexec (d + 20) 153 9 [some (.ref 3), none] [] (PH g cs_1 m) = _
  rw [nn_1, nn_2, nn_3 h1 h2, nn_4, nn_5, nn_6, nn_7, nn_8, nn_9, nn_10, nn_11, nn_12, nn_13]
  simp only [e_X11_init_144, e_X11_init_145, Option.bind_some, Option.isSome_some, Option.toList, List.cons_append, List.nil_append, zclr_i, zclr_r, zclr_n, zfit_i, zfit_l, and_self, if_true, if_false]
  rw [nn_14, nn_15, nn_16, e_X11_init_146]
  simp only [e_X11_init_147, e_X11_init_148, e_X11_init_183, show ((3 : Int32) ≤ 3) = True by decide, Nat.add_assoc, Nat.reduceAdd, Option.bind_some, Option.isSome_some, Option.toList, List.cons_append, List.nil_append, zclr_i, zclr_r, zclr_n, zfit_i, zfit_l, and_self, if_true, if_false]
end PLS
