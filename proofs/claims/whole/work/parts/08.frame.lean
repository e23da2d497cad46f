/-! THE SIMULATION: one frame, one call, all -/
theorem zpf_n (h : zH) (a k : Nat) (v : Value) : (zpf h a k v).1 = h.1 ∧ (zpf h a k v).2.1 = h.2.1 := by unfold zpf; split <;> exact ⟨rfl, rfl⟩
theorem zpi_n (h : zH) (a k : Nat) (v : Int32) : (zpi h a k v).1 = h.1 ∧ (zpi h a k v).2.1 = h.2.1 := by unfold zpi; split <;> exact ⟨rfl, rfl⟩
theorem zpl_n (h : zH) (a k : Nat) (v : Int64) : (zpl h a k v).1 = h.1 ∧ (zpl h a k v).2.1 = h.2.1 := by unfold zpl; split <;> exact ⟨rfl, rfl⟩
theorem zpa_n (h : zH) (a k v : Nat) : (zpa h a k v).1 = h.1 ∧ (zpa h a k v).2.1 = h.2.1 := by unfold zpa; split <;> exact ⟨rfl, rfl⟩
theorem zcpi_n (h : zH) (a b i j k : Nat) : (zcpi h a b i j k).1 = h.1 ∧ (zcpi h a b i j k).2.1 = h.2.1 := by unfold zcpi; split <;> exact ⟨rfl, rfl⟩
theorem zcpl_n (h : zH) (a b i j k : Nat) : (zcpl h a b i j k).1 = h.1 ∧ (zcpl h a b i j k).2.1 = h.2.1 := by unfold zcpl; split <;> exact ⟨rfl, rfl⟩
section ZM
variable {p : Program} {l : Launch} {e : Env} {R : Room} {s : State} {m : MethodId} {args : Array Value} {below : List Frame} {meth : Method} {c : Code} {H : Heap} {locs : List Loc} {cells slots : Nat} {Q : State → Prop} {cc : ByteArray} {pc : Nat} {ls : Array Slot} {w : zG} {y : Nat} {q : zMr} {h : zH} {rest : List Value}
theorem zW_same {h' : zH} {g : JFrame} (e1 : h'.1 = h.1 ∧ h'.2.1 = h.2.1) (k : W p l e R s m args below meth c H locs (cells + (h'.1 - h.1)) (slots + (h'.2.1 - h.2.1)) Q g) : W p l e R s m args below meth c H locs cells slots Q g := by
  rw [e1.1, e1.2, Nat.sub_self, Nat.sub_self] at k
  exact k
set_option maxHeartbeats 8000000 in
theorem zs_heap (X : zCx w p s m args meth c cc y q) {i : Instr} {len : Nat} {st st' : List Value} {h' : zH} (hd : decode cc pc = .ok (i, len)) (hl : zlok i len = true) (he : zheap y i st h = some (st', h')) (hPic : zPic w h H) (hS : va_S (zA w) s.heap H locs) (hcl : s.heap.size + cells = w.1 + (h.1 - 3)) (hls : ls.size = c.maxLocals) (hR : 1 ≤ R.frames ∧ 60 ≤ R.locals) (hcells : cells + (h'.1 - h.1) ≤ R.cells) (hslots : slots + (h'.2.1 - h.2.1) ≤ R.slots)
    (kk : ∀ (H1 : Heap) (locs1 : List Loc), zPic w h' H1 → va_S (zA w) s.heap H1 locs1 → W p l e R s m args below meth c H1 locs1 (cells + (h'.1 - h.1)) (slots + (h'.2.1 - h.2.1)) Q (F0 m (pc + len) ls (zvs w st'))) : W p l e R s m args below meth c H locs cells slots Q (F0 m pc ls (zvs w st)) := by
  have k0 : h' = h → W p l e R s m args below meth c H locs cells slots Q (F0 m (pc + len) ls (zvs w st')) := fun e0 => by
    subst e0
    exact zW_same (h := h') (h' := h') ⟨rfl, rfl⟩ (kk H locs hPic hS)
  cases i
  case getfield ix =>
    obtain rfl := zln_eq hl 3 rfl
    simp only [zheap] at he
    split at he
    · next ci k a r hlk =>
      split at he
      · next h1 =>
        obtain ⟨v, hv, hq⟩ := Option.map_eq_some_iff.mp he
        cases hq
        exact zs_getf X hlk hd h1 hv hPic hS (k0 rfl)
      · cases he
    · cases he
  case putfield ix =>
    obtain rfl := zln_eq hl 3 rfl
    simp only [zheap] at he
    split at he
    · next ci k v a r hlk =>
      split at he
      · next h1 =>
        cases he
        exact zs_putf X hlk hd h1.1 h1.2.2.1 h1.2.2.2.1 h1.2.2.2.2 hPic hS (fun H1 locs1 hP1 hS1 => zW_same (zpf_n _ _ _ _) (kk H1 locs1 hP1 hS1))
      · cases he
    · cases he
  case iaload =>
    obtain rfl := zln_eq hl 1 rfl
    simp only [zheap] at he
    split at he
    · obtain ⟨v, hv, hq⟩ := Option.map_eq_some_iff.mp he
      cases hq
      exact zs_iald X hd hv hPic hS (k0 rfl)
    · cases he
  case baload =>
    obtain rfl := zln_eq hl 1 rfl
    simp only [zheap] at he
    split at he
    · obtain ⟨v, hv, hq⟩ := Option.map_eq_some_iff.mp he
      cases hq
      exact zs_bald X hd hv hPic hS (k0 rfl)
    · cases he
  case laload =>
    obtain rfl := zln_eq hl 1 rfl
    simp only [zheap] at he
    split at he
    · split at he
      · cases he
      · next h0 =>
        obtain ⟨v, hv, hq⟩ := Option.map_eq_some_iff.mp he
        cases hq
        exact zs_lald X hd h0 hv hPic (k0 rfl)
    · cases he
  case aaload =>
    obtain rfl := zln_eq hl 1 rfl
    simp only [zheap] at he
    split at he
    · split at he
      · cases he
      · next h0 =>
        obtain ⟨v, hv, hq⟩ := Option.map_eq_some_iff.mp he
        cases hq
        exact zs_aald X hd h0 hv hPic (k0 rfl)
    · cases he
  case iastore =>
    obtain rfl := zln_eq hl 1 rfl
    simp only [zheap] at he
    split at he
    · split at he
      · cases he
      · next h0 =>
        split at he
        · next hv => cases he; exact zs_iast X hd h0 hv hPic hS (fun H1 locs1 hP1 hS1 => zW_same (zpi_n _ _ _ _) (kk H1 locs1 hP1 hS1))
        · cases he
    · cases he
  case bastore =>
    obtain rfl := zln_eq hl 1 rfl
    simp only [zheap] at he
    split at he
    · split at he
      · cases he
      · next h0 =>
        split at he
        · next hv => cases he; exact zs_bast X hd h0 hv hPic hS (fun H1 locs1 hP1 hS1 => zW_same (zpi_n _ _ _ _) (kk H1 locs1 hP1 hS1))
        · cases he
    · cases he
  case lastore =>
    obtain rfl := zln_eq hl 1 rfl
    simp only [zheap] at he
    split at he
    · split at he
      · cases he
      · next h0 =>
        split at he
        · next hv => cases he; exact zs_last X hd h0 hv hPic hS (fun H1 locs1 hP1 hS1 => zW_same (zpl_n _ _ _ _) (kk H1 locs1 hP1 hS1))
        · cases he
    · cases he
  case aastore =>
    obtain rfl := zln_eq hl 1 rfl
    simp only [zheap] at he
    split at he
    · split at he
      · cases he
      · next h0 =>
        split at he
        · next hc =>
          split at he
          · next hv => cases he; exact zs_aast X hd h0 hc hv.1 hv.2.1 hv.2.2.1 hv.2.2.2 hPic hS (fun H1 locs1 hP1 hS1 => zW_same (zpa_n _ _ _ _) (kk H1 locs1 hP1 hS1))
          · cases he
        · cases he
    · cases he
  case arraylength =>
    obtain rfl := zln_eq hl 1 rfl
    simp only [zheap] at he
    split at he
    · obtain ⟨v, hv, hq⟩ := Option.map_eq_some_iff.mp he
      cases hq
      exact zs_alen X hd hv hPic hS (k0 rfl)
    · cases he
  case new ix =>
    obtain rfl := zln_eq hl 3 rfl
    simp only [zheap] at he
    split at he
    · next ci hlk =>
      split at he
      · next h1 =>
        cases he
        have e1 : (znew h ci).1 - h.1 = 1 := by show h.1 + 1 - h.1 = 1; omega
        have e2 : (znew h ci).2.1 - h.2.1 = zfN ci := by show h.2.1 + zfN ci - h.2.1 = _; omega
        rw [e1, e2] at kk
        rw [e1] at hcells
        rw [e2] at hslots
        exact zs_new X hlk h1.1 h1.2 hd hPic hS hcl hcells hslots kk
      · cases he
    · cases he
  case newarray at_ =>
    obtain rfl := zln_eq hl 2 rfl
    cases at_
    case int =>
      simp only [zheap] at he
      split at he
      · next n r =>
        split at he
        · next hz =>
          cases he
          have e1 : (znewi h .int n.toNatClampNeg).1 - h.1 = 1 := by show h.1 + 1 - h.1 = 1; omega
          have e2 : (znewi h .int n.toNatClampNeg).2.1 - h.2.1 = n.toNatClampNeg := by show h.2.1 + _ - h.2.1 = _; omega
          rw [e1, e2] at kk
          rw [e1] at hcells
          rw [e2] at hslots
          have hz2 : n.toNatClampNeg ≤ 5000 := by
            have hz := hz
            unfold zsz at hz
            simp at hz
            exact hz.2
          exact zs_newa (h := h) (at_ := .int) (t := .int) (g := .inl (fun _ => 0)) X rfl zmem_int (fun cA => rfl) (fun _ => rfl) (X.2.2.2.2.1 _ (zwx (by decide +kernel) rfl)) hz (by show n.toNatClampNeg * 4 ≤ _; omega) hd hPic hS hcl hcells hslots kk
        · cases he
      · cases he
    case byte =>
      simp only [zheap] at he
      split at he
      · next n r =>
        split at he
        · next hz =>
          cases he
          have e1 : (znewi h .byte n.toNatClampNeg).1 - h.1 = 1 := by show h.1 + 1 - h.1 = 1; omega
          have e2 : (znewi h .byte n.toNatClampNeg).2.1 - h.2.1 = n.toNatClampNeg := by show h.2.1 + _ - h.2.1 = _; omega
          rw [e1, e2] at kk
          rw [e1] at hcells
          rw [e2] at hslots
          have hz2 : n.toNatClampNeg ≤ 5000 := by
            have hz := hz
            unfold zsz at hz
            simp at hz
            exact hz.2
          exact zs_newa (h := h) (at_ := .byte) (t := .byte) (g := .inl (fun _ => 0)) X rfl zmem_byte (fun cA => rfl) (fun _ => rfl) (X.2.2.2.2.1 _ (zwx (by decide +kernel) rfl)) hz (by show n.toNatClampNeg * 1 ≤ _; omega) hd hPic hS hcl hcells hslots kk
        · cases he
      · cases he
    case long =>
      simp only [zheap] at he
      split at he
      · next n r =>
        split at he
        · next hz =>
          cases he
          have e1 : (znewl h n.toNatClampNeg).1 - h.1 = 1 := by show h.1 + 1 - h.1 = 1; omega
          have e2 : (znewl h n.toNatClampNeg).2.1 - h.2.1 = n.toNatClampNeg := by show h.2.1 + _ - h.2.1 = _; omega
          rw [e1, e2] at kk
          rw [e1] at hcells
          rw [e2] at hslots
          have hz2 : n.toNatClampNeg ≤ 5000 := by
            have hz := hz
            unfold zsz at hz
            simp at hz
            exact hz.2
          exact zs_newa (h := h) (at_ := .long) (t := .long) (g := .inr (.inl (fun _ => 0))) X rfl zmem_long (fun cA => rfl) (fun _ => rfl) (X.2.2.2.2.1 _ (zwx (by decide +kernel) rfl)) hz (by show n.toNatClampNeg * 8 ≤ _; omega) hd hPic hS hcl hcells hslots kk
        · cases he
      · cases he
    all_goals cases he
  case anewarray ix =>
    obtain rfl := zln_eq hl 3 rfl
    simp only [zheap] at he
    split at he
    · next ci n r hlk =>
      split at he
      · next h1 =>
        cases he
        have e1 : (znewa h ci n.toNatClampNeg).1 - h.1 = 1 := by show h.1 + 1 - h.1 = 1; omega
        have e2 : (znewa h ci n.toNatClampNeg).2.1 - h.2.1 = n.toNatClampNeg := by show h.2.1 + _ - h.2.1 = _; omega
        rw [e1, e2] at kk
        rw [e1] at hcells
        rw [e2] at hslots
        exact zs_anew X hlk h1.2 h1.1 hd hPic hS hcl hcells hslots kk
      · cases he
    · cases he
  case multianewarray ix dm =>
    obtain rfl := zln_eq hl 4 rfl
    by_cases hdm : dm = 2
    · subst hdm
      simp only [zheap] at he
      split at he
      · next k n r =>
        split at he
        · next h1 =>
          obtain ⟨hz1, hz2, ho, rfl⟩ := h1
          cases he
          have e1 : (znewg h n.toNatClampNeg k.toNatClampNeg).1 - h.1 = 1 + n.toNatClampNeg := by show h.1 + _ - h.1 = _; omega
          have e2 : (znewg h n.toNatClampNeg k.toNatClampNeg).2.1 - h.2.1 = n.toNatClampNeg + n.toNatClampNeg * k.toNatClampNeg := by show h.2.1 + _ - h.2.1 = _; omega
          rw [e1, e2] at kk
          rw [e1] at hcells
          rw [e2] at hslots
          exact zs_mna X ho hz1 hz2 hd hPic hS hcl hcells hslots kk
        · cases he
      · cases he
    · exfalso
      unfold zheap at he
      split at he <;> first | (cases he; done) | (rename_i q1; cases q1; done) | (simp_all; done)
  case ldc ix =>
    obtain rfl := zln_eq hl 2 rfl
    obtain ⟨hx, hb, -, hown, hts, hq, hon, -, hU⟩ := id X
    simp only [zheap] at he
    split at he
    · next v hlk =>
      cases he
      rw [zow_eq hq] at hlk
      obtain ⟨pp, hp⟩ := zlk2_mem zKk_ok _ _ hon _ (zlookup_mem hlk)
      exact lv_ldc hx hb hown (hts _ (zwm (of_decide_eq_true hp) rfl)) hd (k0 rfl)
    · split at he
      · next h1 =>
        cases he
        obtain ⟨ho, rfl⟩ := h1
        have hcls : q.1.2.1.cls = "NineNames$Reader" := by
          rw [zow_eq hq] at ho
          rw [ho] at hon
          exact (Option.some.inj hon).symm
        rw [hcls] at hown
        obtain ⟨-, -, -, -, -, -, -, ⟨⟨tx, hR2⟩, -⟩, -⟩ := hU
        exact va_ldcS hx hb hown hR2 hd (k0 rfl)
      · cases he
  case ldc_w ix =>
    obtain rfl := zln_eq hl 3 rfl
    obtain ⟨hx, hb, -, hown, hts, hq, hon, -, hU⟩ := id X
    simp only [zheap] at he
    split at he
    · next v hlk =>
      cases he
      rw [zow_eq hq] at hlk
      obtain ⟨pp, hp⟩ := zlk2_mem zKk_ok _ _ hon _ (zlookup_mem hlk)
      exact lv_ldcw hx hb hown (hts _ (zwm (of_decide_eq_true hp) rfl)) hd (k0 rfl)
    · cases he
  case ldc2_w ix =>
    obtain rfl := zln_eq hl 3 rfl
    obtain ⟨hx, hb, -, hown, hts, hq, hon, -, hU⟩ := id X
    simp only [zheap] at he
    split at he
    · next v hlk =>
      cases he
      rw [zow_eq hq] at hlk
      obtain ⟨pp, hp⟩ := zlk2_mem zJk_ok _ _ hon _ (zlookup_mem hlk)
      exact lv_ldc2 hx hb hown (hts _ (zwm (of_decide_eq_true hp) rfl)) hd (k0 rfl)
    · cases he
  case getstatic ix =>
    obtain rfl := zln_eq hl 3 rfl
    obtain ⟨hx, hb, -, hown, hts, hq, hon, -, hU⟩ := id X
    obtain ⟨-, -, -, -, -, hZ0, hZ1, -⟩ := hU
    simp only [zheap] at he
    split at he
    · next hlk =>
      cases he
      rw [zow_eq hq] at hlk
      obtain ⟨pp, hp⟩ := zlk2_mem zGk_ok _ _ hon _ (zlookup_mem hlk)
      exact va_gets hx hb hZ0 hS hown (hts _ (zwm (of_decide_eq_true hp) rfl)) (fun x hx => hx) hd (k0 rfl)
    · next hlk =>
      cases he
      rw [zow_eq hq] at hlk
      obtain ⟨pp, hp⟩ := zlk2_mem zGk_ok _ _ hon _ (zlookup_mem hlk)
      exact va_gets hx hb hZ1 hS hown (hts _ (zwm (of_decide_eq_true hp) rfl)) (fun x hx => hx) hd (k0 rfl)
    · cases he
  case invokespecial ix =>
    obtain rfl := zln_eq hl 3 rfl
    simp only [zheap] at he
    split at he
    · next j a r hlk =>
      split at he
      · next hr =>
        cases he
        exact zs_objInit X hlk hd hls hR (by rw [List.length_map]; exact hr) (k0 rfl)
      · cases he
    · cases he
  case invokestatic ix =>
    obtain rfl := zln_eq hl 3 rfl
    simp only [zheap] at he
    split at he
    · next j n dp a sp a0 r hlk =>
      split at he
      · cases he
      · next hneg =>
        have hr : (zvs w r).length ≤ 4 := by unfold zvs; rw [List.length_map]; exact Nat.not_lt.mp (fun q => hneg (Or.inr (Or.inr (Or.inr q))))
        split at he
        · next n0 f n1 g hc0 hc1 =>
          split at he
          · next h1 =>
            cases he
            exact zs_copyi X hlk hd hls hR hr (fun q => hneg (Or.inl q)) (fun q => hneg (Or.inr (Or.inl q))) (fun q => hneg (Or.inr (Or.inr (Or.inl q)))) hc0 hc1 h1.1 h1.2 hPic hS (fun H1 locs1 hP1 hS1 => zW_same (zcpi_n _ _ _ _ _ _) (kk H1 locs1 hP1 hS1))
          · cases he
        · next n0 f n1 g hc0 hc1 =>
          split at he
          · next h1 =>
            cases he
            exact zs_copyl X hlk hd hls hR hr (fun q => hneg (Or.inl q)) (fun q => hneg (Or.inr (Or.inl q))) (fun q => hneg (Or.inr (Or.inr (Or.inl q)))) hc0 hc1 h1.1 h1.2 hPic hS (fun H1 locs1 hP1 hS1 => zW_same (zcpl_n _ _ _ _ _ _) (kk H1 locs1 hP1 hS1))
          · cases he
        · cases he
    · cases he
  all_goals cases he
end ZM
