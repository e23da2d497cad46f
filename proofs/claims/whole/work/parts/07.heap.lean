/-! THE SIMULATION, second half: the heap -/
theorem zlookup_mem {α : Type} {k : Nat} {v : α} : ∀ {l : List (Nat × α)}, l.lookup k = some v → (k, v) ∈ l
  | [], h => by cases h
  | (a, b) :: l, h => by
    rw [List.lookup_cons] at h
    by_cases e : k = a
    · subst e
      simp at h
      subst h
      exact List.mem_cons_self
    · have e2 : (k == a) = false := by simp [e]
      rw [e2] at h
      exact List.mem_cons_of_mem _ (zlookup_mem h)
theorem zow_eq {y : Nat} {q : zMr} (hq : zP[y]? = some q) : zow y = q.1.1 := by simp [zow, hq]
theorem zws_len (w : zG) (h : zH) : (zws w h).length = h.1 - 3 := by simp [zws]
theorem zws_at (w : zG) (h : zH) (k : Nat) : (zws w h)[k]? = if k < h.1 - 3 then some (w.1 + k, zce w (h.2.2 (k + 3))) else none := by
  unfold zws
  rw [List.getElem?_map]
  by_cases hk : k < h.1 - 3
  · rw [if_pos hk, List.getElem?_range hk]
    rfl
  · rw [if_neg hk, List.getElem?_eq_none (by simpa using hk)]
    rfl
theorem zad_new {w : zG} {a : Nat} (h3 : 3 ≤ a) : zad w a = w.1 + (a - 3) := by unfold zad; rw [if_neg (by omega)]
theorem zws_get {w : zG} {h : zH} {a : Nat} (h3 : 3 ≤ a) (ha : a < h.1) : (zws w h)[a - 3]? = some (zad w a, zce w (h.2.2 a)) := by
  rw [zws_at, if_pos (by omega), zad_new h3, show a - 3 + 3 = a by omega]
theorem zws_set {w : zG} {h : zH} {a m : Nat} {x : zC} (h3 : 3 ≤ a) (ha : a < h.1) : (zws w h).set (a - 3) (zad w a, zce w x) = zws w (h.1, m, zup h.2.2 a x) := by
  apply List.ext_getElem?
  intro k
  rw [List.getElem?_set, zws_at, zws_at, zws_len]
  by_cases hk : k = a - 3
  · subst hk
    rw [if_pos rfl, if_pos (by omega), if_pos (show a - 3 < h.1 - 3 by omega), show a - 3 + 3 = a by omega, zad_new h3]
    simp [zup]
  · rw [if_neg (fun e => hk e.symm)]
    by_cases hl : k < h.1 - 3
    · rw [if_pos hl, if_pos hl]
      simp [zup, show ¬ k + 3 = a by omega]
    · rw [if_neg hl, if_neg hl]
theorem zws_push {w : zG} {h : zH} {m : Nat} {x : zC} (h3 : 3 ≤ h.1) : zws w (h.1 + 1, m, zup h.2.2 h.1 x) = zws w h ++ [(w.1 + (h.1 - 3), zce w x)] := by
  apply List.ext_getElem?
  intro k
  rw [zws_at]
  by_cases hk : k < h.1 - 3
  · rw [List.getElem?_append_left (by rw [zws_len]; exact hk), zws_at, if_pos hk, if_pos (by show k < h.1 + 1 - 3; omega)]
    simp [zup, show ¬ k + 3 = h.1 by omega]
  · rw [List.getElem?_append_right (by rw [zws_len]; omega), zws_len]
    by_cases he : k = h.1 - 3
    · subst he
      rw [if_pos (by show h.1 - 3 < h.1 + 1 - 3; omega)]
      simp [zup, show h.1 - 3 + 3 = h.1 by omega]
    · rw [if_neg (by show ¬ k < h.1 + 1 - 3; omega), List.getElem?_eq_none (by simp; omega)]
theorem zws_D (w : zG) (h : zH) : va_D (zA w) (zws w h) := by
  refine ⟨fun i j p q hi hj e => ?_, fun k q hk => ?_⟩
  · rw [zws_at] at hi hj
    split at hi
    · split at hj
      · cases hi; cases hj
        dsimp only at e
        omega
      · cases hj
    · cases hi
  · rw [zws_at] at hk
    split at hk
    · cases hk
      exact Nat.le_add_right _ _
    · cases hk
/-- the picture, without the size -/
theorem zPic_obj {w : zG} {h : zH} {H : Heap} (hp : zPic w h H) {a ci : Nat} {fs : List Value} (hc : h.2.2 a = .inr (ci, fs)) (h13 : ci < 13) : 3 ≤ a ∧ a < h.1 := by
  obtain ⟨-, h3, h4, h5, h6, h7⟩ := hp
  constructor
  · rcases Nat.lt_or_ge a 3 with q | q
    · rcases (show a = 0 ∨ a = 1 ∨ a = 2 by omega) with rfl | rfl | rfl
      · rw [h5] at hc; cases hc
      · rw [h6] at hc; cases hc; omega
      · rw [h7] at hc; cases hc
    · exact q
  · rcases Nat.lt_or_ge a h.1 with q | q
    · exact q
    · rw [h4 a q] at hc; cases hc; omega
theorem zPic_arr {w : zG} {h : zH} {H : Heap} (hp : zPic w h H) {a : Nat} {t : FieldType} {x : vp_A} (hc : h.2.2 a = .inl (t, x)) (ht : t ∈ zTs) : 3 ≤ a ∧ a < h.1 := by
  obtain ⟨-, h3, h4, h5, h6, h7⟩ := hp
  constructor
  · rcases Nat.lt_or_ge a 3 with q | q
    · rcases (show a = 0 ∨ a = 1 ∨ a = 2 by omega) with rfl | rfl | rfl
      · rw [h5] at hc; cases hc; revert ht; decide
      · rw [h6] at hc; cases hc
      · rw [h7] at hc; cases hc; revert ht; decide
    · exact q
  · rcases Nat.lt_or_ge a h.1 with q | q
    · exact q
    · rw [h4 a q] at hc; cases hc
theorem zty_at (w : zG) {t : FieldType} (ht : t ∈ zTs) : ∃ t0 : Nat, (ztys w)[t0]? = some (w.2.2.2.2.1 t, t) := List.getElem?_of_mem (List.mem_map.mpr ⟨t, ht, rfl⟩)
theorem zgf_some {h : zH} {a ci k : Nat} {v : Value} (e : zgf h a ci k = some v) : ∃ fs, h.2.2 a = .inr (ci, fs) ∧ fs[k]? = some v := by
  unfold zgf at e
  split at e
  · next o ho =>
    obtain ⟨c, fs⟩ := o
    split at e
    · next hc => dsimp only at hc e; subst hc; exact ⟨fs, ho, e⟩
    · cases e
  · cases e
theorem zig_some {h : zH} {a k : Nat} {v : Int32} (e : zig h a k = some v) : ∃ n g, h.2.2 a = .inl (.int, n, .inl g) ∧ k < n ∧ v = g k := by
  unfold zig at e
  split at e
  · next n g ho =>
    split at e
    · next hk => cases e; exact ⟨n, g, ho, hk, rfl⟩
    · cases e
  · cases e
theorem zbg_some {h : zH} {a k : Nat} {v : Int32} (e : zbg h a k = some v) : ∃ n g, h.2.2 a = .inl (.byte, n, .inl g) ∧ k < n ∧ v = g k := by
  unfold zbg at e
  split at e
  · next n g ho =>
    split at e
    · next hk => cases e; exact ⟨n, g, ho, hk, rfl⟩
    · cases e
  · cases e
theorem zlg_some {h : zH} {a k : Nat} {v : Int64} (e : zlg h a k = some v) : ∃ n g, h.2.2 a = .inl (.long, n, .inr (.inl g)) ∧ k < n ∧ v = g k := by
  unfold zlg at e
  split at e
  · next n g ho =>
    split at e
    · next hk => cases e; exact ⟨n, g, ho, hk, rfl⟩
    · cases e
  · cases e
theorem zag_some {h : zH} {a k v : Nat} (e : zag h a k = some v) : ∃ t n g, h.2.2 a = .inl (t, n, .inr (.inr (.inr (.inr g)))) ∧ t ∈ zTs ∧ t.isReference = true ∧ k < n ∧ g k = some v := by
  unfold zag at e
  split at e
  · next t n g ho =>
    split at e
    · next hk => exact ⟨t, n, g, ho, hk.1.1, hk.1.2, hk.2, e⟩
    · cases e
  · cases e
theorem zsc_some {h : zH} {a k : Nat} {v : Int32} (e : zsc h a k = some v) : ∃ n g, h.2.2 a = .inl (.short, n, .inl g) ∧ a = 0 ∧ k < n ∧ v = g k := by
  unfold zsc at e
  split at e
  · next n g ho =>
    split at e
    · next hk => cases e; exact ⟨n, g, ho, hk.1, hk.2, rfl⟩
    · cases e
  · cases e
theorem zsb_some {h : zH} {a k : Nat} {v : Int32} (e : zsb h a k = some v) : ∃ n g, h.2.2 a = .inl (.char, n, .inl g) ∧ a = 2 ∧ k < n ∧ v = g k := by
  unfold zsb at e
  split at e
  · next n g ho =>
    split at e
    · next hk => cases e; exact ⟨n, g, ho, hk.1, hk.2, rfl⟩
    · cases e
  · cases e
theorem zin_of {i : Int32} {n : Nat} (h0 : ¬ i < 0) (h : i.toNatClampNeg < n) : vp_in i n := fun q => q.elim h0 (fun q => absurd h (Nat.not_lt.mpr q))
theorem znar_fit {t : FieldType} {v : Value} (h : zfit t v = true) (w : zG) : narrow t (zv w v) = zv w v ∧ fits t (zv w v) = true := by
  cases t <;> cases v <;> first | (cases h; done) | exact ⟨rfl, rfl⟩ | skip
  case byte.int v =>
    have e : v.toInt8.toInt32 = v := beq_iff_eq.mp h
    have h1 := pk_nb v
    have h2 := pk_fb v
    rw [e] at h1 h2
    exact ⟨h1, h2⟩
  case char.int v =>
    have e : (v.toUInt32 % 65536).toInt32 = v := beq_iff_eq.mp h
    have h1 := pk_nc v
    have h2 := pk_fc v
    rw [e] at h1 h2
    exact ⟨h1, h2⟩
  case boolean.int v =>
    have e : v = 0 ∨ v = 1 := by simpa [zfit] using h
    rcases e with rfl | rfl <;> exact ⟨rfl, rfl⟩
/-- a method's frame: the machine, its code, its words, its row; the world as it was at the entry -/
def zCx (w : zG) (p : Program) (s : State) (m : MethodId) (args : Array Value) (meth : Method) (c : Code) (cc : ByteArray) (y : Nat) (q : zMr) : Prop :=
  p.tables.exec = Jvm.exec ∧ c.code = cc ∧ c.maxLocals = q.1.2.2.1 ∧ s.vm.findClass q.1.2.1.cls = some m.cls ∧ (∀ x ∈ zwl, x.before args s = true) ∧ zP[y]? = some q ∧ zOn[q.1.1]? = some q.1.2.1.cls ∧ (q.1.2.1.name = "<init>" → meth.name = "<init>") ∧ zU w s s.heap
section ZH
variable {p : Program} {l : Launch} {e : Env} {R : Room} {s : State} {m : MethodId} {args : Array Value} {below : List Frame} {meth : Method} {c : Code} {H : Heap} {locs : List Loc} {cells slots : Nat} {Q : State → Prop} {cc : ByteArray} {pc : Nat} {ls : Array Slot} {w : zG} {y : Nat} {q : zMr} {h : zH} {rest : List Value}
theorem zFk_at (X : zCx w p s m args meth c cc y q) {ix ci k : Nat} (hlk : (zFk.getD (zow y) []).lookup ix = some (ci, k)) : ∃ pp, zFok q.1.2.1.cls (ix, ci, k) pp = true := by
  obtain ⟨-, -, -, -, -, hq, hon, -⟩ := X
  rw [zow_eq hq] at hlk
  exact zlk2_mem zFk_ok _ _ hon _ (zlookup_mem hlk)
theorem zFk_own (X : zCx w p s m args meth c cc y q) {ix ci k : Nat} {r : vw_C} (hlk : (zFk.getD (zow y) []).lookup ix = some (ci, k)) (hc : zCl[ci]? = some r) : k < r.2.2 ∧ (r.2.1 k).1 = r.1 ∧ (Cond.fieldLink q.1.2.1.cls ix r.1 (r.2.1 k).2.1 (r.2.1 k).2.2.1).before args s = true := by
  obtain ⟨pp, h1⟩ := zFk_at X hlk
  unfold zFok at h1
  dsimp only at h1
  rw [hc] at h1
  simp only [Bool.and_eq_true, decide_eq_true_eq] at h1
  exact ⟨h1.1.1, h1.1.2, X.2.2.2.2.1 _ (zwm h1.2 rfl)⟩
theorem zcl_lt {ci : Nat} (h : ci < 13) : ∃ r, zCl[ci]? = some r := ⟨zCl[ci]'h, List.getElem?_eq_getElem h⟩
set_option maxHeartbeats 4000000 in
theorem zs_getf (X : zCx w p s m args meth c cc y q) {ix ci k a : Nat} {v : Value} (hlk : (zFk.getD (zow y) []).lookup ix = some (ci, k)) (hd : decode cc pc = .ok (.getfield ix, 3)) (h1 : ci < 13 ∨ a = 1) (hv : zgf h a ci k = some v) (hPic : zPic w h H) (hS : va_S (zA w) s.heap H locs)
    (kk : W p l e R s m args below meth c H locs cells slots Q (F0 m (pc + 3) ls (zv w v :: rest))) : W p l e R s m args below meth c H locs cells slots Q (F0 m pc ls (.ref (zad w a) :: rest)) := by
  obtain ⟨fs, hcell, hk⟩ := zgf_some hv
  by_cases h13 : ci < 13
  · obtain ⟨r, hr⟩ := zcl_lt h13
    obtain ⟨hkN, hT1, hlink⟩ := zFk_own X hlk hr
    obtain ⟨h3, ha⟩ := zPic_obj hPic hcell h13
    have he := zws_get (w := w) h3 ha
    rw [hcell] at he
    obtain ⟨C, T, N⟩ := r
    exact va_get X.1 X.2.1 (own := q.1.2.1.cls) (ref := C) X.2.2.2.2.1 (zcl_in ci _ hr).1 X.2.2.2.1 X.2.2.2.2.2.2.2.2.1 hPic.1 (a - 3) he hr k hkN hlink (fun x hx => by rw [hT1] at hx; exact hx) (v := zv w v) (by rw [List.getElem?_map, hk]; rfl) hd kk
  · obtain ⟨pp, h2⟩ := zFk_at X hlk
    have hn : zCl[ci]? = none := List.getElem?_eq_none (by simp [zCl]; omega)
    unfold zFok at h2
    dsimp only at h2
    rw [hn] at h2
    simp only [Bool.and_eq_true, decide_eq_true_eq] at h2
    obtain ⟨rfl, h2⟩ := h2
    obtain rfl : a = 1 := h1.resolve_left h13
    obtain ⟨-, -, -, -, h6, -⟩ := hPic
    rw [h6] at hcell
    cases hcell
    obtain ⟨-, -, -, -, hvS, -⟩ := X.2.2.2.2.2.2.2.2
    obtain ⟨hO, hco, hva, hT⟩ := hvS.1 0 (by decide)
    have hz : zad w 1 = w.2.1 1 := rfl
    rw [hz]
    match k, hk, h2 with
    | 0, hk, h2 =>
      cases hk
      exact vk_getf X.1 X.2.1 hva hS X.2.2.2.1 (X.2.2.2.2.1 _ (zwm (of_decide_eq_true h2) rfl)) (fun x hx => hx) hd kk
    | 1, hk, h2 =>
      cases hk
      exact vk_getf X.1 X.2.1 hco hS X.2.2.2.1 (X.2.2.2.2.1 _ (zwm (of_decide_eq_true h2) rfl)) (fun x hx => hx) hd kk
    | k + 2, hk, h2 => cases hk
theorem zOn_cl : ∀ (ci : Nat) (r : vw_C), zCl[ci]? = some r → ci ≠ 1 → zOn[ci]? = some r.1
  | 0, r, h, _ => by cases h; rfl
  | 1, r, h, n => absurd rfl n
  | 2, r, h, _ => by cases h; rfl
  | 3, r, h, _ => by cases h; rfl
  | 4, r, h, _ => by cases h; rfl
  | 5, r, h, _ => by cases h; rfl
  | 6, r, h, _ => by cases h; rfl
  | 7, r, h, _ => by cases h; rfl
  | 8, r, h, _ => by cases h; rfl
  | 9, r, h, _ => by cases h; rfl
  | 10, r, h, _ => by cases h; rfl
  | 11, r, h, _ => by cases h; rfl
  | 12, r, h, _ => by cases h; rfl
  | k + 13, r, h, _ => by simp [zCl] at h
theorem zPic_set (hPic : zPic w h H) {a : Nat} {x : zC} {H1 : Heap} (h3 : 3 ≤ a) (ha : a < h.1) (hP1 : va_P w.2.2.2.1 zCl ((zws w h).set (a - 3) (zad w a, zce w x)) H1) : zPic w (h.1, h.2.1, zup h.2.2 a x) H1 := by
  obtain ⟨-, g3, g4, g5, g6, g7⟩ := hPic
  refine ⟨by rw [← zws_set h3 ha]; exact hP1, g3, fun b hb => ?_, ?_, ?_, ?_⟩
  · show zup h.2.2 a x b = zdum
    rw [zup, if_neg (by have : h.1 ≤ b := hb; omega)]
    exact g4 b hb
  · show zup h.2.2 a x 0 = _
    rw [zup, if_neg (by omega)]; exact g5
  · show zup h.2.2 a x 1 = _
    rw [zup, if_neg (by omega)]; exact g6
  · show zup h.2.2 a x 2 = _
    rw [zup, if_neg (by omega)]; exact g7
set_option maxHeartbeats 4000000 in
theorem zs_putf (X : zCx w p s m args meth c cc y q) {ix ci k a : Nat} {v : Value} (hlk : (zFk.getD (zow y) []).lookup ix = some (ci, k)) (hd : decode cc pc = .ok (.putfield ix, 3)) (h13 : ci < 13) (hsome : (zgf h a ci k).isSome = true) (hfit : zfit (zfT ci k) v = true) (hfin : zfF ci k = true → zini y = true ∧ zow y = ci) (hPic : zPic w h H) (hS : va_S (zA w) s.heap H locs)
    (kk : ∀ (H1 : Heap) (locs1 : List Loc), zPic w (zpf h a k v) H1 → va_S (zA w) s.heap H1 locs1 → W p l e R s m args below meth c H1 locs1 cells slots Q (F0 m (pc + 3) ls rest)) : W p l e R s m args below meth c H locs cells slots Q (F0 m pc ls (zv w v :: .ref (zad w a) :: rest)) := by
  obtain ⟨v0, hv0⟩ := Option.isSome_iff_exists.mp hsome
  obtain ⟨fs, hcell, hk⟩ := zgf_some hv0
  obtain ⟨r, hr⟩ := zcl_lt h13
  obtain ⟨hkN, hT1, hlink⟩ := zFk_own X hlk hr
  obtain ⟨h3, ha⟩ := zPic_obj hPic hcell h13
  have he := zws_get (w := w) h3 ha
  rw [hcell] at he
  have hF : zfF ci k = (r.2.1 k).2.2.2 := by simp [zfF, hr]
  obtain ⟨hin, hty, hnm⟩ := zcl_in ci _ hr
  obtain ⟨C, T, N⟩ := r
  obtain ⟨hn, hf⟩ := znar_fit hfit w
  have hlen : k < (fs.map (zv w)).length := by rw [List.length_map]; exact (List.getElem?_eq_some_iff.mp hk).1
  have fin : ∀ (H1 : Heap), va_P w.2.2.2.1 zCl ((zws w h).set (a - 3) (zad w a, .inr (ci, (fs.map (zv w)).set k (zv w v)))) H1 → zPic w (zpf h a k v) H1 := fun H1 hP1 => by
    have e1 : zpf h a k v = (h.1, h.2.1, zup h.2.2 a (.inr (ci, fs.set k v))) := by simp [zpf, hcell]
    rw [e1]
    refine zPic_set hPic h3 ha ?_
    have e2 : zce w (.inr (ci, fs.set k v)) = .inr (ci, (fs.map (zv w)).set k (zv w v)) := by simp [zce, List.map_set]
    rw [e2]
    exact hP1
  cases hb : (T k).2.2.2 with
  | false => exact va_put X.1 X.2.1 (own := q.1.2.1.cls) (ref := C) X.2.2.2.2.1 hin _ hty hnm X.2.2.2.1 X.2.2.2.2.2.2.2.2.1 hPic.1 (zws_D w h) hS (a - 3) he hr k hkN hlink (fun x hx => by rw [hT1] at hx; exact hx) hb (hty k hkN) hn hf hlen hd (fun H1 locs1 hP1 _ hS1 => kk H1 locs1 (fin H1 hP1) hS1)
  | true =>
    obtain ⟨hi, ho⟩ := hfin (hF.trans hb)
    obtain ⟨-, -, -, -, -, hq, hon, hnm2, -⟩ := id X
    have hname : q.1.2.1.name = "<init>" := by
      simp only [zini, hq] at hi
      exact beq_iff_eq.mp hi
    have hown : (T k).1 = q.1.2.1.cls := by
      rw [hT1]
      have hne : ci ≠ 1 := fun q1 => by
        have hm := zlookup_mem hlk
        rw [q1] at hm
        have h1 := zF_kin
        rw [List.all_eq_true] at h1
        have h2 : zFk.getD (zow y) [] ∈ zFk := by
          rcases Nat.lt_or_ge (zow y) zFk.length with g | g
          · rw [List.getD_eq_getElem?_getD, List.getElem?_eq_getElem g]
            exact List.getElem_mem g
          · rw [List.getD_eq_getElem?_getD, List.getElem?_eq_none g] at hm
            exact absurd hm List.not_mem_nil
        have h3 := List.all_eq_true.mp (h1 _ h2) _ hm
        exact absurd rfl (bne_iff_ne.mp h3)
      have e1 := zOn_cl ci _ hr hne
      rw [← ho, zow_eq hq, hon] at e1
      exact (Option.some.inj e1).symm
    exact va_putF X.1 X.2.1 (own := q.1.2.1.cls) (ref := C) X.2.2.2.2.1 hin _ hty hnm X.2.2.2.1 X.2.2.2.2.2.2.2.2.1 hPic.1 (zws_D w h) hS (a - 3) he hr k hkN hlink (fun x hx => by rw [hT1] at hx; exact hx) hb (hnm2 hname) hown (hty k hkN) hn hf hlen hd (fun H1 locs1 hP1 _ hS1 => kk H1 locs1 (fin H1 hP1) hS1)
end ZH
section ZH2
variable {p : Program} {l : Launch} {e : Env} {R : Room} {s : State} {m : MethodId} {args : Array Value} {below : List Frame} {meth : Method} {c : Code} {H : Heap} {locs : List Loc} {cells slots : Nat} {Q : State → Prop} {cc : ByteArray} {pc : Nat} {ls : Array Slot} {w : zG} {y : Nat} {q : zMr} {h : zH} {rest : List Value}
theorem zmem_int : FieldType.int ∈ zTs := by decide
theorem zmem_long : FieldType.long ∈ zTs := by decide
theorem zmem_byte : FieldType.byte ∈ zTs := by decide
theorem zs_iald (X : zCx w p s m args meth c cc y q) {a : Nat} {i v : Int32} (hd : decode cc pc = .ok (.iaload, 1)) (hv : zld h a i = some v) (hPic : zPic w h H) (hS : va_S (zA w) s.heap H locs)
    (kk : W p l e R s m args below meth c H locs cells slots Q (F0 m (pc + 1) ls (.int v :: rest))) : W p l e R s m args below meth c H locs cells slots Q (F0 m pc ls (.int i :: .ref (zad w a) :: rest)) := by
  unfold zld at hv
  split at hv
  · cases hv
  · next h0 =>
    split at hv
    · next v' hg =>
      cases hv
      obtain ⟨n, g, hc, hk, rfl⟩ := zig_some hg
      obtain ⟨h3, ha⟩ := zPic_arr hPic hc zmem_int
      have he := zws_get (w := w) h3 ha
      rw [hc] at he
      obtain ⟨t0, ht⟩ := zty_at w zmem_int
      exact va_iald X.1 X.2.1 X.2.2.2.2.2.2.2.2.1 hPic.1 (a - 3) t0 he ht (zin_of h0 hk) hd kk
    · obtain ⟨n, g, hc, rfl, hk, rfl⟩ := zsc_some hv
      obtain ⟨-, -, -, h5, -⟩ := hPic
      rw [h5] at hc
      cases hc
      obtain ⟨-, hw, hb0, hX, -⟩ := X.2.2.2.2.2.2.2.2
      exact va_sld X.1 X.2.1 hX (Nat.lt_of_lt_of_le hb0 hw) (Nat.not_le.mpr hb0) hS (zin_of h0 hk) hd kk
theorem zs_bald (X : zCx w p s m args meth c cc y q) {a : Nat} {i v : Int32} (hd : decode cc pc = .ok (.baload, 1)) (hv : zbd h a i = some v) (hPic : zPic w h H) (hS : va_S (zA w) s.heap H locs)
    (kk : W p l e R s m args below meth c H locs cells slots Q (F0 m (pc + 1) ls (.int v :: rest))) : W p l e R s m args below meth c H locs cells slots Q (F0 m pc ls (.int i :: .ref (zad w a) :: rest)) := by
  unfold zbd at hv
  split at hv
  · cases hv
  · next h0 =>
    split at hv
    · next v' hg =>
      cases hv
      obtain ⟨n, g, hc, hk, rfl⟩ := zbg_some hg
      obtain ⟨h3, ha⟩ := zPic_arr hPic hc zmem_byte
      have he := zws_get (w := w) h3 ha
      rw [hc] at he
      obtain ⟨t0, ht⟩ := zty_at w zmem_byte
      exact va_bald X.1 X.2.1 X.2.2.2.2.2.2.2.2.1 hPic.1 (a - 3) t0 he ht (zin_of h0 hk) hd kk
    · obtain ⟨n, g, hc, rfl, hk, rfl⟩ := zsb_some hv
      obtain ⟨-, -, -, -, -, h7⟩ := hPic
      rw [h7] at hc
      cases hc
      obtain ⟨-, -, -, -, hvS, -⟩ := X.2.2.2.2.2.2.2.2
      obtain ⟨-, -, -, hT⟩ := hvS.1 0 (by decide)
      exact va_tb X.1 X.2.1 hT hS (zin_of h0 hk) rfl hd kk
theorem zs_lald (X : zCx w p s m args meth c cc y q) {a : Nat} {i : Int32} {v : Int64} (hd : decode cc pc = .ok (.laload, 1)) (h0 : ¬ i < 0) (hv : zlg h a i.toNatClampNeg = some v) (hPic : zPic w h H)
    (kk : W p l e R s m args below meth c H locs cells slots Q (F0 m (pc + 1) ls (.long v :: rest))) : W p l e R s m args below meth c H locs cells slots Q (F0 m pc ls (.int i :: .ref (zad w a) :: rest)) := by
  obtain ⟨n, g, hc, hk, rfl⟩ := zlg_some hv
  obtain ⟨h3, ha⟩ := zPic_arr hPic hc zmem_long
  have he := zws_get (w := w) h3 ha
  rw [hc] at he
  obtain ⟨t0, ht⟩ := zty_at w zmem_long
  exact va_lald X.1 X.2.1 X.2.2.2.2.2.2.2.2.1 hPic.1 (a - 3) t0 he ht (zin_of h0 hk) hd kk
theorem zs_aald (X : zCx w p s m args meth c cc y q) {a v : Nat} {i : Int32} (hd : decode cc pc = .ok (.aaload, 1)) (h0 : ¬ i < 0) (hv : zag h a i.toNatClampNeg = some v) (hPic : zPic w h H)
    (kk : W p l e R s m args below meth c H locs cells slots Q (F0 m (pc + 1) ls (.ref (zad w v) :: rest))) : W p l e R s m args below meth c H locs cells slots Q (F0 m pc ls (.int i :: .ref (zad w a) :: rest)) := by
  obtain ⟨t, n, g, hc, htm, htr, hk, hg⟩ := zag_some hv
  obtain ⟨h3, ha⟩ := zPic_arr hPic hc htm
  have he := zws_get (w := w) h3 ha
  rw [hc] at he
  obtain ⟨t0, ht⟩ := zty_at w htm
  refine W.aald (v := va_rf ((g i.toNatClampNeg).map (zad w))) (ty := t) X.1 X.2.1 (hPic.1 _ _ he) ((X.2.2.2.2.2.2.2.2.1.2 t0 _ ht).1 n (fun j => va_rf ((g j).map (zad w)))) htr (fun q => by cases q) (by show ¬ (i < 0 ∨ (arrV _ _ _).slots.size ≤ _); rw [arrV_size]; exact zin_of h0 hk) (by show (arrV _ _ _).slots[_]? = _; rw [arrV_read _ _ hk]) rfl rfl hd ?_
  rw [hg]
  exact kk
theorem zs_iast (X : zCx w p s m args meth c cc y q) {a : Nat} {i x : Int32} (hd : decode cc pc = .ok (.iastore, 1)) (h0 : ¬ i < 0) (hv : (zig h a i.toNatClampNeg).isSome = true) (hPic : zPic w h H) (hS : va_S (zA w) s.heap H locs)
    (kk : ∀ (H1 : Heap) (locs1 : List Loc), zPic w (zpi h a i.toNatClampNeg x) H1 → va_S (zA w) s.heap H1 locs1 → W p l e R s m args below meth c H1 locs1 cells slots Q (F0 m (pc + 1) ls rest)) : W p l e R s m args below meth c H locs cells slots Q (F0 m pc ls (.int x :: .int i :: .ref (zad w a) :: rest)) := by
  obtain ⟨v0, hv⟩ := Option.isSome_iff_exists.mp hv
  obtain ⟨n, g, hc, hk, -⟩ := zig_some hv
  obtain ⟨h3, ha⟩ := zPic_arr hPic hc zmem_int
  have he := zws_get (w := w) h3 ha
  rw [hc] at he
  obtain ⟨t0, ht⟩ := zty_at w zmem_int
  refine va_iast X.1 X.2.1 X.2.2.2.2.2.2.2.2.1 hPic.1 (zws_D w h) hS (a - 3) t0 he ht (zin_of h0 hk) hd (fun H1 locs1 hP1 _ hS1 => kk H1 locs1 ?_ hS1)
  have e1 : zpi h a i.toNatClampNeg x = (h.1, h.2.1, zup h.2.2 a (.inl (.int, n, .inl (upd g i.toNatClampNeg x)))) := by simp [zpi, hc]
  rw [e1]
  exact zPic_set hPic h3 ha hP1
theorem zs_bast (X : zCx w p s m args meth c cc y q) {a : Nat} {i x : Int32} (hd : decode cc pc = .ok (.bastore, 1)) (h0 : ¬ i < 0) (hv : (zbg h a i.toNatClampNeg).isSome = true) (hPic : zPic w h H) (hS : va_S (zA w) s.heap H locs)
    (kk : ∀ (H1 : Heap) (locs1 : List Loc), zPic w (zpi h a i.toNatClampNeg x.toInt8.toInt32) H1 → va_S (zA w) s.heap H1 locs1 → W p l e R s m args below meth c H1 locs1 cells slots Q (F0 m (pc + 1) ls rest)) : W p l e R s m args below meth c H locs cells slots Q (F0 m pc ls (.int x :: .int i :: .ref (zad w a) :: rest)) := by
  obtain ⟨v0, hv⟩ := Option.isSome_iff_exists.mp hv
  obtain ⟨n, g, hc, hk, -⟩ := zbg_some hv
  obtain ⟨h3, ha⟩ := zPic_arr hPic hc zmem_byte
  have he := zws_get (w := w) h3 ha
  rw [hc] at he
  obtain ⟨t0, ht⟩ := zty_at w zmem_byte
  refine va_bast X.1 X.2.1 X.2.2.2.2.2.2.2.2.1 hPic.1 (zws_D w h) hS (a - 3) t0 he ht (zin_of h0 hk) hd (fun H1 locs1 hP1 _ hS1 => kk H1 locs1 ?_ hS1)
  have e1 : zpi h a i.toNatClampNeg x.toInt8.toInt32 = (h.1, h.2.1, zup h.2.2 a (.inl (.byte, n, .inl (upd g i.toNatClampNeg x.toInt8.toInt32)))) := by simp [zpi, hc]
  rw [e1]
  rw [vp_nar_byte] at hP1
  exact zPic_set hPic h3 ha hP1
theorem zs_last (X : zCx w p s m args meth c cc y q) {a : Nat} {i : Int32} {x : Int64} (hd : decode cc pc = .ok (.lastore, 1)) (h0 : ¬ i < 0) (hv : (zlg h a i.toNatClampNeg).isSome = true) (hPic : zPic w h H) (hS : va_S (zA w) s.heap H locs)
    (kk : ∀ (H1 : Heap) (locs1 : List Loc), zPic w (zpl h a i.toNatClampNeg x) H1 → va_S (zA w) s.heap H1 locs1 → W p l e R s m args below meth c H1 locs1 cells slots Q (F0 m (pc + 1) ls rest)) : W p l e R s m args below meth c H locs cells slots Q (F0 m pc ls (.long x :: .int i :: .ref (zad w a) :: rest)) := by
  obtain ⟨v0, hv⟩ := Option.isSome_iff_exists.mp hv
  obtain ⟨n, g, hc, hk, -⟩ := zlg_some hv
  obtain ⟨h3, ha⟩ := zPic_arr hPic hc zmem_long
  have he := zws_get (w := w) h3 ha
  rw [hc] at he
  obtain ⟨t0, ht⟩ := zty_at w zmem_long
  refine va_last X.1 X.2.1 X.2.2.2.2.2.2.2.2.1 hPic.1 (zws_D w h) hS (a - 3) t0 he ht (zin_of h0 hk) hd (fun H1 locs1 hP1 _ hS1 => kk H1 locs1 ?_ hS1)
  have e1 : zpl h a i.toNatClampNeg x = (h.1, h.2.1, zup h.2.2 a (.inl (.long, n, .inr (.inl (vp_updL g i.toNatClampNeg x))))) := by simp [zpl, hc]
  rw [e1]
  exact zPic_set hPic h3 ha hP1
theorem zcls_own {h : zH} {x ci : Nat} (e : zcls h x = ci) (hci : ci < 13) : ∃ fs, h.2.2 x = .inr (ci, fs) := by
  unfold zcls at e
  split at e
  · next o ho => obtain ⟨c, fs⟩ := o; dsimp only at e; subst e; exact ⟨fs, ho⟩
  · omega
theorem zs_aast (X : zCx w p s m args meth c cc y q) {a x n : Nat} {i : Int32} {C : String} {g : Nat → Option Nat} (hd : decode cc pc = .ok (.aastore, 1)) (h0 : ¬ i < 0) (hc : h.2.2 a = .inl (.object C, n, .inr (.inr (.inr (.inr g))))) (hk : i.toNatClampNeg < n) (hx : zcls h x < 13) (hN : zcN (zcls h x) = C) (hm : FieldType.object C ∈ zTs) (hPic : zPic w h H) (hS : va_S (zA w) s.heap H locs)
    (kk : ∀ (H1 : Heap) (locs1 : List Loc), zPic w (zpa h a i.toNatClampNeg x) H1 → va_S (zA w) s.heap H1 locs1 → W p l e R s m args below meth c H1 locs1 cells slots Q (F0 m (pc + 1) ls rest)) : W p l e R s m args below meth c H locs cells slots Q (F0 m pc ls (.ref (zad w x) :: .int i :: .ref (zad w a) :: rest)) := by
  obtain ⟨h3, ha⟩ := zPic_arr hPic hc hm
  have he := zws_get (w := w) h3 ha
  rw [hc] at he
  obtain ⟨t0, ht⟩ := zty_at w hm
  generalize hci : zcls h x = ci at hx hN
  obtain ⟨fs, hcx⟩ := zcls_own hci hx
  obtain ⟨h3x, hax⟩ := zPic_obj hPic hcx hx
  have hex := zws_get (w := w) h3x hax
  rw [hcx] at hex
  obtain ⟨r, hr⟩ := zcl_lt hx
  have hr1 : r.1 = C := by rw [← hN]; simp [zcN, hr]
  subst hr1
  refine va_astq X.1 X.2.1 X.2.2.2.2.2.2.2.2.1 hPic.1 (zws_D w h) hS (a - 3) t0 (x - 3) ci he ht hex hr (zin_of h0 hk) hd (fun H1 locs1 hP1 _ hS1 => kk H1 locs1 ?_ hS1)
  have e1 : zpa h a i.toNatClampNeg x = (h.1, h.2.1, zup h.2.2 a (.inl (.object r.1, n, .inr (.inr (.inr (.inr (va_up g i.toNatClampNeg (some x)))))))) := by simp [zpa, hc]
  rw [e1]
  refine zPic_set hPic h3 ha ?_
  have e2 : zce w (.inl (.object r.1, n, .inr (.inr (.inr (.inr (va_up g i.toNatClampNeg (some x))))))) = .inl (w.2.2.2.2.1 (.object r.1), n, .inr (.inr (.inr (.inr (va_up (fun j => (g j).map (zad w)) i.toNatClampNeg (some (zad w x))))))) := by
    have : (fun j => (va_up g i.toNatClampNeg (some x) j).map (zad w)) = va_up (fun j => (g j).map (zad w)) i.toNatClampNeg (some (zad w x)) := by
      funext j
      unfold va_up
      by_cases hj : j = i.toNatClampNeg
      · rw [if_pos hj, if_pos hj]; rfl
      · rw [if_neg hj, if_neg hj]
    simp only [zce, this]
  rw [e2]
  exact hP1
theorem zs_alen (X : zCx w p s m args meth c cc y q) {a n : Nat} (hd : decode cc pc = .ok (.arraylength, 1)) (hv : zlen h a = some n) (hPic : zPic w h H) (hS : va_S (zA w) s.heap H locs)
    (kk : W p l e R s m args below meth c H locs cells slots Q (F0 m (pc + 1) ls (.int (Int32.ofNat n) :: rest))) : W p l e R s m args below meth c H locs cells slots Q (F0 m pc ls (.ref (zad w a) :: rest)) := by
  have gen : ∀ (t : FieldType) (x : vp_A), h.2.2 a = .inl (t, x) → t ∈ zTs → x.1 = n → (∃ g, x.2 = .inl g) ∨ (∃ g, x.2 = .inr (.inl g)) → W p l e R s m args below meth c H locs cells slots Q (F0 m pc ls (.ref (zad w a) :: rest)) := by
    intro t x hc htm hx hsh
    obtain ⟨h3, ha⟩ := zPic_arr hPic hc htm
    have he := zws_get (w := w) h3 ha
    rw [hc] at he
    obtain ⟨t0, ht⟩ := zty_at w htm
    obtain ⟨n', x2⟩ := x
    dsimp only at hx hsh
    subst hx
    rcases hsh with ⟨g, rfl⟩ | ⟨g, rfl⟩
    · exact va_alen X.1 X.2.1 X.2.2.2.2.2.2.2.2.1 hPic.1 (a - 3) t0 he ht rfl hd kk
    · exact va_alen X.1 X.2.1 X.2.2.2.2.2.2.2.2.1 hPic.1 (a - 3) t0 he ht rfl hd kk
  unfold zlen at hv
  split at hv
  · next g hc => cases hv; exact gen _ _ hc zmem_int rfl (Or.inl ⟨_, rfl⟩)
  · next g hc => cases hv; exact gen _ _ hc zmem_byte rfl (Or.inl ⟨_, rfl⟩)
  · next g hc => cases hv; exact gen _ _ hc zmem_long rfl (Or.inr ⟨_, rfl⟩)
  · next n' g hc =>
    split at hv
    · next ha =>
      cases hv
      subst ha
      obtain ⟨-, -, -, h5, -⟩ := hPic
      rw [h5] at hc
      cases hc
      obtain ⟨-, hw, hb0, hX, -⟩ := X.2.2.2.2.2.2.2.2
      exact va_slen X.1 X.2.1 hX (Nat.lt_of_lt_of_le hb0 hw) (Nat.not_le.mpr hb0) hS hd kk
    · cases hv
  · next n' g hc =>
    split at hv
    · next ha =>
      cases hv
      subst ha
      obtain ⟨-, -, -, -, -, h7⟩ := hPic
      rw [h7] at hc
      cases hc
      obtain ⟨-, -, -, -, hvS, -⟩ := X.2.2.2.2.2.2.2.2
      obtain ⟨-, -, -, hT⟩ := hvS.1 0 (by decide)
      exact va_tlen X.1 X.2.1 hT hS rfl hd kk
    · cases hv
  · cases hv
/-! what is made -/
theorem zW_size (k : H.size ≤ s.heap.size + cells → W p l e R s m args below meth c H locs cells slots Q (F0 m pc ls rest)) : W p l e R s m args below meth c H locs cells slots Q (F0 m pc ls rest) := fun T hT X => k (by rw [← hT]; exact X.same.2.2.1) T hT X
theorem zq_new {x : va_E} {a : Nat} (h3 : 3 ≤ h.1) (hP : va_P w.2.2.2.1 zCl (zws w h ++ [(a, x)]) H) (hD : va_D (zA w) (zws w h ++ [(a, x)])) (hup : H.size ≤ w.1 + (h.1 - 3) + 1) : a = w.1 + (h.1 - 3) := by
  have hl : (zws w h ++ [(a, x)])[h.1 - 3]? = some (a, x) := by
    rw [List.getElem?_append_right (by rw [zws_len]; omega), zws_len]
    simp
  have h1 := (hP _ _ hl).lt
  have h2 : w.1 ≤ a := hD.2 _ _ hl
  dsimp only at h1
  rcases Nat.lt_or_ge a (w.1 + (h.1 - 3)) with g | g
  · have hi : (zws w h ++ [(a, x)])[a - w.1]? = some (w.1 + (a - w.1), zce w (h.2.2 (a - w.1 + 3))) := by
      rw [List.getElem?_append_left (by rw [zws_len]; omega), zws_at, if_pos (by omega)]
    have := hD.1 _ _ _ _ hi hl (by dsimp only; omega)
    omega
  · omega
theorem zPic_push {x : zC} {n : Nat} {H1 : Heap} (hPic : zPic w h H) (hP1 : va_P w.2.2.2.1 zCl (zws w h ++ [(w.1 + (h.1 - 3), zce w x)]) H1) : zPic w (h.1 + 1, n, zup h.2.2 h.1 x) H1 := by
  obtain ⟨-, g3, g4, g5, g6, g7⟩ := hPic
  refine ⟨by rw [zws_push g3]; exact hP1, Nat.le_succ_of_le g3, fun b hb => ?_, ?_, ?_, ?_⟩
  · show zup h.2.2 h.1 x b = zdum
    have hb : h.1 + 1 ≤ b := hb
    rw [zup, if_neg (by omega)]
    exact g4 b (by omega)
  · show zup h.2.2 h.1 x 0 = _
    rw [zup, if_neg (by omega)]; exact g5
  · show zup h.2.2 h.1 x 1 = _
    rw [zup, if_neg (by omega)]; exact g6
  · show zup h.2.2 h.1 x 2 = _
    rw [zup, if_neg (by omega)]; exact g7
theorem zdef_ok (w : zG) {ci : Nat} {r : vw_C} (hr : zCl[ci]? = some r) : ∀ j, j < r.2.2 → defaultValue ((zTy.getD ci (fun _ => .int)) j) = vp_V ((zdef ci).map (zv w)) j := by
  intro j hj
  have e : zfN ci = r.2.2 := by simp [zfN, hr]
  unfold vp_V zdef
  have e2 : (List.map (zv w) (List.map (fun k => defaultValue (zfT ci k)) (List.range (zfN ci)))).getD j .null = zv w (defaultValue (zfT ci j)) := by
    simp [List.getD, e, hj]
  rw [e2]
  unfold zfT
  cases (zTy.getD ci (fun _ => .int)) j <;> rfl
theorem zs_new (X : zCx w p s m args meth c cc y q) {ix ci : Nat} (hlk : (zCk.getD (zow y) []).lookup ix = some ci) (h13 : ci < 13) (h1 : ci ≠ 1) (hd : decode cc pc = .ok (.new ix, 3)) (hPic : zPic w h H) (hS : va_S (zA w) s.heap H locs) (hcl : s.heap.size + cells = w.1 + (h.1 - 3)) (hcells : cells + 1 ≤ R.cells) (hslots : slots + zfN ci ≤ R.slots)
    (kk : ∀ (H1 : Heap) (locs1 : List Loc), zPic w (znew h ci) H1 → va_S (zA w) s.heap H1 locs1 → W p l e R s m args below meth c H1 locs1 (cells + 1) (slots + zfN ci) Q (F0 m (pc + 3) ls (.ref (zad w h.1) :: rest))) : W p l e R s m args below meth c H locs cells slots Q (F0 m pc ls rest) := by
  obtain ⟨r, hr⟩ := zcl_lt h13
  obtain ⟨hx, hb, -, hown, hts, hq, hon, -, hU⟩ := id X
  have hlink : (Cond.classLink q.1.2.1.cls ix r.1).before args s = true := by
    rw [zow_eq hq] at hlk
    obtain ⟨pp, hp⟩ := zlk2_mem zCk_ok _ _ hon _ (zlookup_mem hlk)
    unfold zCok at hp
    dsimp only at hp
    rw [hr] at hp
    exact hts _ (zwm (of_decide_eq_true hp) rfl)
  obtain ⟨hin, hty, hnm⟩ := zcl_in ci _ hr
  obtain ⟨hinst, hini⟩ := zcl_new ci _ hr h1
  have eN : zfN ci = r.2.2 := by simp [zfN, hr]
  rw [eN] at hslots kk
  refine va_new (fs := (zdef ci).map (zv w)) hx hb hts hin _ hty hown hlink (hts _ hinst) (hts _ hini) hU.1 hPic.1 (zws_D w h) hS (fun q hq => Nat.le_trans hU.2.1 hq) hr (zdef_ok w hr) hcells hslots hd (fun a H1 hP1 hD1 hS1 => ?_)
  refine zW_size (fun hup => ?_)
  have ea := zq_new hPic.2.1 hP1 hD1 (by omega)
  subst ea
  have e2 : zad w h.1 = w.1 + (h.1 - 3) := zad_new hPic.2.1
  rw [e2] at kk
  exact kk H1 _ (by unfold znew; rw [eN]; exact zPic_push hPic hP1) hS1
theorem zRA_eq {t : FieldType} {c1 c2 : ClassId} (h1 : va_RA s c1 t) (h2 : va_RA s c2 t) : c1 = c2 := by
  cases t with
  | object C =>
    obtain ⟨_, _, -, -, -, h1⟩ := h1
    obtain ⟨_, _, -, -, -, h2⟩ := h2
    exact Option.some.inj (h1.symm.trans h2)
  | _ => exact Option.some.inj (Eq.trans (Eq.symm h1) h2)
theorem zcA_eq (hK : va_K w.2.2.2.1 zCl (ztys w) s) {t : FieldType} (ht : t ∈ zTs) {cA : ClassId} (hK2 : va_K w.2.2.2.1 zCl (ztys w ++ [(cA, t)]) s) : cA = w.2.2.2.2.1 t := by
  obtain ⟨t0, h0⟩ := zty_at w ht
  refine zRA_eq (t := t) ?_ (hK.2 t0 _ h0).2
  exact (hK2.2 (ztys w).length (cA, t) (by simp)).2
theorem zs_newa (X : zCx w p s m args meth c cc y q) {n : Int32} {at_ : ArrayType} {t : FieldType} (hty : newarray.typeOf at_ = t) (htm : t ∈ zTs) {g : (Nat → Int32) ⊕ (Nat → Int64) ⊕ (Nat → UInt32) ⊕ (Nat → UInt64) ⊕ (Nat → Option Nat)} (hg : ∀ cA : ClassId, vp_cell cA (n.toNatClampNeg, g) = arrV cA n.toNatClampNeg (fun _ => defaultValue t)) (hgg : ∀ cA : ClassId, zce w (.inl (t, n.toNatClampNeg, g)) = .inl (w.2.2.2.2.1 t, n.toNatClampNeg, g)) (hcw : (Cond.arrayClass t).before args s = true) (hz : zsz n = true) (hcb : n.toNatClampNeg * componentBytes t ≤ 536870912) (hd : decode cc pc = .ok (.newarray at_, 2)) (hPic : zPic w h H) (hS : va_S (zA w) s.heap H locs) (hcl : s.heap.size + cells = w.1 + (h.1 - 3)) (hcells : cells + 1 ≤ R.cells) (hslots : slots + n.toNatClampNeg ≤ R.slots)
    (kk : ∀ (H1 : Heap) (locs1 : List Loc), zPic w (h.1 + 1, h.2.1 + n.toNatClampNeg, zup h.2.2 h.1 (.inl (t, n.toNatClampNeg, g))) H1 → va_S (zA w) s.heap H1 locs1 → W p l e R s m args below meth c H1 locs1 (cells + 1) (slots + n.toNatClampNeg) Q (F0 m (pc + 2) ls (.ref (zad w h.1) :: rest))) : W p l e R s m args below meth c H locs cells slots Q (F0 m pc ls (.int n :: rest)) := by
  obtain ⟨hx, hb, -, hown, hts, hq, hon, -, hU⟩ := id X
  have h0 : ¬ n < 0 := by
    unfold zsz at hz
    simp at hz
    exact Int32.not_lt.mpr hz.1
  refine va_newa (a0 := (n.toNatClampNeg, g)) hx hb (by rw [hty]; exact hcw) hty hU.1 hPic.1 (zws_D w h) hS (fun q hq => Nat.le_trans hU.2.1 hq) hg h0 rfl hcb hcells hslots hd (fun a cA H1 hK1 hP1 hD1 hS1 => ?_)
  refine zW_size (fun hup => ?_)
  have ea := zq_new hPic.2.1 hP1 hD1 (by omega)
  subst ea
  have ec := zcA_eq hU.1 htm hK1
  subst ec
  rw [zad_new hPic.2.1] at kk
  exact kk H1 _ (zPic_push hPic (by rw [hgg 0]; exact hP1)) hS1
theorem zs_anew (X : zCx w p s m args meth c cc y q) {ix ci : Nat} {n : Int32} (hlk : (zCk.getD (zow y) []).lookup ix = some ci) (hci : ci = 6 ∨ ci = 7) (hz : zsz n = true) (hd : decode cc pc = .ok (.anewarray ix, 3)) (hPic : zPic w h H) (hS : va_S (zA w) s.heap H locs) (hcl : s.heap.size + cells = w.1 + (h.1 - 3)) (hcells : cells + 1 ≤ R.cells) (hslots : slots + n.toNatClampNeg ≤ R.slots)
    (kk : ∀ (H1 : Heap) (locs1 : List Loc), zPic w (znewa h ci n.toNatClampNeg) H1 → va_S (zA w) s.heap H1 locs1 → W p l e R s m args below meth c H1 locs1 (cells + 1) (slots + n.toNatClampNeg) Q (F0 m (pc + 3) ls (.ref (zad w h.1) :: rest))) : W p l e R s m args below meth c H locs cells slots Q (F0 m pc ls (.int n :: rest)) := by
  obtain ⟨hx, hb, -, hown, hts, hq, hon, -, hU⟩ := id X
  have hz2 : ¬ n < 0 ∧ n.toNatClampNeg ≤ 5000 := by
    unfold zsz at hz
    simp at hz
    exact ⟨Int32.not_lt.mpr hz.1, hz.2⟩
  have h13 : ci < 13 := by omega
  obtain ⟨r, hr⟩ := zcl_lt h13
  have hlink : (Cond.classLink q.1.2.1.cls ix r.1).before args s = true := by
    rw [zow_eq hq] at hlk
    obtain ⟨pp, hp⟩ := zlk2_mem zCk_ok _ _ hon _ (zlookup_mem hlk)
    unfold zCok at hp
    dsimp only at hp
    rw [hr] at hp
    exact hts _ (zwm (of_decide_eq_true hp) rfl)
  have hcn : zcN ci = r.1 := by simp [zcN, hr]
  have hAO := hU.2.2.2.2.2.2.2.1
  have hmem : FieldType.object r.1 ∈ zTs ∧ va_AO r.1 s := by
    rcases hci with rfl | rfl
    · cases hr; exact ⟨by decide, hAO.2.2.1⟩
    · cases hr; exact ⟨by decide, hAO.2.1⟩
  have hover : va_AO r.1 s := hmem.2
  refine va_newq hx hb hown hlink hover hU.1 hPic.1 (zws_D w h) hS (fun q hq => Nat.le_trans hU.2.1 hq) hz2.1 rfl (by omega) hcells hslots hd (fun a cA H1 hK1 hP1 hD1 hS1 => ?_)
  refine zW_size (fun hup => ?_)
  have ea := zq_new hPic.2.1 hP1 hD1 (by omega)
  subst ea
  have ec := zcA_eq hU.1 hmem.1 hK1
  subst ec
  rw [zad_new hPic.2.1] at kk
  refine kk H1 _ ?_ hS1
  unfold znewa
  rw [hcn]
  exact zPic_push hPic hP1
end ZH2
section ZH3
variable {p : Program} {l : Launch} {e : Env} {R : Room} {s : State} {m : MethodId} {args : Array Value} {below : List Frame} {meth : Method} {c : Code} {H : Heap} {locs : List Loc} {cells slots : Nat} {Q : State → Prop} {cc : ByteArray} {pc : Nat} {ls : Array Slot} {w : zG} {y : Nat} {q : zMr} {h : zH} {rest : List Value}
theorem zlow (hPic : zPic w h H) (hw : w.1 ≤ H.size) : w.1 + (h.1 - 3) ≤ H.size := by
  rcases Nat.eq_or_lt_of_le hPic.2.1 with g | g
  · omega
  · have h1 := (hPic.1 _ _ (zws_get (w := w) (h := h) (a := h.1 - 1) (by omega) (by omega))).lt
    rw [zad_new (by omega)] at h1
    dsimp only at h1
    omega
theorem vr_outer (c : ClassId) (N h0 : Nat) : ∀ i : Nat, Jvm.Free.Multi.outerC c N h0 i = arrV c N (fun j => va_rf (if j < i then some (h0 + 1 + j) else none))
  | 0 => by
    show ({ cls := c, slots := Array.replicate N .null, vm := .none } : Cell) = _
    rw [arrV_new]
    refine congrArg (arrV c N) (funext fun j => ?_)
    simp [va_rf]
  | i + 1 => by
    show (Jvm.Free.Multi.outerC c N h0 i).setSlot i (.ref (h0 + 1 + i)) = _
    rw [vr_outer c N h0 i, arrV_store]
    refine congrArg (arrV c N) (funext fun j => ?_)
    by_cases e : j = i
    · subst e
      simp [updV, va_rf]
    · by_cases h : j < i
      · simp [updV, e, h, Nat.lt_succ_of_lt h]
      · simp [updV, e, h, show ¬ j < i + 1 by omega]
set_option maxHeartbeats 4000000 in
theorem zs_mna (X : zCx w p s m args meth c cc y q) {n k : Int32} (ho : zow y = 9) (hzn : zsz n = true) (hzk : zsz k = true) (hd : decode cc pc = .ok (.multianewarray 18 2, 4)) (hPic : zPic w h H) (hS : va_S (zA w) s.heap H locs) (hcl : s.heap.size + cells = w.1 + (h.1 - 3)) (hcells : cells + (1 + n.toNatClampNeg) ≤ R.cells) (hslots : slots + (n.toNatClampNeg + n.toNatClampNeg * k.toNatClampNeg) ≤ R.slots)
    (kk : ∀ (H1 : Heap) (locs1 : List Loc), zPic w (znewg h n.toNatClampNeg k.toNatClampNeg) H1 → va_S (zA w) s.heap H1 locs1 → W p l e R s m args below meth c H1 locs1 (cells + (1 + n.toNatClampNeg)) (slots + (n.toNatClampNeg + n.toNatClampNeg * k.toNatClampNeg)) Q (F0 m (pc + 4) ls (.ref (zad w h.1) :: rest))) : W p l e R s m args below meth c H locs cells slots Q (F0 m pc ls (.int k :: .int n :: rest)) := by
  obtain ⟨hx, hb, -, hown, hts, hq, hon, -, hU⟩ := id X
  have hn2 : ¬ n < 0 ∧ n.toNatClampNeg ≤ 5000 := by
    unfold zsz at hzn
    simp at hzn
    exact ⟨Int32.not_lt.mpr hzn.1, hzn.2⟩
  have hk2 : ¬ k < 0 ∧ k.toNatClampNeg ≤ 5000 := by
    unfold zsz at hzk
    simp at hzk
    exact ⟨Int32.not_lt.mpr hzk.1, hzk.2⟩
  have hcls : q.1.2.1.cls = "NineNames$Trays" := by
    rw [zow_eq hq] at ho
    rw [ho] at hon
    exact (Option.some.inj hon).symm
  rw [hcls] at hown
  have hlink : (Cond.classLink "NineNames$Trays" 18 ("[" ++ (FieldType.array .long).toString)).before args s = true := hts _ (zwx (by decide +kernel) rfl)
  have hover : (Cond.arrayOver (.array .long)).before args s = true := hU.2.2.2.2.2.2.2.1.2.2.2
  have harr : (Cond.arrayClass .long).before args s = true := hts _ (zwx (by decide +kernel) rfl)
  obtain ⟨t1, ht1⟩ := zty_at w zmem_long
  have hcy : s.vm.findClass (FieldType.array .long).toString = some (w.2.2.2.2.1 .long) := (hU.1.2 t1 _ ht1).2
  have hw : w.1 ≤ H.size := Nat.le_trans hU.2.1 hS.1
  intro T hT Xs
  have hsz : H.size = w.1 + (h.1 - 3) := by
    have h1 := zlow hPic hw
    have h2 : T.heap.size ≤ s.heap.size + cells := Xs.same.2.2.1
    rw [hT] at h2
    omega
  obtain ⟨vm₁, cA, comp, -, fA, fC, hO, -, X', step⟩ := Xs.multianewarray2F hx hown hlink hover harr (g := F0 m pc ls (.int k :: .int n :: rest)) rfl (by rw [hb]; exact hd) rfl hn2.1 hk2.1 (by omega) (by show k.toNatClampNeg * 8 ≤ 536870912; omega) (by omega) rfl rfl hcells hslots
  have ec : some (w.2.2.2.2.1 .long) = some comp := hcy.symm.trans fC
  cases ec
  generalize hF : Jvm.Free.Multi.fill (T.setVm vm₁) cA (w.2.2.2.2.1 .long) n.toNatClampNeg k.toNatClampNeg (defaultValue .long) n.toNatClampNeg = F at X' step
  have hTh : (T.setVm vm₁).heap = H := hT
  obtain ⟨f1, f2, -, -⟩ := Jvm.Free.Multi.fill_facts (T.setVm vm₁) cA (w.2.2.2.2.1 .long) n.toNatClampNeg k.toNatClampNeg (defaultValue .long) n.toNatClampNeg
  rw [hF, hTh] at f1 f2
  have hold : ∀ x : Nat, x < H.size → F.heap[x]? = H[x]? := fun x hx => by
    have := Jvm.Free.Multi.fill_old (T.setVm vm₁) cA (w.2.2.2.2.1 .long) n.toNatClampNeg k.toNatClampNeg (defaultValue .long) (a := x) (by rw [hTh]; exact hx) n.toNatClampNeg
    rw [hF, hTh] at this
    exact this
  have hrow : ∀ j : Nat, j < n.toNatClampNeg → F.heap[H.size + 1 + j]? = some (Jvm.Free.Multi.innerC (w.2.2.2.2.1 .long) k.toNatClampNeg (defaultValue .long)) := fun j hj => by
    have := Jvm.Free.Multi.fill_inner (T.setVm vm₁) cA (w.2.2.2.2.1 .long) n.toNatClampNeg k.toNatClampNeg (defaultValue .long) n.toNatClampNeg j hj
    rw [hF, hTh] at this
    exact this
  have hcA : cA = w.2.2.2.2.1 (.array .long) := by
    obtain ⟨t2, ht2⟩ := zty_at w (t := .array .long) (by decide)
    exact zRA_eq (t := .array .long) fA (hU.1.2 t2 _ ht2).2
  have hpic1 : zPic w (znewg h n.toNatClampNeg k.toNatClampNeg) F.heap := by
    obtain ⟨hP, g3, g4, g5, g6, g7⟩ := hPic
    refine ⟨fun i x hi => ?_, ?_, fun b hb => ?_, ?_, ?_, ?_⟩
    · rw [zws_at] at hi
      split at hi
      · next hlt =>
        cases hi
        have hlt : i < h.1 + (1 + n.toNatClampNeg) - 3 := hlt
        rcases Nat.lt_trichotomy i (h.1 - 3) with hi | hi | hi
        · have e : (znewg h n.toNatClampNeg k.toNatClampNeg).2.2 (i + 3) = h.2.2 (i + 3) := by
            show (if i + 3 = h.1 then _ else if h.1 < i + 3 ∧ i + 3 < h.1 + 1 + n.toNatClampNeg then _ else h.2.2 (i + 3)) = _
            rw [if_neg (by omega), if_neg (by omega)]
          rw [e]
          have h1 := hP i (w.1 + i, zce w (h.2.2 (i + 3))) (by rw [zws_at, if_pos hi])
          exact h1.kept (hold _ h1.lt)
        · have e : (znewg h n.toNatClampNeg k.toNatClampNeg).2.2 (i + 3) = .inl (.array .long, n.toNatClampNeg, .inr (.inr (.inr (.inr (fun i => if i < n.toNatClampNeg then some (h.1 + 1 + i) else none))))) := by
            show (if i + 3 = h.1 then _ else _) = _
            rw [if_pos (by omega)]
          rw [e]
          show F.heap[w.1 + i]? = some (vp_cell (w.2.2.2.2.1 (.array .long)) (n.toNatClampNeg, .inr (.inr (.inr (.inr (fun j => (if j < n.toNatClampNeg then some (h.1 + 1 + j) else none).map (zad w)))))))
          rw [hi, ← hsz, f2, vp_cell_q, ← hcA, vr_outer]
          congr 2
          funext j
          by_cases hj : j < n.toNatClampNeg
          · rw [if_pos hj, if_pos hj]
            show va_rf (some (H.size + 1 + j)) = va_rf (some (zad w (h.1 + 1 + j)))
            rw [zad_new (by omega), hsz, show w.1 + (h.1 + 1 + j - 3) = w.1 + (h.1 - 3) + 1 + j by omega]
          · rw [if_neg hj, if_neg hj]
            rfl
        · have e : (znewg h n.toNatClampNeg k.toNatClampNeg).2.2 (i + 3) = .inl (.long, k.toNatClampNeg, .inr (.inl (fun _ => 0))) := by
            show (if i + 3 = h.1 then _ else if h.1 < i + 3 ∧ i + 3 < h.1 + 1 + n.toNatClampNeg then _ else _) = _
            rw [if_neg (by omega), if_pos (by omega)]
          rw [e]
          show F.heap[w.1 + i]? = some (vp_cell (w.2.2.2.2.1 .long) (k.toNatClampNeg, .inr (.inl (fun _ => 0))))
          have h1 := hrow (i - (h.1 - 3) - 1) (by omega)
          rw [hsz, show w.1 + (h.1 - 3) + 1 + (i - (h.1 - 3) - 1) = w.1 + i by omega] at h1
          rw [h1, vp_cell_l, ← arrV_new]
          rfl
      · cases hi
    · show 3 ≤ h.1 + (1 + n.toNatClampNeg)
      omega
    · have hb : h.1 + (1 + n.toNatClampNeg) ≤ b := hb
      show (if b = h.1 then _ else if h.1 < b ∧ b < h.1 + 1 + n.toNatClampNeg then _ else h.2.2 b) = zdum
      rw [if_neg (by omega), if_neg (by omega)]
      exact g4 b (by omega)
    · show (if 0 = h.1 then _ else if h.1 < 0 ∧ 0 < h.1 + 1 + n.toNatClampNeg then _ else h.2.2 0) = _
      rw [if_neg (by omega), if_neg (by omega)]; exact g5
    · show (if 1 = h.1 then _ else if h.1 < 1 ∧ 1 < h.1 + 1 + n.toNatClampNeg then _ else h.2.2 1) = _
      rw [if_neg (by omega), if_neg (by omega)]; exact g6
    · show (if 2 = h.1 then _ else if h.1 < 2 ∧ 2 < h.1 + 1 + n.toNatClampNeg then _ else h.2.2 2) = _
      rw [if_neg (by omega), if_neg (by omega)]; exact g7
  have X'' : Stand p l e R s m args below meth c F locs (cells + (1 + n.toNatClampNeg)) (slots + (n.toNatClampNeg + n.toNatClampNeg * k.toNatClampNeg)) := by
    rw [← Nat.add_assoc, ← Nat.add_assoc]
    first | exact X' | (rw [Nat.add_assoc, Nat.add_assoc]; exact X')
  obtain ⟨t, a1, b1⟩ := kk F.heap locs hpic1 ⟨by rw [f1]; have := hS.1; omega, fun x h1 h2 => (hold x (Nat.lt_of_lt_of_le h1 hS.1)).trans (hS.2.1 x h1 h2), hS.2.2⟩ F rfl X''
  refine ⟨t, step t ?_, b1⟩
  have e : T.heap.size = zad w h.1 := by rw [hT, hsz, zad_new hPic.2.1]
  rw [e]
  exact a1
theorem zs_objInit (X : zCx w p s m args meth c cc y q) {ix : Nat} {a j : Nat} (hlk : (zMk.getD (zow y) []).lookup ix = some (3, j)) (hd : decode cc pc = .ok (.invokespecial ix, 3)) (hls : ls.size = c.maxLocals) (hR : 1 ≤ R.frames ∧ 60 ≤ R.locals) (hrest : rest.length ≤ 4)
    (kk : W p l e R s m args below meth c H locs cells slots Q (F0 m (pc + 3) ls rest)) : W p l e R s m args below meth c H locs cells slots Q (F0 m pc ls (.ref a :: rest)) := by
  obtain ⟨hx, hb, -, hown, hts, hq, hon, -, hU⟩ := id X
  have hlink : (Cond.methodLink q.1.2.1.cls ix Lib.objectInit).before args s = true := by
    rw [zow_eq hq] at hlk
    obtain ⟨pp, hp⟩ := zMk_at _ _ hon _ (zlookup_mem hlk)
    exact hts _ (zwm (of_decide_eq_true hp) rfl)
  have h1 := zcat_le rest
  refine W.objInit hx hb hown hlink (hts _ (zwx (by decide +kernel) rfl)) (hts _ (zwx (by decide +kernel) rfl)) rfl hls rfl hd hR.1 ?_ kk
  show 2 * 0 + _ + 12 ≤ _
  omega
theorem zfits_int (x : Int32) : fits .int (.int x) = true := rfl
set_option maxHeartbeats 4000000 in
theorem zs_copyi (X : zCx w p s m args meth c cc y q) {ix j a0 a n0 n1 : Nat} {sp dp n : Int32} {f g : Nat → Int32} (hlk : (zMk.getD (zow y) []).lookup ix = some (4, j)) (hd : decode cc pc = .ok (.invokestatic ix, 3)) (hls : ls.size = c.maxLocals) (hR : 1 ≤ R.frames ∧ 60 ≤ R.locals) (hrest : rest.length ≤ 4)
    (h1 : ¬ sp < 0) (h2 : ¬ dp < 0) (h3 : ¬ n < 0) (hc0 : h.2.2 a0 = .inl (.int, n0, .inl f)) (hc1 : h.2.2 a = .inl (.int, n1, .inl g)) (h4 : sp.toNatClampNeg + n.toNatClampNeg ≤ n0) (h5 : dp.toNatClampNeg + n.toNatClampNeg ≤ n1) (hPic : zPic w h H) (hS : va_S (zA w) s.heap H locs)
    (kk : ∀ (H1 : Heap) (locs1 : List Loc), zPic w (zcpi h a0 a sp.toNatClampNeg dp.toNatClampNeg n.toNatClampNeg) H1 → va_S (zA w) s.heap H1 locs1 → W p l e R s m args below meth c H1 locs1 cells slots Q (F0 m (pc + 3) ls rest)) : W p l e R s m args below meth c H locs cells slots Q (F0 m pc ls (.int n :: .int dp :: .ref (zad w a) :: .int sp :: .ref (zad w a0) :: rest)) := by
  obtain ⟨hx, hb, -, hown, hts, hq, hon, -, hU⟩ := id X
  have hlink : (Cond.methodLink q.1.2.1.cls ix arraycopyName).before args s = true := by
    rw [zow_eq hq] at hlk
    obtain ⟨pp, hp⟩ := zMk_at _ _ hon _ (zlookup_mem hlk)
    exact hts _ (zwm (of_decide_eq_true hp) rfl)
  obtain ⟨g3, ga⟩ := zPic_arr hPic hc1 zmem_int
  obtain ⟨g30, ga0⟩ := zPic_arr hPic hc0 zmem_int
  have he := zws_get (w := w) g3 ga
  have he0 := zws_get (w := w) g30 ga0
  rw [hc1] at he
  rw [hc0] at he0
  obtain ⟨t0, ht⟩ := zty_at w zmem_int
  have hcat := zcat_le rest
  have hnf : nativeFrameWords "java/lang/System" "arraycopy" 5 + 11 ≤ 40 := by decide +kernel
  refine va_copyi hx hb hls.symm hown hlink (hts _ (zwx (by decide +kernel) rfl)) (hts _ (zwx (by decide +kernel) rfl)) (hts _ (zwx (by decide +kernel) rfl)) hU.1 hPic.1 (zws_D w h) hS (a0 - 3) (a - 3) t0 t0 he0 he ht ht rfl h1 h2 h3 h4 h5 (fun i _ => rfl) hR.1 (by omega) hd (fun H1 locs1 hP1 _ hS1 => kk H1 locs1 ?_ hS1)
  have e1 : zcpi h a0 a sp.toNatClampNeg dp.toNatClampNeg n.toNatClampNeg = (h.1, h.2.1, zup h.2.2 a (.inl (.int, n1, .inl (va_cpy f g sp.toNatClampNeg dp.toNatClampNeg n.toNatClampNeg)))) := by simp [zcpi, hc0, hc1]
  rw [e1]
  exact zPic_set hPic g3 ga hP1
set_option maxHeartbeats 4000000 in
theorem zs_copyl (X : zCx w p s m args meth c cc y q) {ix j a0 a n0 n1 : Nat} {sp dp n : Int32} {f g : Nat → Int64} (hlk : (zMk.getD (zow y) []).lookup ix = some (4, j)) (hd : decode cc pc = .ok (.invokestatic ix, 3)) (hls : ls.size = c.maxLocals) (hR : 1 ≤ R.frames ∧ 60 ≤ R.locals) (hrest : rest.length ≤ 4)
    (h1 : ¬ sp < 0) (h2 : ¬ dp < 0) (h3 : ¬ n < 0) (hc0 : h.2.2 a0 = .inl (.long, n0, .inr (.inl f))) (hc1 : h.2.2 a = .inl (.long, n1, .inr (.inl g))) (h4 : sp.toNatClampNeg + n.toNatClampNeg ≤ n0) (h5 : dp.toNatClampNeg + n.toNatClampNeg ≤ n1) (hPic : zPic w h H) (hS : va_S (zA w) s.heap H locs)
    (kk : ∀ (H1 : Heap) (locs1 : List Loc), zPic w (zcpl h a0 a sp.toNatClampNeg dp.toNatClampNeg n.toNatClampNeg) H1 → va_S (zA w) s.heap H1 locs1 → W p l e R s m args below meth c H1 locs1 cells slots Q (F0 m (pc + 3) ls rest)) : W p l e R s m args below meth c H locs cells slots Q (F0 m pc ls (.int n :: .int dp :: .ref (zad w a) :: .int sp :: .ref (zad w a0) :: rest)) := by
  obtain ⟨hx, hb, -, hown, hts, hq, hon, -, hU⟩ := id X
  have hlink : (Cond.methodLink q.1.2.1.cls ix arraycopyName).before args s = true := by
    rw [zow_eq hq] at hlk
    obtain ⟨pp, hp⟩ := zMk_at _ _ hon _ (zlookup_mem hlk)
    exact hts _ (zwm (of_decide_eq_true hp) rfl)
  obtain ⟨g3, ga⟩ := zPic_arr hPic hc1 zmem_long
  obtain ⟨g30, ga0⟩ := zPic_arr hPic hc0 zmem_long
  have he := zws_get (w := w) g3 ga
  have he0 := zws_get (w := w) g30 ga0
  rw [hc1] at he
  rw [hc0] at he0
  obtain ⟨t0, ht⟩ := zty_at w zmem_long
  have hcat := zcat_le rest
  have hnf : nativeFrameWords "java/lang/System" "arraycopy" 5 + 11 ≤ 40 := by decide +kernel
  refine va_copyl hx hb hls.symm hown hlink (hts _ (zwx (by decide +kernel) rfl)) (hts _ (zwx (by decide +kernel) rfl)) (hts _ (zwx (by decide +kernel) rfl)) hU.1 hPic.1 (zws_D w h) hS (a0 - 3) (a - 3) t0 t0 he0 he ht ht rfl h1 h2 h3 h4 h5 (fun i _ => rfl) hR.1 (by omega) hd (fun H1 locs1 hP1 _ hS1 => kk H1 locs1 ?_ hS1)
  have e1 : zcpl h a0 a sp.toNatClampNeg dp.toNatClampNeg n.toNatClampNeg = (h.1, h.2.1, zup h.2.2 a (.inl (.long, n1, .inr (.inl (va_cpy f g sp.toNatClampNeg dp.toNatClampNeg n.toNatClampNeg))))) := by simp [zcpl, hc0, hc1]
  rw [e1]
  exact zPic_set hPic g3 ga hP1
end ZH3
