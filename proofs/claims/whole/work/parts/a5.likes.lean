/-! READING A TOWN: likes -/
section TD
variable {n m : Nat} {g : Nat → zC} {X Y : Nat → Nat → Int32} {JX JY : Nat → Nat → Int64} {L p N S q : Nat} {t : Int32} {c c' : Nat → Int32} {X' Y' : Nat → Nat → Int32} {JX' JY' : Nat → Nat → Int64}
theorem TQ.surn (h : TQ L p t N S c X JX Y JY) (hc : nb Y 0 = c 0) : (∃ k, k < S ∧ dName X JX = true ∧ dPlace X JX (33 + 1) S = (nI k, X) ∧ Ca 4 294 [.ref 143, .int 4, .int 0] Y JY (some (.int (nI k))) Y JY) ∨ ∃ X' Y', dPlace X JX (33 + 1) S = (-1, X') ∧ Ca 4 294 [.ref 143, .int 4, .int 0] Y JY (some (.int 0)) Y' JY ∧ BAD X' Y' ∧ FX X JX X' JX ∧ YG Y JY Y' JY :=
  r_told (B := 4) (s := 0) h.rs (by decide) (by decide) (by have := h.W.h6; omega) ((show Y 148 (506 * 4 + 0) = c 0 from hc).trans (h.R.n0.trans h.W.hS)) h.ws
theorem TS.like0 (h : TS L p t N S X JX Y JY) (hq : q < N) : TQ L p t N S (fu (nb Y) (126 + q) (nI 0)) (zu X (33 + 12) q (nI 0)) JX Y JY := by
  have h12 := h.W.h12
  have h6 := h.W.h6
  have hro : ∀ j, j ≠ 33 + 12 → zu X (33 + 12) q (nI 0) j = X j := fun j hj => zu_far _ _ _ hj
  have hK : ∀ r, pK (zu X (33 + 12) q (nI 0)) 33 r = if r = q then 0 else pK X 33 r := fun r => by
    unfold pK
    rw [zu_row]
    by_cases e : r = q
    · rw [if_pos e, if_pos e]
      rfl
    · rw [if_neg e, if_neg e]
  have hk6 := h.W.pK6
  refine ⟨h.rs.x (by decide), ?_, ?_, TQ.jw h, (TQ.nbq h).keep (fun r s h1 h2 h3 => fu_ne _ _ (by omega)) (fun r r' h1 h2 h3 => fu_ne _ _ (by omega)), fun r hr => ?_, ?_, TQ.told h⟩
  · refine h.W.row12 (fun j _ hj => hro _ (by omega)) (fun r hr => ?_) (fun r j hr hj => ?_)
    · rw [zu_row]
      by_cases e : r = q
      · rw [if_pos e]
        exact ⟨0, by decide, rfl⟩
      · rw [if_neg e]
        exact h.W.likes r hr
    · rw [hK] at hj
      by_cases e : r = q
      · rw [if_pos e] at hj
        omega
      · rw [if_neg e] at hj
        rw [hro _ (by decide)]
        exact h.W.like r j hr hj
  · refine RT.lk (TQ.R h) h12 h6 h.W.hQ.2 (fun j _ h1 h2 => hro _ (by omega)) (fun j h1 h2 => fu_ne _ _ (by omega)) (fun r hr => ?_) (fun r j hr hj => ?_)
    · rw [zu_row]
      by_cases e : r = q
      · rw [if_pos e, e, fu_eq]
      · rw [if_neg e, fu_ne _ _ (by omega)]
        exact (TQ.R h).likes r hr
    · rw [hK] at hj
      by_cases e : r = q
      · rw [if_pos e] at hj
        omega
      · rw [if_neg e] at hj
        have := hk6 r hr
        rw [hro _ (by decide), fu_ne _ _ (by omega)]
        exact (TQ.R h).like r j hr hj
  · rw [hro _ (by decide)]
    exact TQ.alive h r hr
  · rw [fu_ne _ _ (by omega)]
    exact TQ.c0 h
theorem TQ.like1 {k s : Nat} (h : TQ L p t N S (fu (nb Y) (126 + q) (nI k)) X JX Y JY) (hq : q < N) (hk : k < 6) (hs : s < S) : TQ L p t N S (fu (fu (nb Y) (138 + (6 * q + k)) (nI s)) (126 + q) (nI (k + 1))) (zu (zu X (33 + 13) (q * 6 + k) (nI s)) (33 + 12) q (nI (k + 1))) JX Y JY := by
  have h12 := h.W.h12
  have h6 := h.W.h6
  have eK : X (33 + 12) q = nI k := by rw [← h.R.likes q hq, fu_eq]
  have hk0 : pK X 33 q = k := by
    unfold pK
    rw [eK]
    exact nI_clamp (by omega)
  have hro : ∀ j, j ≠ 33 + 12 → j ≠ 33 + 13 → zu (zu X (33 + 13) (q * 6 + k) (nI s)) (33 + 12) q (nI (k + 1)) j = X j := fun j a b => by rw [zu_far _ _ _ a, zu_far _ _ _ b]
  have r12 : ∀ r, zu (zu X (33 + 13) (q * 6 + k) (nI s)) (33 + 12) q (nI (k + 1)) (33 + 12) r = if r = q then nI (k + 1) else X (33 + 12) r := fun r => by rw [zu_row, zu_far _ _ _ (by decide)]
  have r13 : ∀ r, zu (zu X (33 + 13) (q * 6 + k) (nI s)) (33 + 12) q (nI (k + 1)) (33 + 13) r = if r = q * 6 + k then nI s else X (33 + 13) r := fun r => by rw [zu_far _ _ _ (by decide), zu_row]
  have hK : ∀ r, pK (zu (zu X (33 + 13) (q * 6 + k) (nI s)) (33 + 12) q (nI (k + 1))) 33 r = if r = q then k + 1 else pK X 33 r := fun r => by
    unfold pK
    rw [r12]
    by_cases e : r = q
    · rw [if_pos e, if_pos e]
      exact nI_clamp (by omega)
    · rw [if_neg e, if_neg e]
  have hk6 := h.W.pK6
  refine ⟨(h.rs.x (by decide)).x (by decide), ?_, ?_, h.jw, h.nbq.keep (fun r s h1 h2 h3 => ?_) (fun r r' h1 h2 h3 => ?_), fun r hr => ?_, ?_, h.told⟩
  · have w13 : WT (zu X (33 + 13) (q * 6 + k) (nI s)) 33 N S 2999 := h.W.row13 (fun j _ hj => zu_far _ _ _ (by omega)) (fun r j hr hj => by
      have hj2 : j < pK X 33 r := by
        unfold pK at hj
        rw [zu_far _ _ _ (by decide)] at hj
        exact hj
      rw [zu_row]
      by_cases e : r * 6 + j = q * 6 + k
      · rw [if_pos e]
        exact ⟨s, hs, rfl⟩
      · rw [if_neg e]
        exact h.W.like r j hr hj2)
    refine w13.row12 (fun j _ hj => zu_far _ _ _ (by omega)) (fun r hr => ?_) (fun r j hr hj => ?_)
    · rw [r12]
      by_cases e : r = q
      · rw [if_pos e]
        exact ⟨k + 1, by omega, rfl⟩
      · rw [if_neg e]
        exact h.W.likes r hr
    · rw [hK] at hj
      rw [r13]
      by_cases e : r * 6 + j = q * 6 + k
      · rw [if_pos e]
        exact ⟨s, hs, rfl⟩
      · rw [if_neg e]
        refine h.W.like r j hr ?_
        by_cases e2 : r = q
        · rw [if_pos e2] at hj
          rw [e2, hk0]
          omega
        · rw [if_neg e2] at hj
          exact hj
  · refine RT.lk h.R h12 h6 h.W.hQ.2 (fun j _ h1 h2 => hro _ (by omega) (by omega)) (fun j h1 h2 => ?_) (fun r hr => ?_) (fun r j hr hj => ?_)
    · rw [fu_ne _ _ (by omega), fu_ne _ _ (by omega), fu_ne _ _ (by omega)]
    · rw [r12]
      by_cases e : r = q
      · rw [if_pos e, e, fu_eq]
      · rw [if_neg e, fu_ne _ _ (by omega), fu_ne _ _ (by omega)]
        have := h.R.likes r hr
        rw [fu_ne _ _ (by omega)] at this
        exact this
    · rw [hK] at hj
      have hj6 : j < 6 := by
        by_cases e2 : r = q
        · rw [if_pos e2] at hj
          omega
        · rw [if_neg e2] at hj
          have := hk6 r hr
          omega
      rw [r13, fu_ne _ _ (by omega)]
      by_cases e : r * 6 + j = q * 6 + k
      · rw [if_pos e, show 138 + (6 * r + j) = 138 + (6 * q + k) by omega, fu_eq]
      · rw [if_neg e, fu_ne _ _ (by omega)]
        have h3 := h.R.like r j hr (by
          by_cases e2 : r = q
          · rw [if_pos e2] at hj
            rw [e2, hk0]
            omega
          · rw [if_neg e2] at hj
            exact hj)
        rw [fu_ne _ _ (by omega)] at h3
        exact h3
  · rw [fu_ne _ _ (by omega), fu_ne _ _ (by omega), fu_ne _ _ (by omega)]
  · by_cases e : r = 126
    · rw [fu_ne _ _ (by omega), fu_ne _ _ (by omega), fu_ne _ _ (by omega)]
    · rw [fu_ne _ _ (by omega), fu_ne _ _ (by omega), fu_ne _ _ (by omega)]
  · rw [hro _ (by decide) (by decide)]
    exact h.alive r hr
  · have := h.c0
    rw [fu_ne _ _ (by omega)] at this
    rw [fu_ne _ _ (by omega), fu_ne _ _ (by omega)]
    exact this
theorem liked_y {b k : Nat} {s : Int32} {j : Nat} (hj : j < k) (e : X (b + 13) (q * 6 + j) = s) : tLiked X b q k s = 1 := zfind_b k 0 ⟨j, by omega, by omega, decide_eq_true e⟩
theorem liked_n {b k : Nat} {s : Int32} (h : ∀ j, j < k → X (b + 13) (q * 6 + j) ≠ s) : tLiked X b q k s = 0 := zfind_none k 0 (fun j _ hj => decide_eq_false (h j (by omega)))
theorem liked_or {b k : Nat} {s : Int32} : tLiked X b q k s = 1 ∧ (∃ j, j < k ∧ X (b + 13) (q * 6 + j) = s) ∨ tLiked X b q k s = 0 ∧ ∀ j, j < k → X (b + 13) (q * 6 + j) ≠ s := by
  by_cases h : ∃ j, j < k ∧ X (b + 13) (q * 6 + j) = s
  · obtain ⟨j, hj, e⟩ := h
    exact .inl ⟨liked_y hj e, j, hj, e⟩
  · have h' : ∀ j, j < k → X (b + 13) (q * 6 + j) ≠ s := fun j hj e => h ⟨j, hj, e⟩
    exact .inr ⟨liked_n h', h'⟩
/-- the surnames told so far -/
def SN (X : Nat → Nat → Int32) (q k : Nat) (w : Int32) : Prop := (∃ f, isS w f ∧ ∀ s, s < 6 → f s = decide (tLiked X 33 q k (nI s) = 1)) ∧ ∀ i j, i < j → j < k → X (33 + 13) (q * 6 + i) ≠ X (33 + 13) (q * 6 + j)
def LkC (t : Int32) (q k : Nat) (X : Nat → Nat → Int32) (JX : Nat → Nat → Int64) (v : Int32) (X' : Nat → Nat → Int32) (JX' : Nat → Nat → Int64) : Prop := ∀ (n m : Nat) (g : Nat → zC) (d a : Nat) (x : Option Value), 158 ≤ a → g a = tto t → zexec (d + 10) 134 33 [some (.ref a), some (.int (nI q)), some (.int (nI k)), x] [] (mk n m g X JX) = some (some (.int v), mk n m g X' JX')
def LkR (q k : Nat) (w : Int32) (Y : Nat → Nat → Int32) (JY : Nat → Nat → Int64) (Y' : Nat → Nat → Int32) (JY' : Nat → Nat → Int64) : Prop := ∀ (n m : Nat) (g : Nat → zC) (d : Nat) (x : Option Value), zexec (d + 10) 302 15 [some (.ref 143), some (.int (nI q)), some (.int (nI k)), some (.int w), x] [] (mk n m g Y JY) = some (none, mk n m g Y' JY')
theorem SN.next {k s : Nat} {w : Int32} (h : SN X q k w) (hk : k < 6) (hs : s < 6) (hn : ∀ j, j < k → X (33 + 13) (q * 6 + j) ≠ nI s) (h13 : ∀ r, X' (33 + 13) r = if r = q * 6 + k then nI s else X (33 + 13) r) : SN X' q (k + 1) (w ||| 1 <<< (nI s &&& 31)) := by
  obtain ⟨⟨f, f1, f2⟩, hd⟩ := h
  refine ⟨⟨_, isS_or f1 (isS_bt (show s < 12 by omega)), fun r hr => ?_⟩, fun i j hij hj e => ?_⟩
  · rw [f2 r hr]
    rcases liked_or (X := X') (b := 33) (q := q) (k := k + 1) (s := nI r) with ⟨e, j, hj, ej⟩ | ⟨e, hno⟩
    · rw [e, decide_eq_true rfl]
      rw [h13] at ej
      by_cases c : j = k
      · rw [if_pos (by omega)] at ej
        have : s = r := nI_inj (by omega) (by omega) ej
        rw [decide_eq_true this, Bool.or_true]
      · rw [if_neg (by omega)] at ej
        rw [liked_y (X := X) (b := 33) (q := q) (show j < k by omega) ej, decide_eq_true rfl, Bool.true_or]
    · have e1 : tLiked X 33 q k (nI r) = 0 := liked_n (fun j hj ej => hno j (by omega) (by rw [h13, if_neg (by omega)]; exact ej))
      have e2 : s ≠ r := fun e => hno k (by omega) (by rw [h13, if_pos rfl, e])
      rw [e, e1, decide_eq_false e2]
      rfl
  · rw [h13, h13] at e
    by_cases c : j = k
    · rw [if_neg (by omega), if_pos (by omega)] at e
      exact hn i (by omega) e
    · rw [if_neg (by omega), if_neg (by omega)] at e
      exact hd i j hij (by omega) e
def LkT (L p : Nat) (t : Int32) (N S q k : Nat) (w : Int32) (X : Nat → Nat → Int32) (JX : Nat → Nat → Int64) (Y : Nat → Nat → Int32) (JY : Nat → Nat → Int64) : Prop := ∃ X' JX' Y' JY', ((LkC t q k X JX 0 X' JX' ∧ BAD X' Y') ∨ (LkC t q k X JX 1 X' JX' ∧ ∃ p', p ≤ p' ∧ TS L p' t N S X' JX' Y' JY') ∨ (LkC t q k X JX 1 X' JX' ∧ X' 13 5 ≠ 4 ∧ BAD (dHere X') Y')) ∧ LkR q k w Y JY Y' JY' ∧ GX X JX X' JX' ∧ GY Y JY Y' JY'
set_option maxHeartbeats 4000000 in
theorem likes_step {k : Nat} {w : Int32} (hq : q < N) (hk : k ≤ 6) (h : TQ L p t N S (fu (nb Y) (126 + q) (nI k)) X JX Y JY) (hsn : SN X q k w) : LkT L p t N S q k w X JX Y JY ∨ ∃ s X3 JX3 Y4 JY4 p3, k < 6 ∧ (∀ (n m : Nat) (g : Nat → zC) (d a : Nat) (x : Option Value), 158 ≤ a → g a = tto t → zexec (d + 10) 134 33 [some (.ref a), some (.int (nI q)), some (.int (nI k)), x] [] (mk n m g X JX) = zexec (d + 10) 134 33 [some (.ref a), some (.int (nI q)), some (.int (nI (k + 1))), some (.int (nI s))] [] (mk n m g X3 JX3)) ∧ (∀ (n m : Nat) (g : Nat → zC) (d : Nat) (x : Option Value), zexec (d + 10) 302 15 [some (.ref 143), some (.int (nI q)), some (.int (nI k)), some (.int w), x] [] (mk n m g Y JY) = zexec (d + 10) 302 15 [some (.ref 143), some (.int (nI q)), some (.int (nI (k + 1))), some (.int (w ||| 1 <<< (nI s &&& 31))), some (.int (nI s))] [] (mk n m g Y4 JY4)) ∧ p ≤ p3 ∧ TQ L p3 t N S (fu (nb Y4) (126 + q) (nI (k + 1))) X3 JX3 Y4 JY4 ∧ SN X3 q (k + 1) (w ||| 1 <<< (nI s &&& 31)) ∧ GX X JX X3 JX3 ∧ GY Y JY Y4 JY4 := by
  have h12 := h.W.h12
  have h6 := h.W.h6
  have k6 : ((6 : Int32) < nI k) = False := eq_false (Int32.not_lt.mpr (nI_le (b := 6) hk (by decide)))
  have eK : X (33 + 12) q = nI k := by rw [← h.R.likes q hq, fu_eq]
  have wf : (Y 143 14 = 1) = (X 13 5 = 2) := h.rs.word1
  by_cases hn : dName X JX = true
  · have c5 : X 13 5 = 2 := by
      unfold dName at hn
      rw [decide_eq_true_eq] at hn
      exact hn.1
    have sH := fun n m g d => d_surnameHere (n := n) (m := m) (g := g) (J := JX) t33 h.W.hS h6 d
    rcases h.surn (by rw [fu_ne _ _ (by omega)]) with ⟨s, hs, _, hps, ts⟩ | ⟨X2, Y2, hp2, ts, hB, fx, yg⟩
    · rw [hps] at sH
      have smf : (nI s = -1) = False := eq_false (nI_m1 (by omega))
      obtain ⟨⟨fS, f1, f2⟩, hd⟩ := id hsn
      have hh := fun d hh => v_hasS f1 (show s < 12 by omega) d hh
      rw [f2 s (by omega)] at hh
      rcases liked_or (X := X) (b := 33) (q := q) (k := k) (s := nI s) with ⟨e, j, hj, ej⟩ | ⟨e, hno⟩
      · rw [e, decide_eq_true rfl] at hh
        have hB := h.rs.fails 5 (by decide) (by decide)
        rw [show nI 5 = 5 from rfl] at hB
        refine .inl ⟨dFail 5 X, JX, vFail 5 (X 13 4) Y, JY, .inl ⟨fun n m g d a x ha hg => ?_, hB⟩, fun n m g d x => ?_, (FX.fail _).gx, (YG.fail _ _).gy⟩
        · simp only [e_X8_likesPart_33, e_X8_likesPart_34, e_X8_likesPart_36, e_X8_likesPart_39, e_X8_likesPart_40, e_X8_likesPart_43, e_X8_likesPart_46, e_X8_likesPart_49, e_X8_likesPart_50, e_X8_likesPart_53, e_X8_likesPart_54, e_X8_likesPart_57, e_X8_likesPart_60, e_X8_likesPart_61, e_X8_likesPart_62, e_X8_likesPart_63, e_X8_likesPart_66, e_X8_likesPart_67, e_X8_likesPart_68, e_X8_likesPart_69, e_X8_likesPart_72, e_X8_likesPart_73, e_X8_likesPart_74, e_X8_likesPart_77, e_X8_likesPart_80, e_X8_likesPart_81, e_X8_likesPart_84, e_X8_likesPart_85, e_X8_likesPart_88, e_X8_likesPart_89, e_X8_likesPart_90, e_X8_likesPart_93, e_X8_likesPart_94, e_X8_likesPart_95, e_X8_likesPart_98, e_X8_likesPart_99, e_X8_likesPart_102, e_X8_likesPart_105, e_X8_likesPart_108, e_X8_likesPart_111, e_X8_likesPart_112, c_13, g_tt_0 ha hg, g_tt_1 ha hg, k6, d_atName, hn, bI, if_true, show ((1 : Int32) = 0) = False by decide, sH, smf, c_T0 t33, t_hasLiked t33 (show q < 12 by omega) eK hk, e, d_fail, zfit_b0, Option.bind_some, Option.isSome_some, Option.toList, List.cons_append, List.nil_append, zclr_i, zclr_r, zclr_n, zfit_i, zfit_l, and_self, if_true, if_false]
        · simp only [e_X12_readLikes_15, e_X12_readLikes_16, e_X12_readLikes_19, e_X12_readLikes_22, e_X12_readLikes_23, e_X12_readLikes_26, e_X12_readLikes_27, e_X12_readLikes_30, e_X12_readLikes_31, e_X12_readLikes_32, e_X12_readLikes_33, e_X12_readLikes_36, e_X12_readLikes_38, e_X12_readLikes_39, e_X12_readLikes_42, e_X12_readLikes_45, e_X12_readLikes_46, e_X12_readLikes_48, e_X12_readLikes_51, e_X12_readLikes_54, e_X12_readLikes_55, e_X12_readLikes_56, e_X12_readLikes_57, e_X12_readLikes_60, e_X12_readLikes_63, e_X12_readLikes_64, e_X12_readLikes_65, e_X12_readLikes_68, e_X12_readLikes_69, e_X12_readLikes_72, e_X12_readLikes_75, e_X12_readLikes_76, e_X12_readLikes_77, e_X12_readLikes_78, e_X12_readLikes_80, e_X12_readLikes_81, e_X12_readLikes_82, e_X12_readLikes_83, e_X12_readLikes_84, e_X12_readLikes_87, e_X12_readLikes_90, e_X12_readLikes_92, e_X12_readLikes_93, e_X12_readLikes_94, e_X12_readLikes_95, e_X12_readLikes_96, e_X12_readLikes_97, e_X12_readLikes_99, e_X12_readLikes_100, e_X12_readLikes_103, e_X12_readLikes_106, e_X12_readLikes_107, e_X12_readLikes_110, e_X12_readLikes_113, e_X12_readLikes_114, e_X12_readLikes_117, e_X12_readLikes_120, e_X12_readLikes_121, e_X12_readLikes_122, e_X12_readLikes_123, e_X12_readLikes_124, c_143, g_143_12, g_143_14, g_143_15, h.rs.bad, h.rs.at, wf, c5, ts, hh, bI, if_true, show ((1 : Int32) = 0) = False by decide, v_fail h.rs.bad, v_must_b hB, hB.ne, hB.lt, hB.le, Option.bind_some, Option.isSome_some, Option.toList, List.cons_append, List.nil_append, zclr_i, zclr_r, zclr_n, zfit_i, zfit_l, and_self, if_true, if_false]
      · rw [e, decide_eq_false (by decide)] at hh
        have hk6 : k < 6 := by
          refine Nat.lt_of_le_of_ne hk (fun e6 => ?_)
          subst e6
          have hv : ∀ j, j < 6 → ∃ r, r < 6 ∧ X (33 + 13) (q * 6 + j) = nI r := fun j hj => by
            obtain ⟨r, hr, er⟩ := h.W.like q j hq (by unfold pK; rw [eK, nI_clamp (by decide)]; exact hj)
            exact ⟨r, by omega, er⟩
          obtain ⟨i, j, hij, hj, ee⟩ := pigeon 6 (fun j => if j < 6 then (X (33 + 13) (q * 6 + j)).toNatClampNeg else s) (fun j hj => by
            by_cases cj : j < 6
            · obtain ⟨r, hr, er⟩ := hv j cj
              simp only [cj, if_true, er]
              rw [nI_clamp (by omega)]
              exact hr
            · simp only [cj, if_false]
              omega)
          have ci : i < 6 := by omega
          obtain ⟨r, hr, er⟩ := hv i ci
          simp only [ci, if_true, er] at ee
          rw [nI_clamp (by omega)] at ee
          by_cases cj : j < 6
          · obtain ⟨r2, hr2, er2⟩ := hv j cj
            simp only [cj, if_true, er2] at ee
            rw [nI_clamp (by omega)] at ee
            exact hd i j hij cj (by rw [er, er2, ee])
          · simp only [cj, if_false] at ee
            exact hno i ci (by rw [er, ee])
        have hl := h.like1 hq hk6 hs
        obtain ⟨X3, JX3, Y3, JY3, p3, a1, a2, a3, a4, _, a5, a6⟩ := r_adv hl.rs
        have hl2 := hl.move a3 a5 a6.yg
        have hX3 : ∀ r, X3 (33 + 13) r = if r = q * 6 + k then nI s else X (33 + 13) r := fun r => by rw [a5.1 _ (by decide), zu_far _ _ _ (by decide), zu_row]
        have q138 : (2162 : Int32) + 6 * nI q + nI k = nI (2024 + (138 + (6 * q + k))) := by
          rw [show (6 : Int32) = nI 6 from rfl, pk_mul, show (2162 : Int32) = nI 2162 from rfl, nI_add, nI_add]
          exact congrArg nI (by omega)
        have enb : nb (zu Y3 148 (2024 + (138 + (6 * q + k))) (nI s)) = fu (nb Y) (138 + (6 * q + k)) (nI s) := by rw [nb_zu, a6.yg.blk]
        have bt0 := h.rs.bad
        refine .inr ⟨s, X3, JX3, zu Y3 148 (2024 + (138 + (6 * q + k))) (nI s), JY3, p3, hk6, fun n m g d a x ha hg => ?_, fun n m g d x => ?_, a4, ?_, hsn.next hk6 (by omega) hno hX3, (((GX.rfl').wr (by decide) (by decide)).wr (by decide) (by decide)).trans a5.gx, a6.yg.gy.cc⟩
        · rw [e_X8_likesPart_33]
          simp only [e_X8_likesPart_34, e_X8_likesPart_36, e_X8_likesPart_39, e_X8_likesPart_40, e_X8_likesPart_43, e_X8_likesPart_46, e_X8_likesPart_49, e_X8_likesPart_50, e_X8_likesPart_53, e_X8_likesPart_54, e_X8_likesPart_57, e_X8_likesPart_60, e_X8_likesPart_61, e_X8_likesPart_62, e_X8_likesPart_63, e_X8_likesPart_66, e_X8_likesPart_67, e_X8_likesPart_68, e_X8_likesPart_69, e_X8_likesPart_72, e_X8_likesPart_73, e_X8_likesPart_74, e_X8_likesPart_77, e_X8_likesPart_80, e_X8_likesPart_81, e_X8_likesPart_84, e_X8_likesPart_85, e_X8_likesPart_88, e_X8_likesPart_89, e_X8_likesPart_90, e_X8_likesPart_93, e_X8_likesPart_94, e_X8_likesPart_95, e_X8_likesPart_98, e_X8_likesPart_99, e_X8_likesPart_102, e_X8_likesPart_105, e_X8_likesPart_108, e_X8_likesPart_111, e_X8_likesPart_112, c_13, g_tt_0 ha hg, g_tt_1 ha hg, k6, d_atName, hn, bI, if_true, show ((1 : Int32) = 0) = False by decide, sH, smf, c_T0 t33, t_hasLiked t33 (show q < 12 by omega) eK hk, e, t_like t33 (show q < 12 by omega) eK hk6, a1, nI_1, Option.bind_some, Option.isSome_some, Option.toList, List.cons_append, List.nil_append, zclr_i, zclr_r, zclr_n, zfit_i, zfit_l, and_self, if_true, if_false]
        · rw [e_X12_readLikes_15]
          simp only [e_X12_readLikes_16, e_X12_readLikes_19, e_X12_readLikes_22, e_X12_readLikes_23, e_X12_readLikes_26, e_X12_readLikes_27, e_X12_readLikes_30, e_X12_readLikes_31, e_X12_readLikes_32, e_X12_readLikes_33, e_X12_readLikes_36, e_X12_readLikes_38, e_X12_readLikes_39, e_X12_readLikes_42, e_X12_readLikes_45, e_X12_readLikes_46, e_X12_readLikes_48, e_X12_readLikes_51, e_X12_readLikes_54, e_X12_readLikes_55, e_X12_readLikes_56, e_X12_readLikes_57, e_X12_readLikes_60, e_X12_readLikes_63, e_X12_readLikes_64, e_X12_readLikes_65, e_X12_readLikes_68, e_X12_readLikes_69, e_X12_readLikes_72, e_X12_readLikes_75, e_X12_readLikes_76, e_X12_readLikes_77, e_X12_readLikes_78, e_X12_readLikes_80, e_X12_readLikes_81, e_X12_readLikes_82, e_X12_readLikes_83, e_X12_readLikes_84, e_X12_readLikes_87, e_X12_readLikes_90, e_X12_readLikes_92, e_X12_readLikes_93, e_X12_readLikes_94, e_X12_readLikes_95, e_X12_readLikes_96, e_X12_readLikes_97, e_X12_readLikes_99, e_X12_readLikes_100, e_X12_readLikes_103, e_X12_readLikes_106, e_X12_readLikes_107, e_X12_readLikes_110, e_X12_readLikes_113, e_X12_readLikes_114, e_X12_readLikes_117, e_X12_readLikes_120, e_X12_readLikes_121, e_X12_readLikes_122, e_X12_readLikes_123, e_X12_readLikes_124, c_143, g_143_12, g_143_14, g_143_15, g_143_20, h.rs.bad, wf, c5, ts, hh, bI, Bool.false_eq_true, v_must_t bt0 a2, a3.bad, z00, q138, nI_neg (show 2024 + (138 + (6 * q + k)) < 2 ^ 31 by omega), nI_clamp (show 2024 + (138 + (6 * q + k)) < 2 ^ 31 by omega), k_148 (show 2024 + (138 + (6 * q + k)) < 2530 by omega), l_148 (show 2024 + (138 + (6 * q + k)) < 2530 by omega), q_148, nI_1, Option.bind_some, Option.isSome_some, Option.toList, List.cons_append, List.nil_append, zclr_i, zclr_r, zclr_n, zfit_i, zfit_l, and_self, if_true, if_false]
        · rw [enb]
          obtain ⟨z1, z2, z3, z4, z5, z6, z7, z8⟩ := hl2
          exact ⟨z1.cc, z2, z3, z4, z5, z6, z7, by rw [zu_far _ _ _ (by decide)]; exact z8⟩
    · rw [hp2] at sH
      refine .inl ⟨X2, JX, Y2, JY, .inl ⟨fun n m g d a x ha hg => ?_, hB⟩, fun n m g d x => ?_, fx.gx, yg.gy⟩
      · simp only [e_X8_likesPart_33, e_X8_likesPart_34, e_X8_likesPart_36, e_X8_likesPart_39, e_X8_likesPart_40, e_X8_likesPart_43, e_X8_likesPart_46, e_X8_likesPart_49, e_X8_likesPart_50, e_X8_likesPart_53, e_X8_likesPart_54, e_X8_likesPart_57, e_X8_likesPart_60, e_X8_likesPart_61, e_X8_likesPart_62, e_X8_likesPart_63, e_X8_likesPart_66, e_X8_likesPart_67, e_X8_likesPart_68, e_X8_likesPart_69, e_X8_likesPart_72, e_X8_likesPart_73, e_X8_likesPart_74, e_X8_likesPart_77, e_X8_likesPart_80, e_X8_likesPart_81, e_X8_likesPart_84, e_X8_likesPart_85, e_X8_likesPart_88, e_X8_likesPart_89, e_X8_likesPart_90, e_X8_likesPart_93, e_X8_likesPart_94, e_X8_likesPart_95, e_X8_likesPart_98, e_X8_likesPart_99, e_X8_likesPart_102, e_X8_likesPart_105, e_X8_likesPart_108, e_X8_likesPart_111, e_X8_likesPart_112, c_13, g_tt_0 ha hg, g_tt_1 ha hg, k6, d_atName, hn, bI, if_true, show ((1 : Int32) = 0) = False by decide, sH, zfit_b0, Option.bind_some, Option.isSome_some, Option.toList, List.cons_append, List.nil_append, zclr_i, zclr_r, zclr_n, zfit_i, zfit_l, and_self, if_true, if_false]
      · simp only [e_X12_readLikes_15, e_X12_readLikes_16, e_X12_readLikes_19, e_X12_readLikes_22, e_X12_readLikes_23, e_X12_readLikes_26, e_X12_readLikes_27, e_X12_readLikes_30, e_X12_readLikes_31, e_X12_readLikes_32, e_X12_readLikes_33, e_X12_readLikes_36, e_X12_readLikes_38, e_X12_readLikes_39, e_X12_readLikes_42, e_X12_readLikes_45, e_X12_readLikes_46, e_X12_readLikes_48, e_X12_readLikes_51, e_X12_readLikes_54, e_X12_readLikes_55, e_X12_readLikes_56, e_X12_readLikes_57, e_X12_readLikes_60, e_X12_readLikes_63, e_X12_readLikes_64, e_X12_readLikes_65, e_X12_readLikes_68, e_X12_readLikes_69, e_X12_readLikes_72, e_X12_readLikes_75, e_X12_readLikes_76, e_X12_readLikes_77, e_X12_readLikes_78, e_X12_readLikes_80, e_X12_readLikes_81, e_X12_readLikes_82, e_X12_readLikes_83, e_X12_readLikes_84, e_X12_readLikes_87, e_X12_readLikes_90, e_X12_readLikes_92, e_X12_readLikes_93, e_X12_readLikes_94, e_X12_readLikes_95, e_X12_readLikes_96, e_X12_readLikes_97, e_X12_readLikes_99, e_X12_readLikes_100, e_X12_readLikes_103, e_X12_readLikes_106, e_X12_readLikes_107, e_X12_readLikes_110, e_X12_readLikes_113, e_X12_readLikes_114, e_X12_readLikes_117, e_X12_readLikes_120, e_X12_readLikes_121, e_X12_readLikes_122, e_X12_readLikes_123, e_X12_readLikes_124, c_143, g_143_12, g_143_14, g_143_15, h.rs.bad, wf, c5, ts, v_must_b hB, hB.ne, hB.lt, hB.le, Option.bind_some, Option.isSome_some, Option.toList, List.cons_append, List.nil_append, zclr_i, zclr_r, zclr_n, zfit_i, zfit_l, and_self, if_true, if_false]
  · have hn' : dName X JX = false := Bool.eq_false_iff.mpr hn
    have hC : LkC t q k X JX 1 X JX := fun n m g d a x ha hg => by
      simp only [e_X8_likesPart_33, e_X8_likesPart_34, e_X8_likesPart_36, e_X8_likesPart_39, e_X8_likesPart_40, e_X8_likesPart_43, e_X8_likesPart_46, e_X8_likesPart_49, e_X8_likesPart_50, e_X8_likesPart_53, e_X8_likesPart_54, e_X8_likesPart_57, e_X8_likesPart_60, e_X8_likesPart_61, e_X8_likesPart_62, e_X8_likesPart_63, e_X8_likesPart_66, e_X8_likesPart_67, e_X8_likesPart_68, e_X8_likesPart_69, e_X8_likesPart_72, e_X8_likesPart_73, e_X8_likesPart_74, e_X8_likesPart_77, e_X8_likesPart_80, e_X8_likesPart_81, e_X8_likesPart_84, e_X8_likesPart_85, e_X8_likesPart_88, e_X8_likesPart_89, e_X8_likesPart_90, e_X8_likesPart_93, e_X8_likesPart_94, e_X8_likesPart_95, e_X8_likesPart_98, e_X8_likesPart_99, e_X8_likesPart_102, e_X8_likesPart_105, e_X8_likesPart_108, e_X8_likesPart_111, e_X8_likesPart_112, c_13, g_tt_0 ha hg, g_tt_1 ha hg, k6, d_atName, hn', bI, Bool.false_eq_true, zfit_b1, Option.bind_some, Option.isSome_some, Option.toList, List.cons_append, List.nil_append, zclr_i, zclr_r, zclr_n, zfit_i, zfit_l, and_self, if_true, if_false]
    by_cases c5 : X 13 5 = 2
    · have hB := h.rs.here
      refine .inl ⟨X, JX, vFail (kH X) (X 13 4) Y, JY, .inr (.inr ⟨hC, by rw [c5]; decide, hB⟩), fun n m g d x => ?_, GX.rfl', (YG.fail _ _).gy⟩
      have ts := fun n m g d => v_told_n (n := n) (m := m) (g := g) (B := 4) (s := 0) h.rs hn' d
      simp only [e_X12_readLikes_15, e_X12_readLikes_16, e_X12_readLikes_19, e_X12_readLikes_22, e_X12_readLikes_23, e_X12_readLikes_26, e_X12_readLikes_27, e_X12_readLikes_30, e_X12_readLikes_31, e_X12_readLikes_32, e_X12_readLikes_33, e_X12_readLikes_36, e_X12_readLikes_38, e_X12_readLikes_39, e_X12_readLikes_42, e_X12_readLikes_45, e_X12_readLikes_46, e_X12_readLikes_48, e_X12_readLikes_51, e_X12_readLikes_54, e_X12_readLikes_55, e_X12_readLikes_56, e_X12_readLikes_57, e_X12_readLikes_60, e_X12_readLikes_63, e_X12_readLikes_64, e_X12_readLikes_65, e_X12_readLikes_68, e_X12_readLikes_69, e_X12_readLikes_72, e_X12_readLikes_75, e_X12_readLikes_76, e_X12_readLikes_77, e_X12_readLikes_78, e_X12_readLikes_80, e_X12_readLikes_81, e_X12_readLikes_82, e_X12_readLikes_83, e_X12_readLikes_84, e_X12_readLikes_87, e_X12_readLikes_90, e_X12_readLikes_92, e_X12_readLikes_93, e_X12_readLikes_94, e_X12_readLikes_95, e_X12_readLikes_96, e_X12_readLikes_97, e_X12_readLikes_99, e_X12_readLikes_100, e_X12_readLikes_103, e_X12_readLikes_106, e_X12_readLikes_107, e_X12_readLikes_110, e_X12_readLikes_113, e_X12_readLikes_114, e_X12_readLikes_117, e_X12_readLikes_120, e_X12_readLikes_121, e_X12_readLikes_122, e_X12_readLikes_123, e_X12_readLikes_124, c_143, g_143_12, g_143_14, g_143_15, h.rs.bad, wf, c5, ts, v_must_b hB, hB.ne, hB.lt, hB.le, Option.bind_some, Option.isSome_some, Option.toList, List.cons_append, List.nil_append, zclr_i, zclr_r, zclr_n, zfit_i, zfit_l, and_self, if_true, if_false]
    · refine .inl ⟨X, JX, zu Y 148 (2024 + (126 + q)) (nI k), JY, .inr (.inl ⟨hC, p, Nat.le_refl p, ?_⟩), fun n m g d x => ?_, GX.rfl', GY.rfl'.cc⟩
      · unfold TS
        rw [nb_zu]
        obtain ⟨z1, z2, z3, z4, z5, z6, z7, z8⟩ := h
        exact ⟨z1.cc, z2, z3, z4, z5, z6, z7, by rw [zu_far _ _ _ (by decide)]; exact z8⟩
      · simp only [e_X12_readLikes_15, e_X12_readLikes_16, e_X12_readLikes_19, e_X12_readLikes_22, e_X12_readLikes_23, e_X12_readLikes_26, e_X12_readLikes_27, e_X12_readLikes_30, e_X12_readLikes_31, e_X12_readLikes_32, e_X12_readLikes_33, e_X12_readLikes_36, e_X12_readLikes_38, e_X12_readLikes_39, e_X12_readLikes_42, e_X12_readLikes_45, e_X12_readLikes_46, e_X12_readLikes_48, e_X12_readLikes_51, e_X12_readLikes_54, e_X12_readLikes_55, e_X12_readLikes_56, e_X12_readLikes_57, e_X12_readLikes_60, e_X12_readLikes_63, e_X12_readLikes_64, e_X12_readLikes_65, e_X12_readLikes_68, e_X12_readLikes_69, e_X12_readLikes_72, e_X12_readLikes_75, e_X12_readLikes_76, e_X12_readLikes_77, e_X12_readLikes_78, e_X12_readLikes_80, e_X12_readLikes_81, e_X12_readLikes_82, e_X12_readLikes_83, e_X12_readLikes_84, e_X12_readLikes_87, e_X12_readLikes_90, e_X12_readLikes_92, e_X12_readLikes_93, e_X12_readLikes_94, e_X12_readLikes_95, e_X12_readLikes_96, e_X12_readLikes_97, e_X12_readLikes_99, e_X12_readLikes_100, e_X12_readLikes_103, e_X12_readLikes_106, e_X12_readLikes_107, e_X12_readLikes_110, e_X12_readLikes_113, e_X12_readLikes_114, e_X12_readLikes_117, e_X12_readLikes_120, e_X12_readLikes_121, e_X12_readLikes_122, e_X12_readLikes_123, e_X12_readLikes_124, c_143, g_143_12, g_143_14, g_143_15, g_143_20, h.rs.bad, wf, c5, cB_126, nI_neg (show 2024 + (126 + q) < 2 ^ 31 by omega), nI_clamp (show 2024 + (126 + q) < 2 ^ 31 by omega), k_148 (show 2024 + (126 + q) < 2530 by omega), l_148 (show 2024 + (126 + q) < 2530 by omega), q_148, Option.bind_some, Option.isSome_some, Option.toList, List.cons_append, List.nil_append, zclr_i, zclr_r, zclr_n, zfit_i, zfit_l, and_self, if_true, if_false]
theorem likes_loop (hq : q < N) : ∀ f k p X JX Y JY (w : Int32), k + f = 7 → TQ L p t N S (fu (nb Y) (126 + q) (nI k)) X JX Y JY → SN X q k w → k ≤ 6 → LkT L p t N S q k w X JX Y JY := by
  intro f
  induction f with
  | zero =>
    intro k p X JX Y JY w hkf h hsn hk
    omega
  | succ f ih =>
    intro k p X JX Y JY w hkf h hsn hk
    rcases likes_step hq hk h hsn with h1 | ⟨s, X3, JX3, Y4, JY4, p3, hk6, hc, hr, hp, hT, hS, gx, gy⟩
    · exact h1
    · obtain ⟨X', JX', Y', JY', h2, h3, h4, h5⟩ := ih (k + 1) p3 X3 JX3 Y4 JY4 _ (by omega) hT hS (by omega)
      refine ⟨X', JX', Y', JY', ?_, fun n m g d x => (hr n m g d x).trans (h3 n m g d _), gx.trans h4, gy.trans h5⟩
      rcases h2 with ⟨c1, c2⟩ | ⟨c1, p', c2, c3⟩ | ⟨c1, c2, c3⟩
      · exact .inl ⟨fun n m g d a x ha hg => (hc n m g d a x ha hg).trans (c1 n m g d a _ ha hg), c2⟩
      · exact .inr (.inl ⟨fun n m g d a x ha hg => (hc n m g d a x ha hg).trans (c1 n m g d a _ ha hg), p', by omega, c3⟩)
      · exact .inr (.inr ⟨fun n m g d a x ha hg => (hc n m g d a x ha hg).trans (c1 n m g d a _ ha hg), c2, c3⟩)
set_option maxHeartbeats 4000000 in
theorem r_likes (h : TS L p t N S X JX Y JY) : Out L p t 134 302 X JX Y JY := by
  obtain ⟨X1, JX1, Y1, JY1, p1, a1, a2, a3, a4, _, a5, a6⟩ := r_adv h.rs
  have h1 := h.move a3 a5 a6.yg
  have h12 := h1.W.h12
  rcases h1.pers with ⟨k, hk, _, hpk, tk⟩ | ⟨X2, Y2, hp2, tk, hB, fx, yg⟩
  rotate_left
  · have rt := fun n m g d => v_readTold_f (n := n) (m := m) (g := g) hB tk d
    refine Out.f (X' := X2) (JX' := JX1) (Y' := Y2) (JY' := JY1) (fun n m g d => ?_) (fun n m g d a ha hg => ?_) hB (a5.gx.trans fx.gx) (a6.yg.gy.trans yg.gy)
    · rw [m_X12_readLikes]
      simp only [e_X12_readLikes_0, e_X12_readLikes_1, e_X12_readLikes_4, e_X12_readLikes_5, e_X12_readLikes_6, e_X12_readLikes_7, e_X12_readLikes_10, e_X12_readLikes_11, e_X12_readLikes_12, e_X12_readLikes_13, e_X12_readLikes_14, e_X12_readLikes_15, e_X12_readLikes_16, e_X12_readLikes_19, e_X12_readLikes_22, e_X12_readLikes_23, e_X12_readLikes_26, e_X12_readLikes_27, e_X12_readLikes_30, e_X12_readLikes_31, e_X12_readLikes_32, e_X12_readLikes_33, e_X12_readLikes_36, e_X12_readLikes_38, e_X12_readLikes_39, e_X12_readLikes_42, e_X12_readLikes_45, e_X12_readLikes_46, e_X12_readLikes_48, e_X12_readLikes_51, e_X12_readLikes_54, e_X12_readLikes_55, e_X12_readLikes_56, e_X12_readLikes_57, e_X12_readLikes_60, e_X12_readLikes_63, e_X12_readLikes_64, e_X12_readLikes_65, e_X12_readLikes_68, e_X12_readLikes_69, e_X12_readLikes_72, e_X12_readLikes_75, e_X12_readLikes_76, e_X12_readLikes_77, e_X12_readLikes_78, e_X12_readLikes_80, e_X12_readLikes_81, e_X12_readLikes_82, e_X12_readLikes_83, e_X12_readLikes_84, e_X12_readLikes_87, e_X12_readLikes_90, e_X12_readLikes_92, e_X12_readLikes_93, e_X12_readLikes_94, e_X12_readLikes_95, e_X12_readLikes_96, e_X12_readLikes_97, e_X12_readLikes_99, e_X12_readLikes_100, e_X12_readLikes_103, e_X12_readLikes_106, e_X12_readLikes_107, e_X12_readLikes_110, e_X12_readLikes_113, e_X12_readLikes_114, e_X12_readLikes_117, e_X12_readLikes_120, e_X12_readLikes_121, e_X12_readLikes_122, e_X12_readLikes_123, e_X12_readLikes_124, c_143, a2, rt, g_143_12, hB.ne, Option.bind_some, Option.isSome_some, Option.toList, List.cons_append, List.nil_append, zclr_i, zclr_r, zclr_n, zfit_i, zfit_l, and_self, if_true, if_false]
    · have o1 := fun n m g d => t_other_no (t := t) (x := -1) (y := -1) h1.W.hN h1.W.h12 hp2 n m g d a ha
      rw [m_X8_likesPart]
      simp only [e_X8_likesPart_0, e_X8_likesPart_1, e_X8_likesPart_4, e_X8_likesPart_7, e_X8_likesPart_8, e_X8_likesPart_9, e_X8_likesPart_10, e_X8_likesPart_13, e_X8_likesPart_14, e_X8_likesPart_15, e_X8_likesPart_16, e_X8_likesPart_19, e_X8_likesPart_20, e_X8_likesPart_21, e_X8_likesPart_22, e_X8_likesPart_25, e_X8_likesPart_28, e_X8_likesPart_29, e_X8_likesPart_30, e_X8_likesPart_31, e_X8_likesPart_32, e_X8_likesPart_33, e_X8_likesPart_34, e_X8_likesPart_36, e_X8_likesPart_39, e_X8_likesPart_40, e_X8_likesPart_43, e_X8_likesPart_46, e_X8_likesPart_49, e_X8_likesPart_50, e_X8_likesPart_53, e_X8_likesPart_54, e_X8_likesPart_57, e_X8_likesPart_60, e_X8_likesPart_61, e_X8_likesPart_62, e_X8_likesPart_63, e_X8_likesPart_66, e_X8_likesPart_67, e_X8_likesPart_68, e_X8_likesPart_69, e_X8_likesPart_72, e_X8_likesPart_73, e_X8_likesPart_74, e_X8_likesPart_77, e_X8_likesPart_80, e_X8_likesPart_81, e_X8_likesPart_84, e_X8_likesPart_85, e_X8_likesPart_88, e_X8_likesPart_89, e_X8_likesPart_90, e_X8_likesPart_93, e_X8_likesPart_94, e_X8_likesPart_95, e_X8_likesPart_98, e_X8_likesPart_99, e_X8_likesPart_102, e_X8_likesPart_105, e_X8_likesPart_108, e_X8_likesPart_111, e_X8_likesPart_112, c_13, c_tt ha hg, g_tt_0 ha hg, g_tt_1 ha hg, a1, o1 _ _ _ _ hg, zfit_b0, Option.bind_some, Option.isSome_some, Option.toList, List.cons_append, List.nil_append, zclr_i, zclr_r, zclr_n, zfit_i, zfit_l, and_self, if_true, if_false]
  obtain ⟨X2, JX2, Y2, JY2, p2, b1, b2, b3, b4, _, b5, b6⟩ := r_adv h1.rs
  have h2 := h1.move b3 b5 b6.yg
  have rt1 := fun n m g d => v_readTold_t (K := 0) (n := n) (m := m) (g := g) h1.rs.bad tk b2 d
  have km : nI k ≠ -1 := nI_m1 (by omega)
  have kmf : (nI k = -1) = False := eq_false km
  have o1 := fun n m g d a (ha : 158 ≤ a) => t_other_ok (t := t) (x := -1) (y := -1) h1.W.hN h1.W.h12 hk hpk km km b1 n m g d a ha
  have h0 := h2.like0 hk
  have hsn : SN (zu X2 (33 + 12) k (nI 0)) k 0 0 := ⟨⟨_, isS_0, fun s _ => rfl⟩, fun i j _ hj => absurd hj (by omega)⟩
  obtain ⟨X', JX', Y', JY', g2, g3, g4, g5⟩ := likes_loop hk 7 0 p2 _ JX2 Y2 JY2 0 (by omega) h0 hsn (by omega)
  have gx := (a5.gx.trans b5.gx).trans ((GX.rfl'.wr (X' := X2) (a := 33 + 12) (k := k) (v := nI 0) (by decide) (by decide)).trans g4)
  have gy := (a6.yg.gy.trans b6.yg.gy).trans g5
  have hc : ∀ (v : Int32), LkC t k 0 (zu X2 (33 + 12) k (nI 0)) JX2 v X' JX' → Ct t 20 134 [] X JX (some (.int v)) X' JX' := fun v hv n m g d a ha hg => by
    have hv' := hv n m g (d + 10) a none ha hg
    rw [m_X8_likesPart]
    simp only [e_X8_likesPart_0, e_X8_likesPart_1, e_X8_likesPart_4, e_X8_likesPart_7, e_X8_likesPart_8, e_X8_likesPart_9, e_X8_likesPart_10, e_X8_likesPart_13, e_X8_likesPart_14, e_X8_likesPart_15, e_X8_likesPart_16, e_X8_likesPart_19, e_X8_likesPart_20, e_X8_likesPart_21, e_X8_likesPart_22, e_X8_likesPart_25, e_X8_likesPart_28, e_X8_likesPart_29, e_X8_likesPart_30, e_X8_likesPart_31, e_X8_likesPart_32, c_13, c_tt ha hg, g_tt_0 ha hg, g_tt_1 ha hg, a1, o1 _ _ _ _ _ ha hg, kmf, g_T0_17 t33, nI_neg (show k < 2 ^ 31 by omega), nI_clamp (show k < 2 ^ 31 by omega), k_T12 t33 (show k < 12 by omega), q_T12 t33, Option.bind_some, Option.isSome_some, Option.toList, List.cons_append, List.nil_append, zclr_i, zclr_r, zclr_n, zfit_i, zfit_l, and_self, if_true, if_false]
    exact hv'
  have hr : Ca 20 302 [.ref 143] Y JY none Y' JY' := fun n m g d => by
    have hv' := g3 n m g (d + 10) none
    rw [m_X12_readLikes]
    simp only [e_X12_readLikes_0, e_X12_readLikes_1, e_X12_readLikes_4, e_X12_readLikes_5, e_X12_readLikes_6, e_X12_readLikes_7, e_X12_readLikes_10, e_X12_readLikes_11, e_X12_readLikes_12, e_X12_readLikes_13, e_X12_readLikes_14, c_143, a2, rt1, Option.bind_some, Option.isSome_some, Option.toList, List.cons_append, List.nil_append, zclr_i, zclr_r, zclr_n, zfit_i, zfit_l, and_self, if_true, if_false]
    exact hv'
  refine ⟨X', JX', Y', JY', ?_, hr, gx, gy⟩
  rcases g2 with ⟨c1, c2⟩ | ⟨c1, p', c2, c3⟩ | ⟨c1, c2, c3⟩
  · exact .inl ⟨hc 0 c1, c2⟩
  · exact .inr (.inl ⟨hc 1 c1, p', N, S, by omega, c3⟩)
  · exact .inr (.inr ⟨hc 1 c1, c2, c3⟩)
end TD
