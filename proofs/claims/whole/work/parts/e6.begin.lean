/-! THE LAW'S BEGINNING, AND ITS ANSWER ON EVERY SCRIPT -/
section LWS
variable {g : Nat → zC} {L : Nat} {xs : Nat → Int32}
theorem in_bits : ∀ p, p < 12 → rI5 16 5 >>> (nI p &&& 31) &&& 1 = 0 := by decide +kernel
theorem in_q : qN rI5 16 = 0 := by decide +kernel
theorem in_WT : WT rI5 16 0 0 2999 := by
  refine ⟨by decide +kernel, by decide, by decide, by decide +kernel, by decide, ⟨1800, by decide, by decide, by decide +kernel⟩, ⟨9, by decide, by decide, by decide +kernel⟩, ⟨80, by decide, by decide, by decide +kernel⟩, fun p _ hp => in_bits p hp, (fun _ h => absurd h (Nat.not_lt_zero _)), (fun _ h => absurd h (Nat.not_lt_zero _)), (fun _ h => absurd h (Nat.not_lt_zero _)), (fun _ h => absurd h (Nat.not_lt_zero _)), (fun _ h => absurd h (Nat.not_lt_zero _)), (fun _ h => absurd h (Nat.not_lt_zero _)), (fun _ h => absurd h (Nat.not_lt_zero _)), (fun _ h => absurd h (Nat.not_lt_zero _)), (fun _ h => absurd h (Nat.not_lt_zero _)), (fun _ h => absurd h (Nat.not_lt_zero _)), (fun _ h => absurd h (Nat.not_lt_zero _)), (fun _ h => absurd h (Nat.not_lt_zero _)), (fun _ _ h _ => absurd h (Nat.not_lt_zero _)), ⟨by decide +kernel, by decide +kernel⟩, ?_, ?_, ?_⟩
  · intro k hk
    rw [in_q] at hk
    exact absurd hk (Nat.not_lt_zero _)
  · intro k hk
    rw [in_q] at hk
    exact absurd hk (Nat.not_lt_zero _)
  · intro i j _ hk
    rw [in_q] at hk
    exact absurd hk (Nat.not_lt_zero _)
theorem in_RT : RT rI5 16 (rI5 148) 0 0 := by
  refine ⟨by decide +kernel, by decide +kernel, by decide +kernel, by decide +kernel, by decide +kernel, by decide +kernel, (fun _ h => absurd h (Nat.not_lt_zero _)), (fun _ h => absurd h (Nat.not_lt_zero _)), (fun _ h => absurd h (Nat.not_lt_zero _)), (fun _ h => absurd h (Nat.not_lt_zero _)), (fun _ h => absurd h (Nat.not_lt_zero _)), (fun _ h => absurd h (Nat.not_lt_zero _)), (fun _ h => absurd h (Nat.not_lt_zero _)), (fun _ h => absurd h (Nat.not_lt_zero _)), (fun _ h => absurd h (Nat.not_lt_zero _)), (fun _ h => absurd h (Nat.not_lt_zero _)), (fun _ h => absurd h (Nat.not_lt_zero _)), (fun _ h => absurd h (Nat.not_lt_zero _)), (fun _ _ h _ => absurd h (Nat.not_lt_zero _)), ?_, ?_⟩
  · intro k hk
    rw [in_q] at hk
    exact absurd hk (Nat.not_lt_zero _)
  · intro k hk
    rw [in_q] at hk
    exact absurd hk (Nat.not_lt_zero _)
theorem in_6 : ∀ t, t < 4 → rI5 6 t = -1 := by decide +kernel
theorem in_5 : ∀ t, t < 4 → rI5 5 t = rI5 144 t ∧ rI5 6 t = rI5 145 t := by decide +kernel
theorem in_nI : ∀ k, k < 60 → ¬ nI k < (-1 : Int32) := by decide +kernel
theorem in_B : isB 0 := by
  unfold isB
  decide +kernel
theorem in_Inv : Inv rI5 rJ 0 0 := by
  refine ⟨in_WT, in_RT, ⟨(fun _ h => absurd h (Nat.not_lt_zero _)), (fun _ h => absurd h (Nat.not_lt_zero _))⟩, ⟨by decide +kernel, Or.inl (by decide +kernel)⟩, by decide +kernel, ⟨by decide +kernel, by decide +kernel⟩, ⟨fun t ht => Or.inl (in_6 t ht), in_5, fun t k ht hk h => ?_⟩, ⟨fun k _ => rfl, fun k _ => in_B, 0, by decide, by decide +kernel, by decide +kernel⟩, ⟨by decide +kernel, by decide +kernel, resF_all⟩, fun q _ => ⟨0, by decide, rfl⟩, ⟨by decide +kernel, Or.inl (by decide +kernel), Or.inl (by decide +kernel), fun h => absurd h (by decide +kernel)⟩, ⟨0, by decide, by decide +kernel, by decide +kernel, (fun _ h => absurd h (Nat.not_lt_zero _))⟩⟩
  rw [in_6 t ht] at h
  exact absurd h (in_nI k hk)
theorem law_pre (h1 : g 1 = .inr (13, [.ref 2, .int 0])) (h2 : g 2 = .inl (.char, 138, .inl (fun j => zby.getD j 0))) (d : Nat) : zcall (d + 30) 415 [.ref 0] (PH g [] 0) = zexec (d + 30) 415 18 [some (.ref 0), some (.ref 3), some (.ref 143), some (.int (nI 0))] [] (mk 158 16742 g rI5 rJ) := by
  have hn : znew (PH g [] 0) 11 = PH g cs_0 18 := (ph_new (a := 3) rfl).trans (by rw [zfN_NineNames]; rfl)
  have hi : zcall (d + 29) 153 [.ref 3] (PH g cs_0 18) = some (none, PH g cs_17 8319) := i_Nine (g := g) (m := 18) h1 h2 (d + 9)
  have len : 3 + cs_17.length = 143 := by decide +kernel
  have hn2 : znew (PH g cs_17 8319) 12 = PH g (cs_17 ++ [.inr (12, zdef 12)]) 8362 := (ph_new (a := 143) len).trans (by rw [zfN_NineNamesModel])
  have hi2 : zcall (d + 29) 234 [.ref 143] (PH g (cs_17 ++ [.inr (12, zdef 12)]) 8362) = some (none, mk 158 16742 g rI5 rJ) := i_Model (g := g) (m := 8362) (d + 27)
  have e1 : (PH g [] 0).1 = 3 := rfl
  have e2 : (PH g cs_17 8319).1 = 143 := len
  rw [m_L_law]
  simp only [e_L_law_0, e_L_law_3, e_L_law_4, e_L_law_7, e_L_law_8, e_L_law_11, e_L_law_12, e_L_law_15, e_L_law_16, e_L_law_17, hn, e1, hi, hn2, e2, hi2, Option.bind_some, Option.isSome_some, Option.toList, List.cons_append, List.nil_append, zclr_i, zclr_r, zclr_n, zfit_i, zfit_l, and_self, if_true, if_false]
  rfl
def z0 (L : Nat) (xs : Nat → Int32) : zH := (3, 0, fun a => if a = 0 then .inl (.short, L, .inl xs) else if a = 1 then .inr (13, [.ref 2, .int 0]) else if a = 2 then .inl (.char, 138, .inl (fun j => zby.getD j 0)) else zdum)
theorem z0_ph : z0 L xs = PH (z0 L xs).2.2 [] 0 := by
  refine Prod.ext rfl (Prod.ext rfl (funext fun a => ?_))
  show (z0 L xs).2.2 a = if a < 3 then (z0 L xs).2.2 a else (z0 L xs).2.2 a
  rw [ite_self]
/-- the abstract machine's answer on every script -/
theorem ztarget (L : Nat) (xs : Nat → Int32) (hL : L ≤ 3072) : ∃ h' : zH, zcall 60 415 [.ref 0] (z0 L xs) = some (some (.int 1), h') ∧ h'.1 - 3 ≤ 600000 ∧ h'.2.1 ≤ 7302250 := by
  obtain ⟨h', e1, e2, e3⟩ := law_loop (xs := xs) hL 512 0 158 16742 (z0 L xs).2.2 rI5 rJ 0 0 (by omega) (by omega) in_Inv (Nat.le_refl _) rfl
  have hp := law_pre (g := (z0 L xs).2.2) rfl rfl 30
  rw [← z0_ph] at hp
  exact ⟨h', hp.trans e1, by omega, by omega⟩
end LWS
