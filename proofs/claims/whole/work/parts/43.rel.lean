/-! THE COUPLING: a town of the class at b in A, and a block c of the reference's row (written by wip/whole/gen_r.py) -/
def m0 (x : Int32) : Int32 := if x = -1 then 0 else x
def pK (A : Nat → Nat → Int32) (b p : Nat) : Nat := (A (b + 12) p).toNatClampNeg
def fu {α : Type} (c : Nat → α) (k : Nat) (x : α) : Nat → α := fun j => if j = k then x else c j
theorem fu_eq {α : Type} (c : Nat → α) (k : Nat) (x : α) : fu c k x k = x := by simp [fu]
theorem fu_ne {α : Type} (c : Nat → α) {k j : Nat} (x : α) (h : j ≠ k) : fu c k x j = c j := by simp [fu, h]
theorem zu_fu {α : Type} (I : Nat → Nat → α) (a k : Nat) (x : α) : zu I a k x = zr I a (fu (I a) k x) := by
  funext b l
  by_cases h : b = a <;> by_cases h2 : l = k <;> simp [zu, zr, fu, h, h2]
theorem zr_zr {α : Type} (I : Nat → Nat → α) (a : Nat) (r s : Nat → α) : zr (zr I a r) a s = zr I a s := by
  funext b
  by_cases h : b = a <;> simp [zr, h]
theorem zr_id {α : Type} (I : Nat → Nat → α) (a : Nat) : zr I a (I a) = I := by
  funext b
  by_cases h : b = a <;> simp [zr, h]
def RT (A : Nat → Nat → Int32) (b : Nat) (c : Nat → Int32) (N S : Nat) : Prop := (c 0 = A b 3) ∧ (c 1 = A b 4) ∧ (c 2 = A b 0) ∧ (c 3 = A b 1) ∧ (c 4 = A b 2) ∧ (c 5 = A (b + 14) 2) ∧ (∀ s, s < S → c (6 + s) = A (b + 2) s) ∧ (∀ s, s < S → c (12 + s) = m0 (A (b + 3) s)) ∧ (∀ p, p < N → c (18 + p) = A (b + 5) p) ∧ (∀ p, p < N → c (30 + p) = A (b + 7) p) ∧ (∀ p, p < N → c (42 + p) = A (b + 8) p) ∧ (∀ p, p < N → c (54 + p) = A b 5 >>> (nI p &&& 31) &&& 1) ∧ (∀ p, p < N → c (66 + p) = m0 (A (b + 6) p)) ∧ (∀ p, p < N → c (78 + p) = A (b + 9) p) ∧ (∀ p, p < N → c (90 + p) = A (b + 10) (2 * p)) ∧ (∀ p, p < N → c (102 + p) = A (b + 10) (2 * p + 1)) ∧ (∀ p, p < N → c (114 + p) = m0 (A (b + 11) p)) ∧ (∀ p, p < N → c (126 + p) = A (b + 12) p) ∧ (∀ p k, p < N → k < pK A b p → c (138 + (6 * p + k)) = A (b + 13) (p * 6 + k)) ∧ (∀ k, k < qN A b → c (210 + k) = A (b + 15) k) ∧ (∀ k, k < qN A b → c (222 + k) = A (b + 16) k)
theorem RT.n0 {A : Nat → Nat → Int32} {b N S : Nat} {c : Nat → Int32} (h : RT A b c N S) : c 0 = A b 3 := h.1
theorem RT.n1 {A : Nat → Nat → Int32} {b N S : Nat} {c : Nat → Int32} (h : RT A b c N S) : c 1 = A b 4 := h.2.1
theorem RT.n2 {A : Nat → Nat → Int32} {b N S : Nat} {c : Nat → Int32} (h : RT A b c N S) : c 2 = A b 0 := h.2.2.1
theorem RT.n3 {A : Nat → Nat → Int32} {b N S : Nat} {c : Nat → Int32} (h : RT A b c N S) : c 3 = A b 1 := h.2.2.2.1
theorem RT.n4 {A : Nat → Nat → Int32} {b N S : Nat} {c : Nat → Int32} (h : RT A b c N S) : c 4 = A b 2 := h.2.2.2.2.1
theorem RT.n5 {A : Nat → Nat → Int32} {b N S : Nat} {c : Nat → Int32} (h : RT A b c N S) : c 5 = A (b + 14) 2 := h.2.2.2.2.2.1
theorem RT.worth {A : Nat → Nat → Int32} {b N S : Nat} {c : Nat → Int32} (h : RT A b c N S) : ∀ s, s < S → c (6 + s) = A (b + 2) s := h.2.2.2.2.2.2.1
theorem RT.sold {A : Nat → Nat → Int32} {b N S : Nat} {c : Nat → Int32} (h : RT A b c N S) : ∀ s, s < S → c (12 + s) = m0 (A (b + 3) s) := h.2.2.2.2.2.2.2.1
theorem RT.born {A : Nat → Nat → Int32} {b N S : Nat} {c : Nat → Int32} (h : RT A b c N S) : ∀ p, p < N → c (18 + p) = A (b + 5) p := h.2.2.2.2.2.2.2.2.1
theorem RT.bears {A : Nat → Nat → Int32} {b N S : Nat} {c : Nat → Int32} (h : RT A b c N S) : ∀ p, p < N → c (30 + p) = A (b + 7) p := h.2.2.2.2.2.2.2.2.2.1
theorem RT.coins {A : Nat → Nat → Int32} {b N S : Nat} {c : Nat → Int32} (h : RT A b c N S) : ∀ p, p < N → c (42 + p) = A (b + 8) p := h.2.2.2.2.2.2.2.2.2.2.1
theorem RT.miser {A : Nat → Nat → Int32} {b N S : Nat} {c : Nat → Int32} (h : RT A b c N S) : ∀ p, p < N → c (54 + p) = A b 5 >>> (nI p &&& 31) &&& 1 := h.2.2.2.2.2.2.2.2.2.2.2.1
theorem RT.died {A : Nat → Nat → Int32} {b N S : Nat} {c : Nat → Int32} (h : RT A b c N S) : ∀ p, p < N → c (66 + p) = m0 (A (b + 6) p) := h.2.2.2.2.2.2.2.2.2.2.2.2.1
theorem RT.wed {A : Nat → Nat → Int32} {b N S : Nat} {c : Nat → Int32} (h : RT A b c N S) : ∀ p, p < N → c (78 + p) = A (b + 9) p := h.2.2.2.2.2.2.2.2.2.2.2.2.2.1
theorem RT.one {A : Nat → Nat → Int32} {b N S : Nat} {c : Nat → Int32} (h : RT A b c N S) : ∀ p, p < N → c (90 + p) = A (b + 10) (2 * p) := h.2.2.2.2.2.2.2.2.2.2.2.2.2.2.1
theorem RT.two {A : Nat → Nat → Int32} {b N S : Nat} {c : Nat → Int32} (h : RT A b c N S) : ∀ p, p < N → c (102 + p) = A (b + 10) (2 * p + 1) := h.2.2.2.2.2.2.2.2.2.2.2.2.2.2.2.1
theorem RT.away {A : Nat → Nat → Int32} {b N S : Nat} {c : Nat → Int32} (h : RT A b c N S) : ∀ p, p < N → c (114 + p) = m0 (A (b + 11) p) := h.2.2.2.2.2.2.2.2.2.2.2.2.2.2.2.2.1
theorem RT.likes {A : Nat → Nat → Int32} {b N S : Nat} {c : Nat → Int32} (h : RT A b c N S) : ∀ p, p < N → c (126 + p) = A (b + 12) p := h.2.2.2.2.2.2.2.2.2.2.2.2.2.2.2.2.2.1
theorem RT.like {A : Nat → Nat → Int32} {b N S : Nat} {c : Nat → Int32} (h : RT A b c N S) : ∀ p k, p < N → k < pK A b p → c (138 + (6 * p + k)) = A (b + 13) (p * 6 + k) := h.2.2.2.2.2.2.2.2.2.2.2.2.2.2.2.2.2.2.1
theorem RT.who {A : Nat → Nat → Int32} {b N S : Nat} {c : Nat → Int32} (h : RT A b c N S) : ∀ k, k < qN A b → c (210 + k) = A (b + 15) k := h.2.2.2.2.2.2.2.2.2.2.2.2.2.2.2.2.2.2.2.1
theorem RT.want {A : Nat → Nat → Int32} {b N S : Nat} {c : Nat → Int32} (h : RT A b c N S) : ∀ k, k < qN A b → c (222 + k) = A (b + 16) k := h.2.2.2.2.2.2.2.2.2.2.2.2.2.2.2.2.2.2.2.2
theorem RT.intro {A : Nat → Nat → Int32} {b N S : Nat} {c : Nat → Int32} (h_n0 : c 0 = A b 3) (h_n1 : c 1 = A b 4) (h_n2 : c 2 = A b 0) (h_n3 : c 3 = A b 1) (h_n4 : c 4 = A b 2) (h_n5 : c 5 = A (b + 14) 2) (h_worth : ∀ s, s < S → c (6 + s) = A (b + 2) s) (h_sold : ∀ s, s < S → c (12 + s) = m0 (A (b + 3) s)) (h_born : ∀ p, p < N → c (18 + p) = A (b + 5) p) (h_bears : ∀ p, p < N → c (30 + p) = A (b + 7) p) (h_coins : ∀ p, p < N → c (42 + p) = A (b + 8) p) (h_miser : ∀ p, p < N → c (54 + p) = A b 5 >>> (nI p &&& 31) &&& 1) (h_died : ∀ p, p < N → c (66 + p) = m0 (A (b + 6) p)) (h_wed : ∀ p, p < N → c (78 + p) = A (b + 9) p) (h_one : ∀ p, p < N → c (90 + p) = A (b + 10) (2 * p)) (h_two : ∀ p, p < N → c (102 + p) = A (b + 10) (2 * p + 1)) (h_away : ∀ p, p < N → c (114 + p) = m0 (A (b + 11) p)) (h_likes : ∀ p, p < N → c (126 + p) = A (b + 12) p) (h_like : ∀ p k, p < N → k < pK A b p → c (138 + (6 * p + k)) = A (b + 13) (p * 6 + k)) (h_who : ∀ k, k < qN A b → c (210 + k) = A (b + 15) k) (h_want : ∀ k, k < qN A b → c (222 + k) = A (b + 16) k) : RT A b c N S := ⟨h_n0, h_n1, h_n2, h_n3, h_n4, h_n5, h_worth, h_sold, h_born, h_bears, h_coins, h_miser, h_died, h_wed, h_one, h_two, h_away, h_likes, h_like, h_who, h_want⟩
def WT (A : Nat → Nat → Int32) (b N S U : Nat) : Prop := (A b 4 = nI N) ∧ (U ≤ 9999) ∧ (N ≤ 12) ∧ (A b 3 = nI S) ∧ (S ≤ 6) ∧ (∃ y, 1000 ≤ y ∧ y ≤ U ∧ A b 0 = nI y) ∧ (∃ k, 1 ≤ k ∧ k ≤ 9 ∧ A b 1 = nI k) ∧ (∃ k, 17 ≤ k ∧ k ≤ 120 ∧ A b 2 = nI k) ∧ (∀ p, N ≤ p → p < 12 → A b 5 >>> (nI p &&& 31) &&& 1 = 0) ∧ (∀ s, s < S → ∃ k, k ≤ 99 ∧ A (b + 2) s = nI k) ∧ (∀ s, s < S → A (b + 3) s = -1 ∨ ∃ y, 1000 ≤ y ∧ y ≤ U ∧ A (b + 3) s = nI y) ∧ (∀ p, p < N → ∃ y, 1000 ≤ y ∧ y ≤ U ∧ A (b + 5) p = nI y) ∧ (∀ p, p < N → A (b + 6) p = -1 ∨ ∃ y, 1000 ≤ y ∧ y ≤ U ∧ A (b + 6) p = nI y) ∧ (∀ p, p < N → A (b + 7) p = -1 ∨ ∃ s, s < S ∧ A (b + 7) p = nI s) ∧ (∀ p, p < N → ∃ k, k ≤ 9999 ∧ A (b + 8) p = nI k) ∧ (∀ p, p < N → A (b + 9) p = -1 ∨ ∃ q, q < N ∧ A (b + 9) p = nI q) ∧ (∀ p, p < N → A (b + 10) (2 * p) = -1 ∨ ∃ q, q < N ∧ A (b + 10) (2 * p) = nI q) ∧ (∀ p, p < N → A (b + 10) (2 * p + 1) = -1 ∨ ∃ q, q < N ∧ A (b + 10) (2 * p + 1) = nI q) ∧ (∀ p, p < N → A (b + 11) p = -1 ∨ ∃ y, 1000 ≤ y ∧ y ≤ U ∧ A (b + 11) p = nI y) ∧ (∀ p, p < N → A (b + 6) p ≠ -1 → A (b + 11) p = -1) ∧ (∀ p, p < N → ∃ k, k ≤ 6 ∧ A (b + 12) p = nI k) ∧ (∀ p k, p < N → k < pK A b p → ∃ s, s < S ∧ A (b + 13) (p * 6 + k) = nI s) ∧ (A (b + 14) 2 = nI (qN A b) ∧ qN A b ≤ 12) ∧ (∀ k, k < qN A b → ∃ p, p < N ∧ A (b + 15) k = nI p) ∧ (∀ k, k < qN A b → ∃ s, s < S ∧ A (b + 16) k = nI s) ∧ (∀ i j, i < j → j < qN A b → A (b + 15) i ≠ A (b + 15) j)
theorem WT.hN {A : Nat → Nat → Int32} {b N S U : Nat} (h : WT A b N S U) : A b 4 = nI N := h.1
theorem WT.hU {A : Nat → Nat → Int32} {b N S U : Nat} (h : WT A b N S U) : U ≤ 9999 := h.2.1
theorem WT.h12 {A : Nat → Nat → Int32} {b N S U : Nat} (h : WT A b N S U) : N ≤ 12 := h.2.2.1
theorem WT.hS {A : Nat → Nat → Int32} {b N S U : Nat} (h : WT A b N S U) : A b 3 = nI S := h.2.2.2.1
theorem WT.h6 {A : Nat → Nat → Int32} {b N S U : Nat} (h : WT A b N S U) : S ≤ 6 := h.2.2.2.2.1
theorem WT.hY {A : Nat → Nat → Int32} {b N S U : Nat} (h : WT A b N S U) : ∃ y, 1000 ≤ y ∧ y ≤ U ∧ A b 0 = nI y := h.2.2.2.2.2.1
theorem WT.hM {A : Nat → Nat → Int32} {b N S U : Nat} (h : WT A b N S U) : ∃ k, 1 ≤ k ∧ k ≤ 9 ∧ A b 1 = nI k := h.2.2.2.2.2.2.1
theorem WT.hL {A : Nat → Nat → Int32} {b N S U : Nat} (h : WT A b N S U) : ∃ k, 17 ≤ k ∧ k ≤ 120 ∧ A b 2 = nI k := h.2.2.2.2.2.2.2.1
theorem WT.mis {A : Nat → Nat → Int32} {b N S U : Nat} (h : WT A b N S U) : ∀ p, N ≤ p → p < 12 → A b 5 >>> (nI p &&& 31) &&& 1 = 0 := h.2.2.2.2.2.2.2.2.1
theorem WT.worth {A : Nat → Nat → Int32} {b N S U : Nat} (h : WT A b N S U) : ∀ s, s < S → ∃ k, k ≤ 99 ∧ A (b + 2) s = nI k := h.2.2.2.2.2.2.2.2.2.1
theorem WT.sold {A : Nat → Nat → Int32} {b N S U : Nat} (h : WT A b N S U) : ∀ s, s < S → A (b + 3) s = -1 ∨ ∃ y, 1000 ≤ y ∧ y ≤ U ∧ A (b + 3) s = nI y := h.2.2.2.2.2.2.2.2.2.2.1
theorem WT.born {A : Nat → Nat → Int32} {b N S U : Nat} (h : WT A b N S U) : ∀ p, p < N → ∃ y, 1000 ≤ y ∧ y ≤ U ∧ A (b + 5) p = nI y := h.2.2.2.2.2.2.2.2.2.2.2.1
theorem WT.died {A : Nat → Nat → Int32} {b N S U : Nat} (h : WT A b N S U) : ∀ p, p < N → A (b + 6) p = -1 ∨ ∃ y, 1000 ≤ y ∧ y ≤ U ∧ A (b + 6) p = nI y := h.2.2.2.2.2.2.2.2.2.2.2.2.1
theorem WT.bears {A : Nat → Nat → Int32} {b N S U : Nat} (h : WT A b N S U) : ∀ p, p < N → A (b + 7) p = -1 ∨ ∃ s, s < S ∧ A (b + 7) p = nI s := h.2.2.2.2.2.2.2.2.2.2.2.2.2.1
theorem WT.coins {A : Nat → Nat → Int32} {b N S U : Nat} (h : WT A b N S U) : ∀ p, p < N → ∃ k, k ≤ 9999 ∧ A (b + 8) p = nI k := h.2.2.2.2.2.2.2.2.2.2.2.2.2.2.1
theorem WT.wed {A : Nat → Nat → Int32} {b N S U : Nat} (h : WT A b N S U) : ∀ p, p < N → A (b + 9) p = -1 ∨ ∃ q, q < N ∧ A (b + 9) p = nI q := h.2.2.2.2.2.2.2.2.2.2.2.2.2.2.2.1
theorem WT.one {A : Nat → Nat → Int32} {b N S U : Nat} (h : WT A b N S U) : ∀ p, p < N → A (b + 10) (2 * p) = -1 ∨ ∃ q, q < N ∧ A (b + 10) (2 * p) = nI q := h.2.2.2.2.2.2.2.2.2.2.2.2.2.2.2.2.1
theorem WT.two {A : Nat → Nat → Int32} {b N S U : Nat} (h : WT A b N S U) : ∀ p, p < N → A (b + 10) (2 * p + 1) = -1 ∨ ∃ q, q < N ∧ A (b + 10) (2 * p + 1) = nI q := h.2.2.2.2.2.2.2.2.2.2.2.2.2.2.2.2.2.1
theorem WT.away {A : Nat → Nat → Int32} {b N S U : Nat} (h : WT A b N S U) : ∀ p, p < N → A (b + 11) p = -1 ∨ ∃ y, 1000 ≤ y ∧ y ≤ U ∧ A (b + 11) p = nI y := h.2.2.2.2.2.2.2.2.2.2.2.2.2.2.2.2.2.2.1
theorem WT.dead {A : Nat → Nat → Int32} {b N S U : Nat} (h : WT A b N S U) : ∀ p, p < N → A (b + 6) p ≠ -1 → A (b + 11) p = -1 := h.2.2.2.2.2.2.2.2.2.2.2.2.2.2.2.2.2.2.2.1
theorem WT.likes {A : Nat → Nat → Int32} {b N S U : Nat} (h : WT A b N S U) : ∀ p, p < N → ∃ k, k ≤ 6 ∧ A (b + 12) p = nI k := h.2.2.2.2.2.2.2.2.2.2.2.2.2.2.2.2.2.2.2.2.1
theorem WT.like {A : Nat → Nat → Int32} {b N S U : Nat} (h : WT A b N S U) : ∀ p k, p < N → k < pK A b p → ∃ s, s < S ∧ A (b + 13) (p * 6 + k) = nI s := h.2.2.2.2.2.2.2.2.2.2.2.2.2.2.2.2.2.2.2.2.2.1
theorem WT.hQ {A : Nat → Nat → Int32} {b N S U : Nat} (h : WT A b N S U) : A (b + 14) 2 = nI (qN A b) ∧ qN A b ≤ 12 := h.2.2.2.2.2.2.2.2.2.2.2.2.2.2.2.2.2.2.2.2.2.2.1
theorem WT.who {A : Nat → Nat → Int32} {b N S U : Nat} (h : WT A b N S U) : ∀ k, k < qN A b → ∃ p, p < N ∧ A (b + 15) k = nI p := h.2.2.2.2.2.2.2.2.2.2.2.2.2.2.2.2.2.2.2.2.2.2.2.1
theorem WT.want {A : Nat → Nat → Int32} {b N S U : Nat} (h : WT A b N S U) : ∀ k, k < qN A b → ∃ s, s < S ∧ A (b + 16) k = nI s := h.2.2.2.2.2.2.2.2.2.2.2.2.2.2.2.2.2.2.2.2.2.2.2.2.1
theorem WT.uniq {A : Nat → Nat → Int32} {b N S U : Nat} (h : WT A b N S U) : ∀ i j, i < j → j < qN A b → A (b + 15) i ≠ A (b + 15) j := h.2.2.2.2.2.2.2.2.2.2.2.2.2.2.2.2.2.2.2.2.2.2.2.2.2
theorem WT.intro {A : Nat → Nat → Int32} {b N S U : Nat} (h_hN : A b 4 = nI N) (h_hU : U ≤ 9999) (h_h12 : N ≤ 12) (h_hS : A b 3 = nI S) (h_h6 : S ≤ 6) (h_hY : ∃ y, 1000 ≤ y ∧ y ≤ U ∧ A b 0 = nI y) (h_hM : ∃ k, 1 ≤ k ∧ k ≤ 9 ∧ A b 1 = nI k) (h_hL : ∃ k, 17 ≤ k ∧ k ≤ 120 ∧ A b 2 = nI k) (h_mis : ∀ p, N ≤ p → p < 12 → A b 5 >>> (nI p &&& 31) &&& 1 = 0) (h_worth : ∀ s, s < S → ∃ k, k ≤ 99 ∧ A (b + 2) s = nI k) (h_sold : ∀ s, s < S → A (b + 3) s = -1 ∨ ∃ y, 1000 ≤ y ∧ y ≤ U ∧ A (b + 3) s = nI y) (h_born : ∀ p, p < N → ∃ y, 1000 ≤ y ∧ y ≤ U ∧ A (b + 5) p = nI y) (h_died : ∀ p, p < N → A (b + 6) p = -1 ∨ ∃ y, 1000 ≤ y ∧ y ≤ U ∧ A (b + 6) p = nI y) (h_bears : ∀ p, p < N → A (b + 7) p = -1 ∨ ∃ s, s < S ∧ A (b + 7) p = nI s) (h_coins : ∀ p, p < N → ∃ k, k ≤ 9999 ∧ A (b + 8) p = nI k) (h_wed : ∀ p, p < N → A (b + 9) p = -1 ∨ ∃ q, q < N ∧ A (b + 9) p = nI q) (h_one : ∀ p, p < N → A (b + 10) (2 * p) = -1 ∨ ∃ q, q < N ∧ A (b + 10) (2 * p) = nI q) (h_two : ∀ p, p < N → A (b + 10) (2 * p + 1) = -1 ∨ ∃ q, q < N ∧ A (b + 10) (2 * p + 1) = nI q) (h_away : ∀ p, p < N → A (b + 11) p = -1 ∨ ∃ y, 1000 ≤ y ∧ y ≤ U ∧ A (b + 11) p = nI y) (h_dead : ∀ p, p < N → A (b + 6) p ≠ -1 → A (b + 11) p = -1) (h_likes : ∀ p, p < N → ∃ k, k ≤ 6 ∧ A (b + 12) p = nI k) (h_like : ∀ p k, p < N → k < pK A b p → ∃ s, s < S ∧ A (b + 13) (p * 6 + k) = nI s) (h_hQ : A (b + 14) 2 = nI (qN A b) ∧ qN A b ≤ 12) (h_who : ∀ k, k < qN A b → ∃ p, p < N ∧ A (b + 15) k = nI p) (h_want : ∀ k, k < qN A b → ∃ s, s < S ∧ A (b + 16) k = nI s) (h_uniq : ∀ i j, i < j → j < qN A b → A (b + 15) i ≠ A (b + 15) j) : WT A b N S U := ⟨h_hN, h_hU, h_h12, h_hS, h_h6, h_hY, h_hM, h_hL, h_mis, h_worth, h_sold, h_born, h_died, h_bears, h_coins, h_wed, h_one, h_two, h_away, h_dead, h_likes, h_like, h_hQ, h_who, h_want, h_uniq⟩
section RE
variable {A A' : Nat → Nat → Int32} {b N S U p k : Nat} {c : Nat → Int32} {x y : Int32}
theorem pK_far (h : A' (b + 12) = A (b + 12)) : pK A' b = pK A b := by
  funext p
  simp only [pK, h]
theorem qN_far (h : A' (b + 14) = A (b + 14)) : qN A' b = qN A b := by simp only [qN, h]
theorem RT.far (h : RT A b c N S) (hf : ∀ i, i < 17 → A' (b + i) = A (b + i)) : RT A' b c N S := by
  have h0 : A' b = A b := hf 0 (by decide)
  have hK : pK A' b = pK A b := pK_far (hf 12 (by decide))
  have hQ : qN A' b = qN A b := qN_far (hf 14 (by decide))
  apply RT.intro <;> (try simp only [h0, hK, hQ, hf 2 (by decide), hf 3 (by decide), hf 5 (by decide), hf 6 (by decide), hf 7 (by decide), hf 8 (by decide), hf 9 (by decide), hf 10 (by decide), hf 11 (by decide), hf 12 (by decide), hf 13 (by decide), hf 14 (by decide), hf 15 (by decide), hf 16 (by decide)])
  · exact h.n0
  · exact h.n1
  · exact h.n2
  · exact h.n3
  · exact h.n4
  · exact h.n5
  · exact h.worth
  · exact h.sold
  · exact h.born
  · exact h.bears
  · exact h.coins
  · exact h.miser
  · exact h.died
  · exact h.wed
  · exact h.one
  · exact h.two
  · exact h.away
  · exact h.likes
  · exact h.like
  · exact h.who
  · exact h.want
theorem WT.far (h : WT A b N S U) (hf : ∀ i, i < 17 → A' (b + i) = A (b + i)) : WT A' b N S U := by
  have h0 : A' b = A b := hf 0 (by decide)
  have hK : pK A' b = pK A b := pK_far (hf 12 (by decide))
  have hQ : qN A' b = qN A b := qN_far (hf 14 (by decide))
  apply WT.intro <;> (try simp only [h0, hK, hQ, hf 2 (by decide), hf 3 (by decide), hf 5 (by decide), hf 6 (by decide), hf 7 (by decide), hf 8 (by decide), hf 9 (by decide), hf 10 (by decide), hf 11 (by decide), hf 12 (by decide), hf 13 (by decide), hf 14 (by decide), hf 15 (by decide), hf 16 (by decide)])
  · exact h.hN
  · exact h.hU
  · exact h.h12
  · exact h.hS
  · exact h.h6
  · exact h.hY
  · exact h.hM
  · exact h.hL
  · exact h.mis
  · exact h.worth
  · exact h.sold
  · exact h.born
  · exact h.died
  · exact h.bears
  · exact h.coins
  · exact h.wed
  · exact h.one
  · exact h.two
  · exact h.away
  · exact h.dead
  · exact h.likes
  · exact h.like
  · exact h.hQ
  · exact h.who
  · exact h.want
  · exact h.uniq
theorem WT.row0 (h : WT A b N S U) (hf : ∀ j, j < 17 → j ≠ 0 → A' (b + j) = A (b + j)) (ehN : A' b 4 = nI N) (ehS : A' b 3 = nI S) (ehY : ∃ y, 1000 ≤ y ∧ y ≤ U ∧ A' b 0 = nI y) (ehM : ∃ k, 1 ≤ k ∧ k ≤ 9 ∧ A' b 1 = nI k) (ehL : ∃ k, 17 ≤ k ∧ k ≤ 120 ∧ A' b 2 = nI k) (emis : ∀ p, N ≤ p → p < 12 → A' b 5 >>> (nI p &&& 31) &&& 1 = 0) : WT A' b N S U := by
  have h2 : A' (b + 2) = A (b + 2) := hf 2 (by decide) (by decide)
  have h3 : A' (b + 3) = A (b + 3) := hf 3 (by decide) (by decide)
  have h5 : A' (b + 5) = A (b + 5) := hf 5 (by decide) (by decide)
  have h6 : A' (b + 6) = A (b + 6) := hf 6 (by decide) (by decide)
  have h7 : A' (b + 7) = A (b + 7) := hf 7 (by decide) (by decide)
  have h8 : A' (b + 8) = A (b + 8) := hf 8 (by decide) (by decide)
  have h9 : A' (b + 9) = A (b + 9) := hf 9 (by decide) (by decide)
  have h10 : A' (b + 10) = A (b + 10) := hf 10 (by decide) (by decide)
  have h11 : A' (b + 11) = A (b + 11) := hf 11 (by decide) (by decide)
  have h12 : A' (b + 12) = A (b + 12) := hf 12 (by decide) (by decide)
  have h13 : A' (b + 13) = A (b + 13) := hf 13 (by decide) (by decide)
  have h14 : A' (b + 14) = A (b + 14) := hf 14 (by decide) (by decide)
  have h15 : A' (b + 15) = A (b + 15) := hf 15 (by decide) (by decide)
  have h16 : A' (b + 16) = A (b + 16) := hf 16 (by decide) (by decide)
  have hK : pK A' b = pK A b := pK_far h12
  have hQ : qN A' b = qN A b := qN_far h14
  apply WT.intro
  · exact ehN
  · exact h.hU
  · exact h.h12
  · exact ehS
  · exact h.h6
  · exact ehY
  · exact ehM
  · exact ehL
  · exact emis
  · simp only [h2]; exact h.worth
  · simp only [h3]; exact h.sold
  · simp only [h5]; exact h.born
  · simp only [h6]; exact h.died
  · simp only [h7]; exact h.bears
  · simp only [h8]; exact h.coins
  · simp only [h9]; exact h.wed
  · simp only [h10]; exact h.one
  · simp only [h10]; exact h.two
  · simp only [h11]; exact h.away
  · simp only [h6, h11]; exact h.dead
  · simp only [h12]; exact h.likes
  · simp only [hK, h13]; exact h.like
  · simp only [hQ, h14]; exact h.hQ
  · simp only [hQ, h15]; exact h.who
  · simp only [hQ, h16]; exact h.want
  · simp only [hQ, h15]; exact h.uniq
theorem WT.row2 (h : WT A b N S U) (hf : ∀ j, j < 17 → j ≠ 2 → A' (b + j) = A (b + j)) (eworth : ∀ s, s < S → ∃ k, k ≤ 99 ∧ A' (b + 2) s = nI k) : WT A' b N S U := by
  have h0 : A' b = A b := hf 0 (by decide) (by decide)
  have h3 : A' (b + 3) = A (b + 3) := hf 3 (by decide) (by decide)
  have h5 : A' (b + 5) = A (b + 5) := hf 5 (by decide) (by decide)
  have h6 : A' (b + 6) = A (b + 6) := hf 6 (by decide) (by decide)
  have h7 : A' (b + 7) = A (b + 7) := hf 7 (by decide) (by decide)
  have h8 : A' (b + 8) = A (b + 8) := hf 8 (by decide) (by decide)
  have h9 : A' (b + 9) = A (b + 9) := hf 9 (by decide) (by decide)
  have h10 : A' (b + 10) = A (b + 10) := hf 10 (by decide) (by decide)
  have h11 : A' (b + 11) = A (b + 11) := hf 11 (by decide) (by decide)
  have h12 : A' (b + 12) = A (b + 12) := hf 12 (by decide) (by decide)
  have h13 : A' (b + 13) = A (b + 13) := hf 13 (by decide) (by decide)
  have h14 : A' (b + 14) = A (b + 14) := hf 14 (by decide) (by decide)
  have h15 : A' (b + 15) = A (b + 15) := hf 15 (by decide) (by decide)
  have h16 : A' (b + 16) = A (b + 16) := hf 16 (by decide) (by decide)
  have hK : pK A' b = pK A b := pK_far h12
  have hQ : qN A' b = qN A b := qN_far h14
  apply WT.intro
  · simp only [h0]; exact h.hN
  · exact h.hU
  · exact h.h12
  · simp only [h0]; exact h.hS
  · exact h.h6
  · simp only [h0]; exact h.hY
  · simp only [h0]; exact h.hM
  · simp only [h0]; exact h.hL
  · simp only [h0]; exact h.mis
  · exact eworth
  · simp only [h3]; exact h.sold
  · simp only [h5]; exact h.born
  · simp only [h6]; exact h.died
  · simp only [h7]; exact h.bears
  · simp only [h8]; exact h.coins
  · simp only [h9]; exact h.wed
  · simp only [h10]; exact h.one
  · simp only [h10]; exact h.two
  · simp only [h11]; exact h.away
  · simp only [h6, h11]; exact h.dead
  · simp only [h12]; exact h.likes
  · simp only [hK, h13]; exact h.like
  · simp only [hQ, h14]; exact h.hQ
  · simp only [hQ, h15]; exact h.who
  · simp only [hQ, h16]; exact h.want
  · simp only [hQ, h15]; exact h.uniq
theorem WT.row3 (h : WT A b N S U) (hf : ∀ j, j < 17 → j ≠ 3 → A' (b + j) = A (b + j)) (esold : ∀ s, s < S → A' (b + 3) s = -1 ∨ ∃ y, 1000 ≤ y ∧ y ≤ U ∧ A' (b + 3) s = nI y) : WT A' b N S U := by
  have h0 : A' b = A b := hf 0 (by decide) (by decide)
  have h2 : A' (b + 2) = A (b + 2) := hf 2 (by decide) (by decide)
  have h5 : A' (b + 5) = A (b + 5) := hf 5 (by decide) (by decide)
  have h6 : A' (b + 6) = A (b + 6) := hf 6 (by decide) (by decide)
  have h7 : A' (b + 7) = A (b + 7) := hf 7 (by decide) (by decide)
  have h8 : A' (b + 8) = A (b + 8) := hf 8 (by decide) (by decide)
  have h9 : A' (b + 9) = A (b + 9) := hf 9 (by decide) (by decide)
  have h10 : A' (b + 10) = A (b + 10) := hf 10 (by decide) (by decide)
  have h11 : A' (b + 11) = A (b + 11) := hf 11 (by decide) (by decide)
  have h12 : A' (b + 12) = A (b + 12) := hf 12 (by decide) (by decide)
  have h13 : A' (b + 13) = A (b + 13) := hf 13 (by decide) (by decide)
  have h14 : A' (b + 14) = A (b + 14) := hf 14 (by decide) (by decide)
  have h15 : A' (b + 15) = A (b + 15) := hf 15 (by decide) (by decide)
  have h16 : A' (b + 16) = A (b + 16) := hf 16 (by decide) (by decide)
  have hK : pK A' b = pK A b := pK_far h12
  have hQ : qN A' b = qN A b := qN_far h14
  apply WT.intro
  · simp only [h0]; exact h.hN
  · exact h.hU
  · exact h.h12
  · simp only [h0]; exact h.hS
  · exact h.h6
  · simp only [h0]; exact h.hY
  · simp only [h0]; exact h.hM
  · simp only [h0]; exact h.hL
  · simp only [h0]; exact h.mis
  · simp only [h2]; exact h.worth
  · exact esold
  · simp only [h5]; exact h.born
  · simp only [h6]; exact h.died
  · simp only [h7]; exact h.bears
  · simp only [h8]; exact h.coins
  · simp only [h9]; exact h.wed
  · simp only [h10]; exact h.one
  · simp only [h10]; exact h.two
  · simp only [h11]; exact h.away
  · simp only [h6, h11]; exact h.dead
  · simp only [h12]; exact h.likes
  · simp only [hK, h13]; exact h.like
  · simp only [hQ, h14]; exact h.hQ
  · simp only [hQ, h15]; exact h.who
  · simp only [hQ, h16]; exact h.want
  · simp only [hQ, h15]; exact h.uniq
theorem WT.row5 (h : WT A b N S U) (hf : ∀ j, j < 17 → j ≠ 5 → A' (b + j) = A (b + j)) (eborn : ∀ p, p < N → ∃ y, 1000 ≤ y ∧ y ≤ U ∧ A' (b + 5) p = nI y) : WT A' b N S U := by
  have h0 : A' b = A b := hf 0 (by decide) (by decide)
  have h2 : A' (b + 2) = A (b + 2) := hf 2 (by decide) (by decide)
  have h3 : A' (b + 3) = A (b + 3) := hf 3 (by decide) (by decide)
  have h6 : A' (b + 6) = A (b + 6) := hf 6 (by decide) (by decide)
  have h7 : A' (b + 7) = A (b + 7) := hf 7 (by decide) (by decide)
  have h8 : A' (b + 8) = A (b + 8) := hf 8 (by decide) (by decide)
  have h9 : A' (b + 9) = A (b + 9) := hf 9 (by decide) (by decide)
  have h10 : A' (b + 10) = A (b + 10) := hf 10 (by decide) (by decide)
  have h11 : A' (b + 11) = A (b + 11) := hf 11 (by decide) (by decide)
  have h12 : A' (b + 12) = A (b + 12) := hf 12 (by decide) (by decide)
  have h13 : A' (b + 13) = A (b + 13) := hf 13 (by decide) (by decide)
  have h14 : A' (b + 14) = A (b + 14) := hf 14 (by decide) (by decide)
  have h15 : A' (b + 15) = A (b + 15) := hf 15 (by decide) (by decide)
  have h16 : A' (b + 16) = A (b + 16) := hf 16 (by decide) (by decide)
  have hK : pK A' b = pK A b := pK_far h12
  have hQ : qN A' b = qN A b := qN_far h14
  apply WT.intro
  · simp only [h0]; exact h.hN
  · exact h.hU
  · exact h.h12
  · simp only [h0]; exact h.hS
  · exact h.h6
  · simp only [h0]; exact h.hY
  · simp only [h0]; exact h.hM
  · simp only [h0]; exact h.hL
  · simp only [h0]; exact h.mis
  · simp only [h2]; exact h.worth
  · simp only [h3]; exact h.sold
  · exact eborn
  · simp only [h6]; exact h.died
  · simp only [h7]; exact h.bears
  · simp only [h8]; exact h.coins
  · simp only [h9]; exact h.wed
  · simp only [h10]; exact h.one
  · simp only [h10]; exact h.two
  · simp only [h11]; exact h.away
  · simp only [h6, h11]; exact h.dead
  · simp only [h12]; exact h.likes
  · simp only [hK, h13]; exact h.like
  · simp only [hQ, h14]; exact h.hQ
  · simp only [hQ, h15]; exact h.who
  · simp only [hQ, h16]; exact h.want
  · simp only [hQ, h15]; exact h.uniq
theorem WT.row6 (h : WT A b N S U) (hf : ∀ j, j < 17 → j ≠ 6 → A' (b + j) = A (b + j)) (edied : ∀ p, p < N → A' (b + 6) p = -1 ∨ ∃ y, 1000 ≤ y ∧ y ≤ U ∧ A' (b + 6) p = nI y) (edead : ∀ p, p < N → A' (b + 6) p ≠ -1 → A' (b + 11) p = -1) : WT A' b N S U := by
  have h0 : A' b = A b := hf 0 (by decide) (by decide)
  have h2 : A' (b + 2) = A (b + 2) := hf 2 (by decide) (by decide)
  have h3 : A' (b + 3) = A (b + 3) := hf 3 (by decide) (by decide)
  have h5 : A' (b + 5) = A (b + 5) := hf 5 (by decide) (by decide)
  have h7 : A' (b + 7) = A (b + 7) := hf 7 (by decide) (by decide)
  have h8 : A' (b + 8) = A (b + 8) := hf 8 (by decide) (by decide)
  have h9 : A' (b + 9) = A (b + 9) := hf 9 (by decide) (by decide)
  have h10 : A' (b + 10) = A (b + 10) := hf 10 (by decide) (by decide)
  have h11 : A' (b + 11) = A (b + 11) := hf 11 (by decide) (by decide)
  have h12 : A' (b + 12) = A (b + 12) := hf 12 (by decide) (by decide)
  have h13 : A' (b + 13) = A (b + 13) := hf 13 (by decide) (by decide)
  have h14 : A' (b + 14) = A (b + 14) := hf 14 (by decide) (by decide)
  have h15 : A' (b + 15) = A (b + 15) := hf 15 (by decide) (by decide)
  have h16 : A' (b + 16) = A (b + 16) := hf 16 (by decide) (by decide)
  have hK : pK A' b = pK A b := pK_far h12
  have hQ : qN A' b = qN A b := qN_far h14
  apply WT.intro
  · simp only [h0]; exact h.hN
  · exact h.hU
  · exact h.h12
  · simp only [h0]; exact h.hS
  · exact h.h6
  · simp only [h0]; exact h.hY
  · simp only [h0]; exact h.hM
  · simp only [h0]; exact h.hL
  · simp only [h0]; exact h.mis
  · simp only [h2]; exact h.worth
  · simp only [h3]; exact h.sold
  · simp only [h5]; exact h.born
  · exact edied
  · simp only [h7]; exact h.bears
  · simp only [h8]; exact h.coins
  · simp only [h9]; exact h.wed
  · simp only [h10]; exact h.one
  · simp only [h10]; exact h.two
  · simp only [h11]; exact h.away
  · exact edead
  · simp only [h12]; exact h.likes
  · simp only [hK, h13]; exact h.like
  · simp only [hQ, h14]; exact h.hQ
  · simp only [hQ, h15]; exact h.who
  · simp only [hQ, h16]; exact h.want
  · simp only [hQ, h15]; exact h.uniq
theorem WT.row7 (h : WT A b N S U) (hf : ∀ j, j < 17 → j ≠ 7 → A' (b + j) = A (b + j)) (ebears : ∀ p, p < N → A' (b + 7) p = -1 ∨ ∃ s, s < S ∧ A' (b + 7) p = nI s) : WT A' b N S U := by
  have h0 : A' b = A b := hf 0 (by decide) (by decide)
  have h2 : A' (b + 2) = A (b + 2) := hf 2 (by decide) (by decide)
  have h3 : A' (b + 3) = A (b + 3) := hf 3 (by decide) (by decide)
  have h5 : A' (b + 5) = A (b + 5) := hf 5 (by decide) (by decide)
  have h6 : A' (b + 6) = A (b + 6) := hf 6 (by decide) (by decide)
  have h8 : A' (b + 8) = A (b + 8) := hf 8 (by decide) (by decide)
  have h9 : A' (b + 9) = A (b + 9) := hf 9 (by decide) (by decide)
  have h10 : A' (b + 10) = A (b + 10) := hf 10 (by decide) (by decide)
  have h11 : A' (b + 11) = A (b + 11) := hf 11 (by decide) (by decide)
  have h12 : A' (b + 12) = A (b + 12) := hf 12 (by decide) (by decide)
  have h13 : A' (b + 13) = A (b + 13) := hf 13 (by decide) (by decide)
  have h14 : A' (b + 14) = A (b + 14) := hf 14 (by decide) (by decide)
  have h15 : A' (b + 15) = A (b + 15) := hf 15 (by decide) (by decide)
  have h16 : A' (b + 16) = A (b + 16) := hf 16 (by decide) (by decide)
  have hK : pK A' b = pK A b := pK_far h12
  have hQ : qN A' b = qN A b := qN_far h14
  apply WT.intro
  · simp only [h0]; exact h.hN
  · exact h.hU
  · exact h.h12
  · simp only [h0]; exact h.hS
  · exact h.h6
  · simp only [h0]; exact h.hY
  · simp only [h0]; exact h.hM
  · simp only [h0]; exact h.hL
  · simp only [h0]; exact h.mis
  · simp only [h2]; exact h.worth
  · simp only [h3]; exact h.sold
  · simp only [h5]; exact h.born
  · simp only [h6]; exact h.died
  · exact ebears
  · simp only [h8]; exact h.coins
  · simp only [h9]; exact h.wed
  · simp only [h10]; exact h.one
  · simp only [h10]; exact h.two
  · simp only [h11]; exact h.away
  · simp only [h6, h11]; exact h.dead
  · simp only [h12]; exact h.likes
  · simp only [hK, h13]; exact h.like
  · simp only [hQ, h14]; exact h.hQ
  · simp only [hQ, h15]; exact h.who
  · simp only [hQ, h16]; exact h.want
  · simp only [hQ, h15]; exact h.uniq
theorem WT.row8 (h : WT A b N S U) (hf : ∀ j, j < 17 → j ≠ 8 → A' (b + j) = A (b + j)) (ecoins : ∀ p, p < N → ∃ k, k ≤ 9999 ∧ A' (b + 8) p = nI k) : WT A' b N S U := by
  have h0 : A' b = A b := hf 0 (by decide) (by decide)
  have h2 : A' (b + 2) = A (b + 2) := hf 2 (by decide) (by decide)
  have h3 : A' (b + 3) = A (b + 3) := hf 3 (by decide) (by decide)
  have h5 : A' (b + 5) = A (b + 5) := hf 5 (by decide) (by decide)
  have h6 : A' (b + 6) = A (b + 6) := hf 6 (by decide) (by decide)
  have h7 : A' (b + 7) = A (b + 7) := hf 7 (by decide) (by decide)
  have h9 : A' (b + 9) = A (b + 9) := hf 9 (by decide) (by decide)
  have h10 : A' (b + 10) = A (b + 10) := hf 10 (by decide) (by decide)
  have h11 : A' (b + 11) = A (b + 11) := hf 11 (by decide) (by decide)
  have h12 : A' (b + 12) = A (b + 12) := hf 12 (by decide) (by decide)
  have h13 : A' (b + 13) = A (b + 13) := hf 13 (by decide) (by decide)
  have h14 : A' (b + 14) = A (b + 14) := hf 14 (by decide) (by decide)
  have h15 : A' (b + 15) = A (b + 15) := hf 15 (by decide) (by decide)
  have h16 : A' (b + 16) = A (b + 16) := hf 16 (by decide) (by decide)
  have hK : pK A' b = pK A b := pK_far h12
  have hQ : qN A' b = qN A b := qN_far h14
  apply WT.intro
  · simp only [h0]; exact h.hN
  · exact h.hU
  · exact h.h12
  · simp only [h0]; exact h.hS
  · exact h.h6
  · simp only [h0]; exact h.hY
  · simp only [h0]; exact h.hM
  · simp only [h0]; exact h.hL
  · simp only [h0]; exact h.mis
  · simp only [h2]; exact h.worth
  · simp only [h3]; exact h.sold
  · simp only [h5]; exact h.born
  · simp only [h6]; exact h.died
  · simp only [h7]; exact h.bears
  · exact ecoins
  · simp only [h9]; exact h.wed
  · simp only [h10]; exact h.one
  · simp only [h10]; exact h.two
  · simp only [h11]; exact h.away
  · simp only [h6, h11]; exact h.dead
  · simp only [h12]; exact h.likes
  · simp only [hK, h13]; exact h.like
  · simp only [hQ, h14]; exact h.hQ
  · simp only [hQ, h15]; exact h.who
  · simp only [hQ, h16]; exact h.want
  · simp only [hQ, h15]; exact h.uniq
theorem WT.row9 (h : WT A b N S U) (hf : ∀ j, j < 17 → j ≠ 9 → A' (b + j) = A (b + j)) (ewed : ∀ p, p < N → A' (b + 9) p = -1 ∨ ∃ q, q < N ∧ A' (b + 9) p = nI q) : WT A' b N S U := by
  have h0 : A' b = A b := hf 0 (by decide) (by decide)
  have h2 : A' (b + 2) = A (b + 2) := hf 2 (by decide) (by decide)
  have h3 : A' (b + 3) = A (b + 3) := hf 3 (by decide) (by decide)
  have h5 : A' (b + 5) = A (b + 5) := hf 5 (by decide) (by decide)
  have h6 : A' (b + 6) = A (b + 6) := hf 6 (by decide) (by decide)
  have h7 : A' (b + 7) = A (b + 7) := hf 7 (by decide) (by decide)
  have h8 : A' (b + 8) = A (b + 8) := hf 8 (by decide) (by decide)
  have h10 : A' (b + 10) = A (b + 10) := hf 10 (by decide) (by decide)
  have h11 : A' (b + 11) = A (b + 11) := hf 11 (by decide) (by decide)
  have h12 : A' (b + 12) = A (b + 12) := hf 12 (by decide) (by decide)
  have h13 : A' (b + 13) = A (b + 13) := hf 13 (by decide) (by decide)
  have h14 : A' (b + 14) = A (b + 14) := hf 14 (by decide) (by decide)
  have h15 : A' (b + 15) = A (b + 15) := hf 15 (by decide) (by decide)
  have h16 : A' (b + 16) = A (b + 16) := hf 16 (by decide) (by decide)
  have hK : pK A' b = pK A b := pK_far h12
  have hQ : qN A' b = qN A b := qN_far h14
  apply WT.intro
  · simp only [h0]; exact h.hN
  · exact h.hU
  · exact h.h12
  · simp only [h0]; exact h.hS
  · exact h.h6
  · simp only [h0]; exact h.hY
  · simp only [h0]; exact h.hM
  · simp only [h0]; exact h.hL
  · simp only [h0]; exact h.mis
  · simp only [h2]; exact h.worth
  · simp only [h3]; exact h.sold
  · simp only [h5]; exact h.born
  · simp only [h6]; exact h.died
  · simp only [h7]; exact h.bears
  · simp only [h8]; exact h.coins
  · exact ewed
  · simp only [h10]; exact h.one
  · simp only [h10]; exact h.two
  · simp only [h11]; exact h.away
  · simp only [h6, h11]; exact h.dead
  · simp only [h12]; exact h.likes
  · simp only [hK, h13]; exact h.like
  · simp only [hQ, h14]; exact h.hQ
  · simp only [hQ, h15]; exact h.who
  · simp only [hQ, h16]; exact h.want
  · simp only [hQ, h15]; exact h.uniq
theorem WT.row10 (h : WT A b N S U) (hf : ∀ j, j < 17 → j ≠ 10 → A' (b + j) = A (b + j)) (eone : ∀ p, p < N → A' (b + 10) (2 * p) = -1 ∨ ∃ q, q < N ∧ A' (b + 10) (2 * p) = nI q) (etwo : ∀ p, p < N → A' (b + 10) (2 * p + 1) = -1 ∨ ∃ q, q < N ∧ A' (b + 10) (2 * p + 1) = nI q) : WT A' b N S U := by
  have h0 : A' b = A b := hf 0 (by decide) (by decide)
  have h2 : A' (b + 2) = A (b + 2) := hf 2 (by decide) (by decide)
  have h3 : A' (b + 3) = A (b + 3) := hf 3 (by decide) (by decide)
  have h5 : A' (b + 5) = A (b + 5) := hf 5 (by decide) (by decide)
  have h6 : A' (b + 6) = A (b + 6) := hf 6 (by decide) (by decide)
  have h7 : A' (b + 7) = A (b + 7) := hf 7 (by decide) (by decide)
  have h8 : A' (b + 8) = A (b + 8) := hf 8 (by decide) (by decide)
  have h9 : A' (b + 9) = A (b + 9) := hf 9 (by decide) (by decide)
  have h11 : A' (b + 11) = A (b + 11) := hf 11 (by decide) (by decide)
  have h12 : A' (b + 12) = A (b + 12) := hf 12 (by decide) (by decide)
  have h13 : A' (b + 13) = A (b + 13) := hf 13 (by decide) (by decide)
  have h14 : A' (b + 14) = A (b + 14) := hf 14 (by decide) (by decide)
  have h15 : A' (b + 15) = A (b + 15) := hf 15 (by decide) (by decide)
  have h16 : A' (b + 16) = A (b + 16) := hf 16 (by decide) (by decide)
  have hK : pK A' b = pK A b := pK_far h12
  have hQ : qN A' b = qN A b := qN_far h14
  apply WT.intro
  · simp only [h0]; exact h.hN
  · exact h.hU
  · exact h.h12
  · simp only [h0]; exact h.hS
  · exact h.h6
  · simp only [h0]; exact h.hY
  · simp only [h0]; exact h.hM
  · simp only [h0]; exact h.hL
  · simp only [h0]; exact h.mis
  · simp only [h2]; exact h.worth
  · simp only [h3]; exact h.sold
  · simp only [h5]; exact h.born
  · simp only [h6]; exact h.died
  · simp only [h7]; exact h.bears
  · simp only [h8]; exact h.coins
  · simp only [h9]; exact h.wed
  · exact eone
  · exact etwo
  · simp only [h11]; exact h.away
  · simp only [h6, h11]; exact h.dead
  · simp only [h12]; exact h.likes
  · simp only [hK, h13]; exact h.like
  · simp only [hQ, h14]; exact h.hQ
  · simp only [hQ, h15]; exact h.who
  · simp only [hQ, h16]; exact h.want
  · simp only [hQ, h15]; exact h.uniq
theorem WT.row11 (h : WT A b N S U) (hf : ∀ j, j < 17 → j ≠ 11 → A' (b + j) = A (b + j)) (eaway : ∀ p, p < N → A' (b + 11) p = -1 ∨ ∃ y, 1000 ≤ y ∧ y ≤ U ∧ A' (b + 11) p = nI y) (edead : ∀ p, p < N → A' (b + 6) p ≠ -1 → A' (b + 11) p = -1) : WT A' b N S U := by
  have h0 : A' b = A b := hf 0 (by decide) (by decide)
  have h2 : A' (b + 2) = A (b + 2) := hf 2 (by decide) (by decide)
  have h3 : A' (b + 3) = A (b + 3) := hf 3 (by decide) (by decide)
  have h5 : A' (b + 5) = A (b + 5) := hf 5 (by decide) (by decide)
  have h6 : A' (b + 6) = A (b + 6) := hf 6 (by decide) (by decide)
  have h7 : A' (b + 7) = A (b + 7) := hf 7 (by decide) (by decide)
  have h8 : A' (b + 8) = A (b + 8) := hf 8 (by decide) (by decide)
  have h9 : A' (b + 9) = A (b + 9) := hf 9 (by decide) (by decide)
  have h10 : A' (b + 10) = A (b + 10) := hf 10 (by decide) (by decide)
  have h12 : A' (b + 12) = A (b + 12) := hf 12 (by decide) (by decide)
  have h13 : A' (b + 13) = A (b + 13) := hf 13 (by decide) (by decide)
  have h14 : A' (b + 14) = A (b + 14) := hf 14 (by decide) (by decide)
  have h15 : A' (b + 15) = A (b + 15) := hf 15 (by decide) (by decide)
  have h16 : A' (b + 16) = A (b + 16) := hf 16 (by decide) (by decide)
  have hK : pK A' b = pK A b := pK_far h12
  have hQ : qN A' b = qN A b := qN_far h14
  apply WT.intro
  · simp only [h0]; exact h.hN
  · exact h.hU
  · exact h.h12
  · simp only [h0]; exact h.hS
  · exact h.h6
  · simp only [h0]; exact h.hY
  · simp only [h0]; exact h.hM
  · simp only [h0]; exact h.hL
  · simp only [h0]; exact h.mis
  · simp only [h2]; exact h.worth
  · simp only [h3]; exact h.sold
  · simp only [h5]; exact h.born
  · simp only [h6]; exact h.died
  · simp only [h7]; exact h.bears
  · simp only [h8]; exact h.coins
  · simp only [h9]; exact h.wed
  · simp only [h10]; exact h.one
  · simp only [h10]; exact h.two
  · exact eaway
  · exact edead
  · simp only [h12]; exact h.likes
  · simp only [hK, h13]; exact h.like
  · simp only [hQ, h14]; exact h.hQ
  · simp only [hQ, h15]; exact h.who
  · simp only [hQ, h16]; exact h.want
  · simp only [hQ, h15]; exact h.uniq
theorem WT.row12 (h : WT A b N S U) (hf : ∀ j, j < 17 → j ≠ 12 → A' (b + j) = A (b + j)) (elikes : ∀ p, p < N → ∃ k, k ≤ 6 ∧ A' (b + 12) p = nI k) (elike : ∀ p k, p < N → k < pK A' b p → ∃ s, s < S ∧ A' (b + 13) (p * 6 + k) = nI s) : WT A' b N S U := by
  have h0 : A' b = A b := hf 0 (by decide) (by decide)
  have h2 : A' (b + 2) = A (b + 2) := hf 2 (by decide) (by decide)
  have h3 : A' (b + 3) = A (b + 3) := hf 3 (by decide) (by decide)
  have h5 : A' (b + 5) = A (b + 5) := hf 5 (by decide) (by decide)
  have h6 : A' (b + 6) = A (b + 6) := hf 6 (by decide) (by decide)
  have h7 : A' (b + 7) = A (b + 7) := hf 7 (by decide) (by decide)
  have h8 : A' (b + 8) = A (b + 8) := hf 8 (by decide) (by decide)
  have h9 : A' (b + 9) = A (b + 9) := hf 9 (by decide) (by decide)
  have h10 : A' (b + 10) = A (b + 10) := hf 10 (by decide) (by decide)
  have h11 : A' (b + 11) = A (b + 11) := hf 11 (by decide) (by decide)
  have h13 : A' (b + 13) = A (b + 13) := hf 13 (by decide) (by decide)
  have h14 : A' (b + 14) = A (b + 14) := hf 14 (by decide) (by decide)
  have h15 : A' (b + 15) = A (b + 15) := hf 15 (by decide) (by decide)
  have h16 : A' (b + 16) = A (b + 16) := hf 16 (by decide) (by decide)
  have hQ : qN A' b = qN A b := qN_far h14
  apply WT.intro
  · simp only [h0]; exact h.hN
  · exact h.hU
  · exact h.h12
  · simp only [h0]; exact h.hS
  · exact h.h6
  · simp only [h0]; exact h.hY
  · simp only [h0]; exact h.hM
  · simp only [h0]; exact h.hL
  · simp only [h0]; exact h.mis
  · simp only [h2]; exact h.worth
  · simp only [h3]; exact h.sold
  · simp only [h5]; exact h.born
  · simp only [h6]; exact h.died
  · simp only [h7]; exact h.bears
  · simp only [h8]; exact h.coins
  · simp only [h9]; exact h.wed
  · simp only [h10]; exact h.one
  · simp only [h10]; exact h.two
  · simp only [h11]; exact h.away
  · simp only [h6, h11]; exact h.dead
  · exact elikes
  · exact elike
  · simp only [hQ, h14]; exact h.hQ
  · simp only [hQ, h15]; exact h.who
  · simp only [hQ, h16]; exact h.want
  · simp only [hQ, h15]; exact h.uniq
theorem WT.row13 (h : WT A b N S U) (hf : ∀ j, j < 17 → j ≠ 13 → A' (b + j) = A (b + j)) (elike : ∀ p k, p < N → k < pK A' b p → ∃ s, s < S ∧ A' (b + 13) (p * 6 + k) = nI s) : WT A' b N S U := by
  have h0 : A' b = A b := hf 0 (by decide) (by decide)
  have h2 : A' (b + 2) = A (b + 2) := hf 2 (by decide) (by decide)
  have h3 : A' (b + 3) = A (b + 3) := hf 3 (by decide) (by decide)
  have h5 : A' (b + 5) = A (b + 5) := hf 5 (by decide) (by decide)
  have h6 : A' (b + 6) = A (b + 6) := hf 6 (by decide) (by decide)
  have h7 : A' (b + 7) = A (b + 7) := hf 7 (by decide) (by decide)
  have h8 : A' (b + 8) = A (b + 8) := hf 8 (by decide) (by decide)
  have h9 : A' (b + 9) = A (b + 9) := hf 9 (by decide) (by decide)
  have h10 : A' (b + 10) = A (b + 10) := hf 10 (by decide) (by decide)
  have h11 : A' (b + 11) = A (b + 11) := hf 11 (by decide) (by decide)
  have h12 : A' (b + 12) = A (b + 12) := hf 12 (by decide) (by decide)
  have h14 : A' (b + 14) = A (b + 14) := hf 14 (by decide) (by decide)
  have h15 : A' (b + 15) = A (b + 15) := hf 15 (by decide) (by decide)
  have h16 : A' (b + 16) = A (b + 16) := hf 16 (by decide) (by decide)
  have hK : pK A' b = pK A b := pK_far h12
  have hQ : qN A' b = qN A b := qN_far h14
  apply WT.intro
  · simp only [h0]; exact h.hN
  · exact h.hU
  · exact h.h12
  · simp only [h0]; exact h.hS
  · exact h.h6
  · simp only [h0]; exact h.hY
  · simp only [h0]; exact h.hM
  · simp only [h0]; exact h.hL
  · simp only [h0]; exact h.mis
  · simp only [h2]; exact h.worth
  · simp only [h3]; exact h.sold
  · simp only [h5]; exact h.born
  · simp only [h6]; exact h.died
  · simp only [h7]; exact h.bears
  · simp only [h8]; exact h.coins
  · simp only [h9]; exact h.wed
  · simp only [h10]; exact h.one
  · simp only [h10]; exact h.two
  · simp only [h11]; exact h.away
  · simp only [h6, h11]; exact h.dead
  · simp only [h12]; exact h.likes
  · exact elike
  · simp only [hQ, h14]; exact h.hQ
  · simp only [hQ, h15]; exact h.who
  · simp only [hQ, h16]; exact h.want
  · simp only [hQ, h15]; exact h.uniq
theorem WT.row14 (h : WT A b N S U) (hf : ∀ j, j < 17 → j ≠ 14 → A' (b + j) = A (b + j)) (ehQ : A' (b + 14) 2 = nI (qN A' b) ∧ qN A' b ≤ 12) (ewho : ∀ k, k < qN A' b → ∃ p, p < N ∧ A' (b + 15) k = nI p) (ewant : ∀ k, k < qN A' b → ∃ s, s < S ∧ A' (b + 16) k = nI s) (euniq : ∀ i j, i < j → j < qN A' b → A' (b + 15) i ≠ A' (b + 15) j) : WT A' b N S U := by
  have h0 : A' b = A b := hf 0 (by decide) (by decide)
  have h2 : A' (b + 2) = A (b + 2) := hf 2 (by decide) (by decide)
  have h3 : A' (b + 3) = A (b + 3) := hf 3 (by decide) (by decide)
  have h5 : A' (b + 5) = A (b + 5) := hf 5 (by decide) (by decide)
  have h6 : A' (b + 6) = A (b + 6) := hf 6 (by decide) (by decide)
  have h7 : A' (b + 7) = A (b + 7) := hf 7 (by decide) (by decide)
  have h8 : A' (b + 8) = A (b + 8) := hf 8 (by decide) (by decide)
  have h9 : A' (b + 9) = A (b + 9) := hf 9 (by decide) (by decide)
  have h10 : A' (b + 10) = A (b + 10) := hf 10 (by decide) (by decide)
  have h11 : A' (b + 11) = A (b + 11) := hf 11 (by decide) (by decide)
  have h12 : A' (b + 12) = A (b + 12) := hf 12 (by decide) (by decide)
  have h13 : A' (b + 13) = A (b + 13) := hf 13 (by decide) (by decide)
  have h15 : A' (b + 15) = A (b + 15) := hf 15 (by decide) (by decide)
  have h16 : A' (b + 16) = A (b + 16) := hf 16 (by decide) (by decide)
  have hK : pK A' b = pK A b := pK_far h12
  apply WT.intro
  · simp only [h0]; exact h.hN
  · exact h.hU
  · exact h.h12
  · simp only [h0]; exact h.hS
  · exact h.h6
  · simp only [h0]; exact h.hY
  · simp only [h0]; exact h.hM
  · simp only [h0]; exact h.hL
  · simp only [h0]; exact h.mis
  · simp only [h2]; exact h.worth
  · simp only [h3]; exact h.sold
  · simp only [h5]; exact h.born
  · simp only [h6]; exact h.died
  · simp only [h7]; exact h.bears
  · simp only [h8]; exact h.coins
  · simp only [h9]; exact h.wed
  · simp only [h10]; exact h.one
  · simp only [h10]; exact h.two
  · simp only [h11]; exact h.away
  · simp only [h6, h11]; exact h.dead
  · simp only [h12]; exact h.likes
  · simp only [hK, h13]; exact h.like
  · exact ehQ
  · exact ewho
  · exact ewant
  · exact euniq
theorem WT.row15 (h : WT A b N S U) (hf : ∀ j, j < 17 → j ≠ 15 → A' (b + j) = A (b + j)) (ewho : ∀ k, k < qN A' b → ∃ p, p < N ∧ A' (b + 15) k = nI p) (euniq : ∀ i j, i < j → j < qN A' b → A' (b + 15) i ≠ A' (b + 15) j) : WT A' b N S U := by
  have h0 : A' b = A b := hf 0 (by decide) (by decide)
  have h2 : A' (b + 2) = A (b + 2) := hf 2 (by decide) (by decide)
  have h3 : A' (b + 3) = A (b + 3) := hf 3 (by decide) (by decide)
  have h5 : A' (b + 5) = A (b + 5) := hf 5 (by decide) (by decide)
  have h6 : A' (b + 6) = A (b + 6) := hf 6 (by decide) (by decide)
  have h7 : A' (b + 7) = A (b + 7) := hf 7 (by decide) (by decide)
  have h8 : A' (b + 8) = A (b + 8) := hf 8 (by decide) (by decide)
  have h9 : A' (b + 9) = A (b + 9) := hf 9 (by decide) (by decide)
  have h10 : A' (b + 10) = A (b + 10) := hf 10 (by decide) (by decide)
  have h11 : A' (b + 11) = A (b + 11) := hf 11 (by decide) (by decide)
  have h12 : A' (b + 12) = A (b + 12) := hf 12 (by decide) (by decide)
  have h13 : A' (b + 13) = A (b + 13) := hf 13 (by decide) (by decide)
  have h14 : A' (b + 14) = A (b + 14) := hf 14 (by decide) (by decide)
  have h16 : A' (b + 16) = A (b + 16) := hf 16 (by decide) (by decide)
  have hK : pK A' b = pK A b := pK_far h12
  have hQ : qN A' b = qN A b := qN_far h14
  apply WT.intro
  · simp only [h0]; exact h.hN
  · exact h.hU
  · exact h.h12
  · simp only [h0]; exact h.hS
  · exact h.h6
  · simp only [h0]; exact h.hY
  · simp only [h0]; exact h.hM
  · simp only [h0]; exact h.hL
  · simp only [h0]; exact h.mis
  · simp only [h2]; exact h.worth
  · simp only [h3]; exact h.sold
  · simp only [h5]; exact h.born
  · simp only [h6]; exact h.died
  · simp only [h7]; exact h.bears
  · simp only [h8]; exact h.coins
  · simp only [h9]; exact h.wed
  · simp only [h10]; exact h.one
  · simp only [h10]; exact h.two
  · simp only [h11]; exact h.away
  · simp only [h6, h11]; exact h.dead
  · simp only [h12]; exact h.likes
  · simp only [hK, h13]; exact h.like
  · simp only [hQ, h14]; exact h.hQ
  · exact ewho
  · simp only [hQ, h16]; exact h.want
  · exact euniq
theorem WT.row16 (h : WT A b N S U) (hf : ∀ j, j < 17 → j ≠ 16 → A' (b + j) = A (b + j)) (ewant : ∀ k, k < qN A' b → ∃ s, s < S ∧ A' (b + 16) k = nI s) : WT A' b N S U := by
  have h0 : A' b = A b := hf 0 (by decide) (by decide)
  have h2 : A' (b + 2) = A (b + 2) := hf 2 (by decide) (by decide)
  have h3 : A' (b + 3) = A (b + 3) := hf 3 (by decide) (by decide)
  have h5 : A' (b + 5) = A (b + 5) := hf 5 (by decide) (by decide)
  have h6 : A' (b + 6) = A (b + 6) := hf 6 (by decide) (by decide)
  have h7 : A' (b + 7) = A (b + 7) := hf 7 (by decide) (by decide)
  have h8 : A' (b + 8) = A (b + 8) := hf 8 (by decide) (by decide)
  have h9 : A' (b + 9) = A (b + 9) := hf 9 (by decide) (by decide)
  have h10 : A' (b + 10) = A (b + 10) := hf 10 (by decide) (by decide)
  have h11 : A' (b + 11) = A (b + 11) := hf 11 (by decide) (by decide)
  have h12 : A' (b + 12) = A (b + 12) := hf 12 (by decide) (by decide)
  have h13 : A' (b + 13) = A (b + 13) := hf 13 (by decide) (by decide)
  have h14 : A' (b + 14) = A (b + 14) := hf 14 (by decide) (by decide)
  have h15 : A' (b + 15) = A (b + 15) := hf 15 (by decide) (by decide)
  have hK : pK A' b = pK A b := pK_far h12
  have hQ : qN A' b = qN A b := qN_far h14
  apply WT.intro
  · simp only [h0]; exact h.hN
  · exact h.hU
  · exact h.h12
  · simp only [h0]; exact h.hS
  · exact h.h6
  · simp only [h0]; exact h.hY
  · simp only [h0]; exact h.hM
  · simp only [h0]; exact h.hL
  · simp only [h0]; exact h.mis
  · simp only [h2]; exact h.worth
  · simp only [h3]; exact h.sold
  · simp only [h5]; exact h.born
  · simp only [h6]; exact h.died
  · simp only [h7]; exact h.bears
  · simp only [h8]; exact h.coins
  · simp only [h9]; exact h.wed
  · simp only [h10]; exact h.one
  · simp only [h10]; exact h.two
  · simp only [h11]; exact h.away
  · simp only [h6, h11]; exact h.dead
  · simp only [h12]; exact h.likes
  · simp only [hK, h13]; exact h.like
  · simp only [hQ, h14]; exact h.hQ
  · simp only [hQ, h15]; exact h.who
  · exact ewant
  · simp only [hQ, h15]; exact h.uniq
theorem RT.year (h : RT A b c N S) (h12 : N ≤ 12) (h6 : S ≤ 6) (hp : p < 12) : RT (zu A b 0 x) b (fu c (2) x) N S := by
  have hK : pK (zu A b 0 x) b = pK A b := pK_far (by rw [zu_0o (j := 12) (by decide)])
  have hQ : qN (zu A b 0 x) b = qN A b := qN_far (by rw [zu_0o (j := 14) (by decide)])
  apply RT.intro
  · have := h.n0 ; rw [fu_ne _ _ (by omega)]; rw [this]; simp only [zu_row]; rw [if_neg (by omega)]
  · have := h.n1 ; rw [fu_ne _ _ (by omega)]; rw [this]; simp only [zu_row]; rw [if_neg (by omega)]
  · simp [fu, zu]
  · have := h.n3 ; rw [fu_ne _ _ (by omega)]; rw [this]; simp only [zu_row]; rw [if_neg (by omega)]
  · have := h.n4 ; rw [fu_ne _ _ (by omega)]; rw [this]; simp only [zu_row]; rw [if_neg (by omega)]
  · rw [fu_ne _ _ (by omega), zu_0o (j := 14) (by decide)]; exact h.n5 
  · intro a0 a1; rw [fu_ne _ _ (by omega), zu_0o (j := 2) (by decide)]; exact h.worth a0 a1
  · intro a0 a1; rw [fu_ne _ _ (by omega), zu_0o (j := 3) (by decide)]; exact h.sold a0 a1
  · intro a0 a1; rw [fu_ne _ _ (by omega), zu_0o (j := 5) (by decide)]; exact h.born a0 a1
  · intro a0 a1; rw [fu_ne _ _ (by omega), zu_0o (j := 7) (by decide)]; exact h.bears a0 a1
  · intro a0 a1; rw [fu_ne _ _ (by omega), zu_0o (j := 8) (by decide)]; exact h.coins a0 a1
  · intro a0 a1; have := h.miser a0 a1; rw [fu_ne _ _ (by omega)]; rw [this]; simp only [zu_row]; rw [if_neg (by omega)]
  · intro a0 a1; rw [fu_ne _ _ (by omega), zu_0o (j := 6) (by decide)]; exact h.died a0 a1
  · intro a0 a1; rw [fu_ne _ _ (by omega), zu_0o (j := 9) (by decide)]; exact h.wed a0 a1
  · intro a0 a1; rw [fu_ne _ _ (by omega), zu_0o (j := 10) (by decide)]; exact h.one a0 a1
  · intro a0 a1; rw [fu_ne _ _ (by omega), zu_0o (j := 10) (by decide)]; exact h.two a0 a1
  · intro a0 a1; rw [fu_ne _ _ (by omega), zu_0o (j := 11) (by decide)]; exact h.away a0 a1
  · intro a0 a1; rw [fu_ne _ _ (by omega), zu_0o (j := 12) (by decide)]; exact h.likes a0 a1
  · intro a0 a1 a2 a3; rw [hK] at a3; rw [fu_ne _ _ (by omega), zu_0o (j := 13) (by decide)]; exact h.like a0 a1 a2 a3
  · intro a0 a1; rw [hQ] at a1; rw [fu_ne _ _ (by omega), zu_0o (j := 15) (by decide)]; exact h.who a0 a1
  · intro a0 a1; rw [hQ] at a1; rw [fu_ne _ _ (by omega), zu_0o (j := 16) (by decide)]; exact h.want a0 a1
theorem RT.most (h : RT A b c N S) (h12 : N ≤ 12) (h6 : S ≤ 6) (hp : p < 12) : RT (zu A b 1 x) b (fu c (3) x) N S := by
  have hK : pK (zu A b 1 x) b = pK A b := pK_far (by rw [zu_0o (j := 12) (by decide)])
  have hQ : qN (zu A b 1 x) b = qN A b := qN_far (by rw [zu_0o (j := 14) (by decide)])
  apply RT.intro
  · have := h.n0 ; rw [fu_ne _ _ (by omega)]; rw [this]; simp only [zu_row]; rw [if_neg (by omega)]
  · have := h.n1 ; rw [fu_ne _ _ (by omega)]; rw [this]; simp only [zu_row]; rw [if_neg (by omega)]
  · have := h.n2 ; rw [fu_ne _ _ (by omega)]; rw [this]; simp only [zu_row]; rw [if_neg (by omega)]
  · simp [fu, zu]
  · have := h.n4 ; rw [fu_ne _ _ (by omega)]; rw [this]; simp only [zu_row]; rw [if_neg (by omega)]
  · rw [fu_ne _ _ (by omega), zu_0o (j := 14) (by decide)]; exact h.n5 
  · intro a0 a1; rw [fu_ne _ _ (by omega), zu_0o (j := 2) (by decide)]; exact h.worth a0 a1
  · intro a0 a1; rw [fu_ne _ _ (by omega), zu_0o (j := 3) (by decide)]; exact h.sold a0 a1
  · intro a0 a1; rw [fu_ne _ _ (by omega), zu_0o (j := 5) (by decide)]; exact h.born a0 a1
  · intro a0 a1; rw [fu_ne _ _ (by omega), zu_0o (j := 7) (by decide)]; exact h.bears a0 a1
  · intro a0 a1; rw [fu_ne _ _ (by omega), zu_0o (j := 8) (by decide)]; exact h.coins a0 a1
  · intro a0 a1; have := h.miser a0 a1; rw [fu_ne _ _ (by omega)]; rw [this]; simp only [zu_row]; rw [if_neg (by omega)]
  · intro a0 a1; rw [fu_ne _ _ (by omega), zu_0o (j := 6) (by decide)]; exact h.died a0 a1
  · intro a0 a1; rw [fu_ne _ _ (by omega), zu_0o (j := 9) (by decide)]; exact h.wed a0 a1
  · intro a0 a1; rw [fu_ne _ _ (by omega), zu_0o (j := 10) (by decide)]; exact h.one a0 a1
  · intro a0 a1; rw [fu_ne _ _ (by omega), zu_0o (j := 10) (by decide)]; exact h.two a0 a1
  · intro a0 a1; rw [fu_ne _ _ (by omega), zu_0o (j := 11) (by decide)]; exact h.away a0 a1
  · intro a0 a1; rw [fu_ne _ _ (by omega), zu_0o (j := 12) (by decide)]; exact h.likes a0 a1
  · intro a0 a1 a2 a3; rw [hK] at a3; rw [fu_ne _ _ (by omega), zu_0o (j := 13) (by decide)]; exact h.like a0 a1 a2 a3
  · intro a0 a1; rw [hQ] at a1; rw [fu_ne _ _ (by omega), zu_0o (j := 15) (by decide)]; exact h.who a0 a1
  · intro a0 a1; rw [hQ] at a1; rw [fu_ne _ _ (by omega), zu_0o (j := 16) (by decide)]; exact h.want a0 a1
theorem RT.set2 (h : RT A b c N S) (h12 : N ≤ 12) (h6 : S ≤ 6) (hp : p < 6) : RT (zu A (b + 2) p x) b (fu c (6 + p) x) N S := by
  have hK : pK (zu A (b + 2) p x) b = pK A b := pK_far (by rw [zu_oo (i := 2) (j := 12) (by decide)])
  have hQ : qN (zu A (b + 2) p x) b = qN A b := qN_far (by rw [zu_oo (i := 2) (j := 14) (by decide)])
  apply RT.intro
  · rw [fu_ne _ _ (by omega), zu_o0 (i := 2) (by decide)]; exact h.n0 
  · rw [fu_ne _ _ (by omega), zu_o0 (i := 2) (by decide)]; exact h.n1 
  · rw [fu_ne _ _ (by omega), zu_o0 (i := 2) (by decide)]; exact h.n2 
  · rw [fu_ne _ _ (by omega), zu_o0 (i := 2) (by decide)]; exact h.n3 
  · rw [fu_ne _ _ (by omega), zu_o0 (i := 2) (by decide)]; exact h.n4 
  · rw [fu_ne _ _ (by omega), zu_oo (i := 2) (j := 14) (by decide)]; exact h.n5 
  · intro a0 a1; by_cases e : a0 = p
    · subst e; simp [fu, zu]
    · rw [fu_ne _ _ (by omega)]; have := h.worth a0 a1; simp only [zu_row]; rw [if_neg (by omega)]; exact this
  · intro a0 a1; rw [fu_ne _ _ (by omega), zu_oo (i := 2) (j := 3) (by decide)]; exact h.sold a0 a1
  · intro a0 a1; rw [fu_ne _ _ (by omega), zu_oo (i := 2) (j := 5) (by decide)]; exact h.born a0 a1
  · intro a0 a1; rw [fu_ne _ _ (by omega), zu_oo (i := 2) (j := 7) (by decide)]; exact h.bears a0 a1
  · intro a0 a1; rw [fu_ne _ _ (by omega), zu_oo (i := 2) (j := 8) (by decide)]; exact h.coins a0 a1
  · intro a0 a1; rw [fu_ne _ _ (by omega), zu_o0 (i := 2) (by decide)]; exact h.miser a0 a1
  · intro a0 a1; rw [fu_ne _ _ (by omega), zu_oo (i := 2) (j := 6) (by decide)]; exact h.died a0 a1
  · intro a0 a1; rw [fu_ne _ _ (by omega), zu_oo (i := 2) (j := 9) (by decide)]; exact h.wed a0 a1
  · intro a0 a1; rw [fu_ne _ _ (by omega), zu_oo (i := 2) (j := 10) (by decide)]; exact h.one a0 a1
  · intro a0 a1; rw [fu_ne _ _ (by omega), zu_oo (i := 2) (j := 10) (by decide)]; exact h.two a0 a1
  · intro a0 a1; rw [fu_ne _ _ (by omega), zu_oo (i := 2) (j := 11) (by decide)]; exact h.away a0 a1
  · intro a0 a1; rw [fu_ne _ _ (by omega), zu_oo (i := 2) (j := 12) (by decide)]; exact h.likes a0 a1
  · intro a0 a1 a2 a3; rw [hK] at a3; rw [fu_ne _ _ (by omega), zu_oo (i := 2) (j := 13) (by decide)]; exact h.like a0 a1 a2 a3
  · intro a0 a1; rw [hQ] at a1; rw [fu_ne _ _ (by omega), zu_oo (i := 2) (j := 15) (by decide)]; exact h.who a0 a1
  · intro a0 a1; rw [hQ] at a1; rw [fu_ne _ _ (by omega), zu_oo (i := 2) (j := 16) (by decide)]; exact h.want a0 a1
theorem RT.set3 (h : RT A b c N S) (h12 : N ≤ 12) (h6 : S ≤ 6) (hp : p < 6) : RT (zu A (b + 3) p x) b (fu c (12 + p) (m0 x)) N S := by
  have hK : pK (zu A (b + 3) p x) b = pK A b := pK_far (by rw [zu_oo (i := 3) (j := 12) (by decide)])
  have hQ : qN (zu A (b + 3) p x) b = qN A b := qN_far (by rw [zu_oo (i := 3) (j := 14) (by decide)])
  apply RT.intro
  · rw [fu_ne _ _ (by omega), zu_o0 (i := 3) (by decide)]; exact h.n0 
  · rw [fu_ne _ _ (by omega), zu_o0 (i := 3) (by decide)]; exact h.n1 
  · rw [fu_ne _ _ (by omega), zu_o0 (i := 3) (by decide)]; exact h.n2 
  · rw [fu_ne _ _ (by omega), zu_o0 (i := 3) (by decide)]; exact h.n3 
  · rw [fu_ne _ _ (by omega), zu_o0 (i := 3) (by decide)]; exact h.n4 
  · rw [fu_ne _ _ (by omega), zu_oo (i := 3) (j := 14) (by decide)]; exact h.n5 
  · intro a0 a1; rw [fu_ne _ _ (by omega), zu_oo (i := 3) (j := 2) (by decide)]; exact h.worth a0 a1
  · intro a0 a1; by_cases e : a0 = p
    · subst e; simp [fu, zu]
    · rw [fu_ne _ _ (by omega)]; have := h.sold a0 a1; simp only [zu_row]; rw [if_neg (by omega)]; exact this
  · intro a0 a1; rw [fu_ne _ _ (by omega), zu_oo (i := 3) (j := 5) (by decide)]; exact h.born a0 a1
  · intro a0 a1; rw [fu_ne _ _ (by omega), zu_oo (i := 3) (j := 7) (by decide)]; exact h.bears a0 a1
  · intro a0 a1; rw [fu_ne _ _ (by omega), zu_oo (i := 3) (j := 8) (by decide)]; exact h.coins a0 a1
  · intro a0 a1; rw [fu_ne _ _ (by omega), zu_o0 (i := 3) (by decide)]; exact h.miser a0 a1
  · intro a0 a1; rw [fu_ne _ _ (by omega), zu_oo (i := 3) (j := 6) (by decide)]; exact h.died a0 a1
  · intro a0 a1; rw [fu_ne _ _ (by omega), zu_oo (i := 3) (j := 9) (by decide)]; exact h.wed a0 a1
  · intro a0 a1; rw [fu_ne _ _ (by omega), zu_oo (i := 3) (j := 10) (by decide)]; exact h.one a0 a1
  · intro a0 a1; rw [fu_ne _ _ (by omega), zu_oo (i := 3) (j := 10) (by decide)]; exact h.two a0 a1
  · intro a0 a1; rw [fu_ne _ _ (by omega), zu_oo (i := 3) (j := 11) (by decide)]; exact h.away a0 a1
  · intro a0 a1; rw [fu_ne _ _ (by omega), zu_oo (i := 3) (j := 12) (by decide)]; exact h.likes a0 a1
  · intro a0 a1 a2 a3; rw [hK] at a3; rw [fu_ne _ _ (by omega), zu_oo (i := 3) (j := 13) (by decide)]; exact h.like a0 a1 a2 a3
  · intro a0 a1; rw [hQ] at a1; rw [fu_ne _ _ (by omega), zu_oo (i := 3) (j := 15) (by decide)]; exact h.who a0 a1
  · intro a0 a1; rw [hQ] at a1; rw [fu_ne _ _ (by omega), zu_oo (i := 3) (j := 16) (by decide)]; exact h.want a0 a1
theorem RT.set5 (h : RT A b c N S) (h12 : N ≤ 12) (h6 : S ≤ 6) (hp : p < 12) : RT (zu A (b + 5) p x) b (fu c (18 + p) x) N S := by
  have hK : pK (zu A (b + 5) p x) b = pK A b := pK_far (by rw [zu_oo (i := 5) (j := 12) (by decide)])
  have hQ : qN (zu A (b + 5) p x) b = qN A b := qN_far (by rw [zu_oo (i := 5) (j := 14) (by decide)])
  apply RT.intro
  · rw [fu_ne _ _ (by omega), zu_o0 (i := 5) (by decide)]; exact h.n0 
  · rw [fu_ne _ _ (by omega), zu_o0 (i := 5) (by decide)]; exact h.n1 
  · rw [fu_ne _ _ (by omega), zu_o0 (i := 5) (by decide)]; exact h.n2 
  · rw [fu_ne _ _ (by omega), zu_o0 (i := 5) (by decide)]; exact h.n3 
  · rw [fu_ne _ _ (by omega), zu_o0 (i := 5) (by decide)]; exact h.n4 
  · rw [fu_ne _ _ (by omega), zu_oo (i := 5) (j := 14) (by decide)]; exact h.n5 
  · intro a0 a1; rw [fu_ne _ _ (by omega), zu_oo (i := 5) (j := 2) (by decide)]; exact h.worth a0 a1
  · intro a0 a1; rw [fu_ne _ _ (by omega), zu_oo (i := 5) (j := 3) (by decide)]; exact h.sold a0 a1
  · intro a0 a1; by_cases e : a0 = p
    · subst e; simp [fu, zu]
    · rw [fu_ne _ _ (by omega)]; have := h.born a0 a1; simp only [zu_row]; rw [if_neg (by omega)]; exact this
  · intro a0 a1; rw [fu_ne _ _ (by omega), zu_oo (i := 5) (j := 7) (by decide)]; exact h.bears a0 a1
  · intro a0 a1; rw [fu_ne _ _ (by omega), zu_oo (i := 5) (j := 8) (by decide)]; exact h.coins a0 a1
  · intro a0 a1; rw [fu_ne _ _ (by omega), zu_o0 (i := 5) (by decide)]; exact h.miser a0 a1
  · intro a0 a1; rw [fu_ne _ _ (by omega), zu_oo (i := 5) (j := 6) (by decide)]; exact h.died a0 a1
  · intro a0 a1; rw [fu_ne _ _ (by omega), zu_oo (i := 5) (j := 9) (by decide)]; exact h.wed a0 a1
  · intro a0 a1; rw [fu_ne _ _ (by omega), zu_oo (i := 5) (j := 10) (by decide)]; exact h.one a0 a1
  · intro a0 a1; rw [fu_ne _ _ (by omega), zu_oo (i := 5) (j := 10) (by decide)]; exact h.two a0 a1
  · intro a0 a1; rw [fu_ne _ _ (by omega), zu_oo (i := 5) (j := 11) (by decide)]; exact h.away a0 a1
  · intro a0 a1; rw [fu_ne _ _ (by omega), zu_oo (i := 5) (j := 12) (by decide)]; exact h.likes a0 a1
  · intro a0 a1 a2 a3; rw [hK] at a3; rw [fu_ne _ _ (by omega), zu_oo (i := 5) (j := 13) (by decide)]; exact h.like a0 a1 a2 a3
  · intro a0 a1; rw [hQ] at a1; rw [fu_ne _ _ (by omega), zu_oo (i := 5) (j := 15) (by decide)]; exact h.who a0 a1
  · intro a0 a1; rw [hQ] at a1; rw [fu_ne _ _ (by omega), zu_oo (i := 5) (j := 16) (by decide)]; exact h.want a0 a1
theorem RT.set7 (h : RT A b c N S) (h12 : N ≤ 12) (h6 : S ≤ 6) (hp : p < 12) : RT (zu A (b + 7) p x) b (fu c (30 + p) x) N S := by
  have hK : pK (zu A (b + 7) p x) b = pK A b := pK_far (by rw [zu_oo (i := 7) (j := 12) (by decide)])
  have hQ : qN (zu A (b + 7) p x) b = qN A b := qN_far (by rw [zu_oo (i := 7) (j := 14) (by decide)])
  apply RT.intro
  · rw [fu_ne _ _ (by omega), zu_o0 (i := 7) (by decide)]; exact h.n0 
  · rw [fu_ne _ _ (by omega), zu_o0 (i := 7) (by decide)]; exact h.n1 
  · rw [fu_ne _ _ (by omega), zu_o0 (i := 7) (by decide)]; exact h.n2 
  · rw [fu_ne _ _ (by omega), zu_o0 (i := 7) (by decide)]; exact h.n3 
  · rw [fu_ne _ _ (by omega), zu_o0 (i := 7) (by decide)]; exact h.n4 
  · rw [fu_ne _ _ (by omega), zu_oo (i := 7) (j := 14) (by decide)]; exact h.n5 
  · intro a0 a1; rw [fu_ne _ _ (by omega), zu_oo (i := 7) (j := 2) (by decide)]; exact h.worth a0 a1
  · intro a0 a1; rw [fu_ne _ _ (by omega), zu_oo (i := 7) (j := 3) (by decide)]; exact h.sold a0 a1
  · intro a0 a1; rw [fu_ne _ _ (by omega), zu_oo (i := 7) (j := 5) (by decide)]; exact h.born a0 a1
  · intro a0 a1; by_cases e : a0 = p
    · subst e; simp [fu, zu]
    · rw [fu_ne _ _ (by omega)]; have := h.bears a0 a1; simp only [zu_row]; rw [if_neg (by omega)]; exact this
  · intro a0 a1; rw [fu_ne _ _ (by omega), zu_oo (i := 7) (j := 8) (by decide)]; exact h.coins a0 a1
  · intro a0 a1; rw [fu_ne _ _ (by omega), zu_o0 (i := 7) (by decide)]; exact h.miser a0 a1
  · intro a0 a1; rw [fu_ne _ _ (by omega), zu_oo (i := 7) (j := 6) (by decide)]; exact h.died a0 a1
  · intro a0 a1; rw [fu_ne _ _ (by omega), zu_oo (i := 7) (j := 9) (by decide)]; exact h.wed a0 a1
  · intro a0 a1; rw [fu_ne _ _ (by omega), zu_oo (i := 7) (j := 10) (by decide)]; exact h.one a0 a1
  · intro a0 a1; rw [fu_ne _ _ (by omega), zu_oo (i := 7) (j := 10) (by decide)]; exact h.two a0 a1
  · intro a0 a1; rw [fu_ne _ _ (by omega), zu_oo (i := 7) (j := 11) (by decide)]; exact h.away a0 a1
  · intro a0 a1; rw [fu_ne _ _ (by omega), zu_oo (i := 7) (j := 12) (by decide)]; exact h.likes a0 a1
  · intro a0 a1 a2 a3; rw [hK] at a3; rw [fu_ne _ _ (by omega), zu_oo (i := 7) (j := 13) (by decide)]; exact h.like a0 a1 a2 a3
  · intro a0 a1; rw [hQ] at a1; rw [fu_ne _ _ (by omega), zu_oo (i := 7) (j := 15) (by decide)]; exact h.who a0 a1
  · intro a0 a1; rw [hQ] at a1; rw [fu_ne _ _ (by omega), zu_oo (i := 7) (j := 16) (by decide)]; exact h.want a0 a1
theorem RT.set8 (h : RT A b c N S) (h12 : N ≤ 12) (h6 : S ≤ 6) (hp : p < 12) : RT (zu A (b + 8) p x) b (fu c (42 + p) x) N S := by
  have hK : pK (zu A (b + 8) p x) b = pK A b := pK_far (by rw [zu_oo (i := 8) (j := 12) (by decide)])
  have hQ : qN (zu A (b + 8) p x) b = qN A b := qN_far (by rw [zu_oo (i := 8) (j := 14) (by decide)])
  apply RT.intro
  · rw [fu_ne _ _ (by omega), zu_o0 (i := 8) (by decide)]; exact h.n0 
  · rw [fu_ne _ _ (by omega), zu_o0 (i := 8) (by decide)]; exact h.n1 
  · rw [fu_ne _ _ (by omega), zu_o0 (i := 8) (by decide)]; exact h.n2 
  · rw [fu_ne _ _ (by omega), zu_o0 (i := 8) (by decide)]; exact h.n3 
  · rw [fu_ne _ _ (by omega), zu_o0 (i := 8) (by decide)]; exact h.n4 
  · rw [fu_ne _ _ (by omega), zu_oo (i := 8) (j := 14) (by decide)]; exact h.n5 
  · intro a0 a1; rw [fu_ne _ _ (by omega), zu_oo (i := 8) (j := 2) (by decide)]; exact h.worth a0 a1
  · intro a0 a1; rw [fu_ne _ _ (by omega), zu_oo (i := 8) (j := 3) (by decide)]; exact h.sold a0 a1
  · intro a0 a1; rw [fu_ne _ _ (by omega), zu_oo (i := 8) (j := 5) (by decide)]; exact h.born a0 a1
  · intro a0 a1; rw [fu_ne _ _ (by omega), zu_oo (i := 8) (j := 7) (by decide)]; exact h.bears a0 a1
  · intro a0 a1; by_cases e : a0 = p
    · subst e; simp [fu, zu]
    · rw [fu_ne _ _ (by omega)]; have := h.coins a0 a1; simp only [zu_row]; rw [if_neg (by omega)]; exact this
  · intro a0 a1; rw [fu_ne _ _ (by omega), zu_o0 (i := 8) (by decide)]; exact h.miser a0 a1
  · intro a0 a1; rw [fu_ne _ _ (by omega), zu_oo (i := 8) (j := 6) (by decide)]; exact h.died a0 a1
  · intro a0 a1; rw [fu_ne _ _ (by omega), zu_oo (i := 8) (j := 9) (by decide)]; exact h.wed a0 a1
  · intro a0 a1; rw [fu_ne _ _ (by omega), zu_oo (i := 8) (j := 10) (by decide)]; exact h.one a0 a1
  · intro a0 a1; rw [fu_ne _ _ (by omega), zu_oo (i := 8) (j := 10) (by decide)]; exact h.two a0 a1
  · intro a0 a1; rw [fu_ne _ _ (by omega), zu_oo (i := 8) (j := 11) (by decide)]; exact h.away a0 a1
  · intro a0 a1; rw [fu_ne _ _ (by omega), zu_oo (i := 8) (j := 12) (by decide)]; exact h.likes a0 a1
  · intro a0 a1 a2 a3; rw [hK] at a3; rw [fu_ne _ _ (by omega), zu_oo (i := 8) (j := 13) (by decide)]; exact h.like a0 a1 a2 a3
  · intro a0 a1; rw [hQ] at a1; rw [fu_ne _ _ (by omega), zu_oo (i := 8) (j := 15) (by decide)]; exact h.who a0 a1
  · intro a0 a1; rw [hQ] at a1; rw [fu_ne _ _ (by omega), zu_oo (i := 8) (j := 16) (by decide)]; exact h.want a0 a1
theorem RT.set6 (h : RT A b c N S) (h12 : N ≤ 12) (h6 : S ≤ 6) (hp : p < 12) : RT (zu A (b + 6) p x) b (fu c (66 + p) (m0 x)) N S := by
  have hK : pK (zu A (b + 6) p x) b = pK A b := pK_far (by rw [zu_oo (i := 6) (j := 12) (by decide)])
  have hQ : qN (zu A (b + 6) p x) b = qN A b := qN_far (by rw [zu_oo (i := 6) (j := 14) (by decide)])
  apply RT.intro
  · rw [fu_ne _ _ (by omega), zu_o0 (i := 6) (by decide)]; exact h.n0 
  · rw [fu_ne _ _ (by omega), zu_o0 (i := 6) (by decide)]; exact h.n1 
  · rw [fu_ne _ _ (by omega), zu_o0 (i := 6) (by decide)]; exact h.n2 
  · rw [fu_ne _ _ (by omega), zu_o0 (i := 6) (by decide)]; exact h.n3 
  · rw [fu_ne _ _ (by omega), zu_o0 (i := 6) (by decide)]; exact h.n4 
  · rw [fu_ne _ _ (by omega), zu_oo (i := 6) (j := 14) (by decide)]; exact h.n5 
  · intro a0 a1; rw [fu_ne _ _ (by omega), zu_oo (i := 6) (j := 2) (by decide)]; exact h.worth a0 a1
  · intro a0 a1; rw [fu_ne _ _ (by omega), zu_oo (i := 6) (j := 3) (by decide)]; exact h.sold a0 a1
  · intro a0 a1; rw [fu_ne _ _ (by omega), zu_oo (i := 6) (j := 5) (by decide)]; exact h.born a0 a1
  · intro a0 a1; rw [fu_ne _ _ (by omega), zu_oo (i := 6) (j := 7) (by decide)]; exact h.bears a0 a1
  · intro a0 a1; rw [fu_ne _ _ (by omega), zu_oo (i := 6) (j := 8) (by decide)]; exact h.coins a0 a1
  · intro a0 a1; rw [fu_ne _ _ (by omega), zu_o0 (i := 6) (by decide)]; exact h.miser a0 a1
  · intro a0 a1; by_cases e : a0 = p
    · subst e; simp [fu, zu]
    · rw [fu_ne _ _ (by omega)]; have := h.died a0 a1; simp only [zu_row]; rw [if_neg (by omega)]; exact this
  · intro a0 a1; rw [fu_ne _ _ (by omega), zu_oo (i := 6) (j := 9) (by decide)]; exact h.wed a0 a1
  · intro a0 a1; rw [fu_ne _ _ (by omega), zu_oo (i := 6) (j := 10) (by decide)]; exact h.one a0 a1
  · intro a0 a1; rw [fu_ne _ _ (by omega), zu_oo (i := 6) (j := 10) (by decide)]; exact h.two a0 a1
  · intro a0 a1; rw [fu_ne _ _ (by omega), zu_oo (i := 6) (j := 11) (by decide)]; exact h.away a0 a1
  · intro a0 a1; rw [fu_ne _ _ (by omega), zu_oo (i := 6) (j := 12) (by decide)]; exact h.likes a0 a1
  · intro a0 a1 a2 a3; rw [hK] at a3; rw [fu_ne _ _ (by omega), zu_oo (i := 6) (j := 13) (by decide)]; exact h.like a0 a1 a2 a3
  · intro a0 a1; rw [hQ] at a1; rw [fu_ne _ _ (by omega), zu_oo (i := 6) (j := 15) (by decide)]; exact h.who a0 a1
  · intro a0 a1; rw [hQ] at a1; rw [fu_ne _ _ (by omega), zu_oo (i := 6) (j := 16) (by decide)]; exact h.want a0 a1
theorem RT.set9 (h : RT A b c N S) (h12 : N ≤ 12) (h6 : S ≤ 6) (hp : p < 12) : RT (zu A (b + 9) p x) b (fu c (78 + p) x) N S := by
  have hK : pK (zu A (b + 9) p x) b = pK A b := pK_far (by rw [zu_oo (i := 9) (j := 12) (by decide)])
  have hQ : qN (zu A (b + 9) p x) b = qN A b := qN_far (by rw [zu_oo (i := 9) (j := 14) (by decide)])
  apply RT.intro
  · rw [fu_ne _ _ (by omega), zu_o0 (i := 9) (by decide)]; exact h.n0 
  · rw [fu_ne _ _ (by omega), zu_o0 (i := 9) (by decide)]; exact h.n1 
  · rw [fu_ne _ _ (by omega), zu_o0 (i := 9) (by decide)]; exact h.n2 
  · rw [fu_ne _ _ (by omega), zu_o0 (i := 9) (by decide)]; exact h.n3 
  · rw [fu_ne _ _ (by omega), zu_o0 (i := 9) (by decide)]; exact h.n4 
  · rw [fu_ne _ _ (by omega), zu_oo (i := 9) (j := 14) (by decide)]; exact h.n5 
  · intro a0 a1; rw [fu_ne _ _ (by omega), zu_oo (i := 9) (j := 2) (by decide)]; exact h.worth a0 a1
  · intro a0 a1; rw [fu_ne _ _ (by omega), zu_oo (i := 9) (j := 3) (by decide)]; exact h.sold a0 a1
  · intro a0 a1; rw [fu_ne _ _ (by omega), zu_oo (i := 9) (j := 5) (by decide)]; exact h.born a0 a1
  · intro a0 a1; rw [fu_ne _ _ (by omega), zu_oo (i := 9) (j := 7) (by decide)]; exact h.bears a0 a1
  · intro a0 a1; rw [fu_ne _ _ (by omega), zu_oo (i := 9) (j := 8) (by decide)]; exact h.coins a0 a1
  · intro a0 a1; rw [fu_ne _ _ (by omega), zu_o0 (i := 9) (by decide)]; exact h.miser a0 a1
  · intro a0 a1; rw [fu_ne _ _ (by omega), zu_oo (i := 9) (j := 6) (by decide)]; exact h.died a0 a1
  · intro a0 a1; by_cases e : a0 = p
    · subst e; simp [fu, zu]
    · rw [fu_ne _ _ (by omega)]; have := h.wed a0 a1; simp only [zu_row]; rw [if_neg (by omega)]; exact this
  · intro a0 a1; rw [fu_ne _ _ (by omega), zu_oo (i := 9) (j := 10) (by decide)]; exact h.one a0 a1
  · intro a0 a1; rw [fu_ne _ _ (by omega), zu_oo (i := 9) (j := 10) (by decide)]; exact h.two a0 a1
  · intro a0 a1; rw [fu_ne _ _ (by omega), zu_oo (i := 9) (j := 11) (by decide)]; exact h.away a0 a1
  · intro a0 a1; rw [fu_ne _ _ (by omega), zu_oo (i := 9) (j := 12) (by decide)]; exact h.likes a0 a1
  · intro a0 a1 a2 a3; rw [hK] at a3; rw [fu_ne _ _ (by omega), zu_oo (i := 9) (j := 13) (by decide)]; exact h.like a0 a1 a2 a3
  · intro a0 a1; rw [hQ] at a1; rw [fu_ne _ _ (by omega), zu_oo (i := 9) (j := 15) (by decide)]; exact h.who a0 a1
  · intro a0 a1; rw [hQ] at a1; rw [fu_ne _ _ (by omega), zu_oo (i := 9) (j := 16) (by decide)]; exact h.want a0 a1
theorem RT.set11 (h : RT A b c N S) (h12 : N ≤ 12) (h6 : S ≤ 6) (hp : p < 12) : RT (zu A (b + 11) p x) b (fu c (114 + p) (m0 x)) N S := by
  have hK : pK (zu A (b + 11) p x) b = pK A b := pK_far (by rw [zu_oo (i := 11) (j := 12) (by decide)])
  have hQ : qN (zu A (b + 11) p x) b = qN A b := qN_far (by rw [zu_oo (i := 11) (j := 14) (by decide)])
  apply RT.intro
  · rw [fu_ne _ _ (by omega), zu_o0 (i := 11) (by decide)]; exact h.n0 
  · rw [fu_ne _ _ (by omega), zu_o0 (i := 11) (by decide)]; exact h.n1 
  · rw [fu_ne _ _ (by omega), zu_o0 (i := 11) (by decide)]; exact h.n2 
  · rw [fu_ne _ _ (by omega), zu_o0 (i := 11) (by decide)]; exact h.n3 
  · rw [fu_ne _ _ (by omega), zu_o0 (i := 11) (by decide)]; exact h.n4 
  · rw [fu_ne _ _ (by omega), zu_oo (i := 11) (j := 14) (by decide)]; exact h.n5 
  · intro a0 a1; rw [fu_ne _ _ (by omega), zu_oo (i := 11) (j := 2) (by decide)]; exact h.worth a0 a1
  · intro a0 a1; rw [fu_ne _ _ (by omega), zu_oo (i := 11) (j := 3) (by decide)]; exact h.sold a0 a1
  · intro a0 a1; rw [fu_ne _ _ (by omega), zu_oo (i := 11) (j := 5) (by decide)]; exact h.born a0 a1
  · intro a0 a1; rw [fu_ne _ _ (by omega), zu_oo (i := 11) (j := 7) (by decide)]; exact h.bears a0 a1
  · intro a0 a1; rw [fu_ne _ _ (by omega), zu_oo (i := 11) (j := 8) (by decide)]; exact h.coins a0 a1
  · intro a0 a1; rw [fu_ne _ _ (by omega), zu_o0 (i := 11) (by decide)]; exact h.miser a0 a1
  · intro a0 a1; rw [fu_ne _ _ (by omega), zu_oo (i := 11) (j := 6) (by decide)]; exact h.died a0 a1
  · intro a0 a1; rw [fu_ne _ _ (by omega), zu_oo (i := 11) (j := 9) (by decide)]; exact h.wed a0 a1
  · intro a0 a1; rw [fu_ne _ _ (by omega), zu_oo (i := 11) (j := 10) (by decide)]; exact h.one a0 a1
  · intro a0 a1; rw [fu_ne _ _ (by omega), zu_oo (i := 11) (j := 10) (by decide)]; exact h.two a0 a1
  · intro a0 a1; by_cases e : a0 = p
    · subst e; simp [fu, zu]
    · rw [fu_ne _ _ (by omega)]; have := h.away a0 a1; simp only [zu_row]; rw [if_neg (by omega)]; exact this
  · intro a0 a1; rw [fu_ne _ _ (by omega), zu_oo (i := 11) (j := 12) (by decide)]; exact h.likes a0 a1
  · intro a0 a1 a2 a3; rw [hK] at a3; rw [fu_ne _ _ (by omega), zu_oo (i := 11) (j := 13) (by decide)]; exact h.like a0 a1 a2 a3
  · intro a0 a1; rw [hQ] at a1; rw [fu_ne _ _ (by omega), zu_oo (i := 11) (j := 15) (by decide)]; exact h.who a0 a1
  · intro a0 a1; rw [hQ] at a1; rw [fu_ne _ _ (by omega), zu_oo (i := 11) (j := 16) (by decide)]; exact h.want a0 a1
end RE
