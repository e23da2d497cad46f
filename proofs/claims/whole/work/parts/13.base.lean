/-! LOOPS: f at p, p + 1, .. , k times -/
def zfor {α : Type} (f : Nat → α → α) : Nat → Nat → α → α
  | _, 0, a => a
  | p, k + 1, a => zfor f (p + 1) k (f p a)
theorem zloop {α R : Type} (X : Nat → α → R) (f : Nat → α → α) (N : Nat) (hs : ∀ p a, p < N → X p a = X (p + 1) (f p a)) : ∀ k p a, p + k = N → X p a = X N (zfor f p k a)
  | 0, p, a, h => by
    rw [show p = N by omega]
    rfl
  | k + 1, p, a, h => by
    rw [hs p a (by omega)]
    exact zloop X f N hs k (p + 1) (f p a) (by omega)
theorem zfit_i (x : Int32) : zfit .int (.int x) = true := rfl
theorem zfit_l (x : Int64) : zfit .long (.long x) = true := rfl
theorem zfit_b0 : zfit .boolean (.int 0) = true := rfl
theorem zfit_b1 : zfit .boolean (.int 1) = true := rfl
theorem zclr_i (x : Int32) : zclr (some (.int x)) = some (.int x) := rfl
theorem zclr_r (x : Nat) : zclr (some (.ref x)) = some (.ref x) := rfl
theorem zclr_n : zclr none = none := rfl
theorem zclr_l (x : Int64) : zclr (some (.long x)) = none := rfl
