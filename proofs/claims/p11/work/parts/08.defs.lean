/-- a cell that isn't wood counts 1 -/
noncomputable def fbare (side : Nat) (IN : Nat → Prop) (x y : Nat) : Nat := bareN (IN (y * side + x) ∧ IN (side * side + (y * side + x)))
/-- a cell's loss -/
def floss (side : Nat) (LO : Nat → Nat) (x y : Nat) : Nat := LO (y * side + x)
theorem fbare_le (side : Nat) (IN : Nat → Prop) : ∀ i j, i < side → j < side → fbare side IN i j ≤ 10000 := fun i j _ _ => Nat.le_trans (bareN_le _) (by decide)
theorem floss_le {side : Nat} {LO : Nat → Nat} (h : ∀ k, k < side * side → LO k ≤ 10000) : ∀ i j, i < side → j < side → floss side LO i j ≤ 10000 := fun i j hi hj => h _ (idxS hi hj)
