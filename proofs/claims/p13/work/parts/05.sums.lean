/-! sums over rows and columns -/
def sN (f : Nat → Nat) : Nat → Nat
  | 0 => 0
  | n + 1 => sN f n + f n
theorem sN_split (f : Nat → Nat) (a b : Nat) : sN f (a + b) = sN f a + sN (fun i => f (a + i)) b := by
  induction b with
  | zero => rfl
  | succ b ih =>
    show sN f (a + b) + f (a + b) = sN f a + (sN (fun i => f (a + i)) b + f (a + b))
    omega
theorem sN_plus (f g : Nat → Nat) (n : Nat) : sN (fun i => f i + g i) n = sN f n + sN g n := by
  induction n with
  | zero => rfl
  | succ n ih =>
    show sN (fun i => f i + g i) n + (f n + g n) = (sN f n + f n) + (sN g n + g n)
    omega
theorem sN_congr {f g : Nat → Nat} {n : Nat} (h : ∀ i, i < n → f i = g i) : sN f n = sN g n := by
  induction n with
  | zero => rfl
  | succ n ih =>
    show sN f n + f n = sN g n + g n
    rw [ih (fun i hi => h i (by omega)), h n (by omega)]
theorem sN_le {f : Nat → Nat} {n M : Nat} (h : ∀ i, i < n → f i ≤ M) : sN f n ≤ n * M := by
  induction n with
  | zero => exact Nat.zero_le _
  | succ n ih =>
    have h1 := ih (fun i hi => h i (by omega))
    have h2 := h n (by omega)
    show sN f n + f n ≤ (n + 1) * M
    rw [Nat.succ_mul]
    omega
/-- the cells left of x and above y -/
def psm (f : Nat → Nat → Nat) (x y : Nat) : Nat := sN (fun j => sN (fun i => f i j) x) y
/-- the cells of a board -/
def rcs (f : Nat → Nat → Nat) (x y ax ay : Nat) : Nat := sN (fun j => sN (fun i => f (x + i) (y + j)) ax) ay
theorem psm_x0 (f : Nat → Nat → Nat) (y : Nat) : psm f 0 y = 0 := by
  unfold psm
  induction y with
  | zero => rfl
  | succ y ih =>
    show sN (fun j => sN (fun i => f i j) 0) y + 0 = 0
    omega
theorem psm_y0 (f : Nat → Nat → Nat) (x : Nat) : psm f x 0 = 0 := rfl
theorem psm_y1 (f : Nat → Nat → Nat) (x y : Nat) : psm f x (y + 1) = psm f x y + sN (fun i => f i y) x := rfl
theorem rcs_psm (f : Nat → Nat → Nat) (x y ax ay : Nat) : rcs f x y ax ay + psm f x (y + ay) + psm f (x + ax) y = psm f (x + ax) (y + ay) + psm f x y := by
  unfold rcs psm
  rw [sN_split (fun j => sN (fun i => f i j) x) y ay, sN_split (fun j => sN (fun i => f i j) (x + ax)) y ay]
  have e : sN (fun j => sN (fun i => f i (y + j)) (x + ax)) ay = sN (fun j => sN (fun i => f i (y + j)) x) ay + sN (fun j => sN (fun i => f (x + i) (y + j)) ax) ay := by
    rw [← sN_plus]
    exact sN_congr (fun j _ => sN_split (fun i => f i (y + j)) x ax)
  rw [e]
  omega
theorem psm_le {f : Nat → Nat → Nat} {x y M : Nat} (h : ∀ i j, i < x → j < y → f i j ≤ M) : psm f x y ≤ y * (x * M) := sN_le (fun j hj => sN_le (fun i hi => h i j hi hj))
theorem rcs_le {f : Nat → Nat → Nat} {x y ax ay M : Nat} (h : ∀ i j, i < ax → j < ay → f (x + i) (y + j) ≤ M) : rcs f x y ax ay ≤ ay * (ax * M) := sN_le (fun j hj => sN_le (fun i hi => h i j hi hj))
/-- the sum over a board's cells, -1 if not all of it is on the grid -/
def sumZ (f : Nat → Nat → Nat) (side : Nat) (x y : Int) (ax ay : Nat) : Int := if 0 ≤ x ∧ 0 ≤ y ∧ x + (ax : Int) ≤ (side : Int) ∧ y + (ay : Int) ≤ (side : Int) then (rcs f x.toNat y.toNat ax ay : Int) else -1
theorem sumZ_no {f : Nat → Nat → Nat} {side : Nat} {x y : Int} {ax ay : Nat} (h : ¬ (0 ≤ x ∧ 0 ≤ y ∧ x + (ax : Int) ≤ (side : Int) ∧ y + (ay : Int) ≤ (side : Int))) : sumZ f side x y ax ay = -1 := if_neg h
theorem sumZ_in {f : Nat → Nat → Nat} {side X Y ax ay : Nat} {x y : Int} (hx : x = (X : Int)) (hy : y = (Y : Int)) (h1 : X + ax ≤ side) (h2 : Y + ay ≤ side) : sumZ f side x y ax ay = (rcs f X Y ax ay : Int) := by
  subst hx; subst hy
  unfold sumZ
  rw [if_pos (by omega), Int.toNat_natCast, Int.toNat_natCast]
theorem sumZ_lo (f : Nat → Nat → Nat) (side : Nat) (x y : Int) (ax ay : Nat) : -1 ≤ sumZ f side x y ax ay := by
  unfold sumZ
  split <;> omega
theorem sumZ_hi {f : Nat → Nat → Nat} {side : Nat} (x y : Int) (ax ay : Nat) (hs : side ≤ 20) (hf : ∀ i j, i < side → j < side → f i j ≤ 10000) : sumZ f side x y ax ay ≤ 4000000 := by
  by_cases h : 0 ≤ x ∧ 0 ≤ y ∧ x + (ax : Int) ≤ (side : Int) ∧ y + (ay : Int) ≤ (side : Int)
  · obtain ⟨h1, h2, h3, h4⟩ := h
    obtain ⟨X, rfl⟩ := Int.eq_ofNat_of_zero_le h1
    obtain ⟨Y, rfl⟩ := Int.eq_ofNat_of_zero_le h2
    rw [sumZ_in rfl rfl (by omega) (by omega)]
    have k1 : rcs f X Y ax ay ≤ ay * (ax * 10000) := rcs_le (fun i j hi hj => hf _ _ (by omega) (by omega))
    have k2 : ay * (ax * 10000) ≤ 20 * (20 * 10000) := Nat.mul_le_mul (by omega) (Nat.mul_le_mul (by omega) (Nat.le_refl _))
    omega
  · rw [sumZ_no h]; omega
theorem idxC {X Y n : Nat} (hx : X ≤ n) (hy : Y ≤ n) : Y * (n + 1) + X < (n + 1) * (n + 1) := by
  have h : Y * (n + 1) ≤ n * (n + 1) := Nat.mul_le_mul hy (Nat.le_refl _)
  have e : (n + 1) * (n + 1) = n * (n + 1) + (n + 1) := Nat.succ_mul n (n + 1)
  omega
theorem idxS {X Y n : Nat} (hx : X < n) (hy : Y < n) : Y * n + X < n * n := by
  have h : (Y + 1) * n ≤ n * n := Nat.mul_le_mul (by omega) (Nat.le_refl _)
  have e : (Y + 1) * n = Y * n + n := Nat.succ_mul Y n
  omega
theorem sq20 {n : Nat} (h : n ≤ 20) : (n + 1) * (n + 1) ≤ 441 ∧ n * n ≤ 400 := by
  have h1 := Nat.mul_le_mul (show n + 1 ≤ 21 by omega) (show n + 1 ≤ 21 by omega)
  have h2 := Nat.mul_le_mul h h
  exact ⟨h1, h2⟩
