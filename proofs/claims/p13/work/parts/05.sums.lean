/-! sums over rows and columns -/
def sN (f : Nat → Nat) : Nat → Nat
  | 0 => 0
  | n + 1 => sN f n + f n
theorem sN_split (f : Nat → Nat) (a b : Nat) : sN f (a + b) = sN f a + sN (fun i => f (a + i)) b := by
  induction b with
  | zero => rfl
  | succ b ih =>
    show sN f (a + b) + f (a + b) = sN f a + (sN (fun i => f (a + i)) b + f (a + b))
    omega
theorem sN_plus (f g : Nat → Nat) (n : Nat) : sN (fun i => f i + g i) n = sN f n + sN g n := by
  induction n with
  | zero => rfl
  | succ n ih =>
    show sN (fun i => f i + g i) n + (f n + g n) = (sN f n + f n) + (sN g n + g n)
    omega
theorem sN_congr {f g : Nat → Nat} {n : Nat} (h : ∀ i, i < n → f i = g i) : sN f n = sN g n := by
  induction n with
  | zero => rfl
  | succ n ih =>
    show sN f n + f n = sN g n + g n
    rw [ih (fun i hi => h i (by omega)), h n (by omega)]
theorem sN_le {f : Nat → Nat} {n M : Nat} (h : ∀ i, i < n → f i ≤ M) : sN f n ≤ n * M := by
  induction n with
  | zero => exact Nat.zero_le _
  | succ n ih =>
    have h1 := ih (fun i hi => h i (by omega))
    have h2 := h n (by omega)
    show sN f n + f n ≤ (n + 1) * M
    rw [Nat.succ_mul]
    omega
/-- the cells left of x and above y -/
def psm (f : Nat → Nat → Nat) (x y : Nat) : Nat := sN (fun j => sN (fun i => f i j) x) y
/-- the cells of a board -/
def rcs (f : Nat → Nat → Nat) (x y ax ay : Nat) : Nat := sN (fun j => sN (fun i => f (x + i) (y + j)) ax) ay
theorem psm_x0 (f : Nat → Nat → Nat) (y : Nat) : psm f 0 y = 0 := by
  unfold psm
  induction y with
  | zero => rfl
  | succ y ih =>
    show sN (fun j => sN (fun i => f i j) 0) y + 0 = 0
    omega
theorem psm_y0 (f : Nat → Nat → Nat) (x : Nat) : psm f x 0 = 0 := rfl
theorem psm_y1 (f : Nat → Nat → Nat) (x y : Nat) : psm f x (y + 1) = psm f x y + sN (fun i => f i y) x := rfl
theorem rcs_psm (f : Nat → Nat → Nat) (x y ax ay : Nat) : rcs f x y ax ay + psm f x (y + ay) + psm f (x + ax) y = psm f (x + ax) (y + ay) + psm f x y := by
  unfold rcs psm
  rw [sN_split (fun j => sN (fun i => f i j) x) y ay, sN_split (fun j => sN (fun i => f i j) (x + ax)) y ay]
  have e : sN (fun j => sN (fun i => f i (y + j)) (x + ax)) ay = sN (fun j => sN (fun i => f i (y + j)) x) ay + sN (fun j => sN (fun i => f (x + i) (y + j)) ax) ay := by
    rw [← sN_plus]
    exact sN_congr (fun j _ => sN_split (fun i => f i (y + j)) x ax)
  rw [e]
  omega
theorem psm_le {f : Nat → Nat → Nat} {x y M : Nat} (h : ∀ i j, i < x → j < y → f i j ≤ M) : psm f x y ≤ y * (x * M) := sN_le (fun j hj => sN_le (fun i hi => h i j hi hj))
theorem rcs_le {f : Nat → Nat → Nat} {x y ax ay M : Nat} (h : ∀ i j, i < ax → j < ay → f (x + i) (y + j) ≤ M) : rcs f x y ax ay ≤ ay * (ax * M) := sN_le (fun j hj => sN_le (fun i hi => h i j hi hj))
