/-! sums over rows and columns -/
def sN (f : Nat → Nat) : Nat → Nat
  | 0 => 0
  | n + 1 => sN f n + f n
theorem sN_split (f : Nat → Nat) (a b : Nat) : sN f (a + b) = sN f a + sN (fun i => f (a + i)) b := by
  induction b with
  | zero => rfl
  | succ b ih =>
    show sN f (a + b) + f (a + b) = sN f a + (sN (fun i => f (a + i)) b + f (a + b))
    omega
theorem sN_plus (f g : Nat → Nat) (n : Nat) : sN (fun i => f i + g i) n = sN f n + sN g n := by
  induction n with
  | zero => rfl
  | succ n ih =>
    show sN (fun i => f i + g i) n + (f n + g n) = (sN f n + f n) + (sN g n + g n)
    omega
theorem sN_congr {f g : Nat → Nat} {n : Nat} (h : ∀ i, i < n → f i = g i) : sN f n = sN g n := by
  induction n with
  | zero => rfl
  | succ n ih =>
    show sN f n + f n = sN g n + g n
    rw [ih (fun i hi => h i (by omega)), h n (by omega)]
theorem sN_le {f : Nat → Nat} {n M : Nat} (h : ∀ i, i < n → f i ≤ M) : sN f n ≤ n * M := by
  induction n with
  | zero => exact Nat.zero_le _
  | succ n ih =>
    have h1 := ih (fun i hi => h i (by omega))
    have h2 := h n (by omega)
    show sN f n + f n ≤ (n + 1) * M
    rw [Nat.succ_mul]
    omega
/-- the cells left of x and above y -/
def psm (f : Nat → Nat → Nat) (x y : Nat) : Nat := sN (fun j => sN (fun i => f i j) x) y
/-- the cells of a board -/
def rcs (f : Nat → Nat → Nat) (x y ax ay : Nat) : Nat := sN (fun j => sN (fun i => f (x + i) (y + j)) ax) ay
theorem psm_x0 (f : Nat → Nat → Nat) (y : Nat) : psm f 0 y = 0 := by
  unfold psm
  induction y with
  | zero => rfl
  | succ y ih =>
    show sN (fun j => sN (fun i => f i j) 0) y + 0 = 0
    omega
theorem psm_y0 (f : Nat → Nat → Nat) (x : Nat) : psm f x 0 = 0 := rfl
theorem psm_y1 (f : Nat → Nat → Nat) (x y : Nat) : psm f x (y + 1) = psm f x y + sN (fun i => f i y) x := rfl
theorem rcs_psm (f : Nat → Nat → Nat) (x y ax ay : Nat) : rcs f x y ax ay + psm f x (y + ay) + psm f (x + ax) y = psm f (x + ax) (y + ay) + psm f x y := by
  unfold rcs psm
  rw [sN_split (fun j => sN (fun i => f i j) x) y ay, sN_split (fun j => sN (fun i => f i j) (x + ax)) y ay]
  have e : sN (fun j => sN (fun i => f i (y + j)) (x + ax)) ay = sN (fun j => sN (fun i => f i (y + j)) x) ay + sN (fun j => sN (fun i => f (x + i) (y + j)) ax) ay := by
    rw [← sN_plus]
    exact sN_congr (fun j _ => sN_split (fun i => f i (y + j)) x ax)
  rw [e]
  omega
theorem psm_le {f : Nat → Nat → Nat} {x y M : Nat} (h : ∀ i j, i < x → j < y → f i j ≤ M) : psm f x y ≤ y * (x * M) := sN_le (fun j hj => sN_le (fun i hi => h i j hi hj))
theorem rcs_le {f : Nat → Nat → Nat} {x y ax ay M : Nat} (h : ∀ i j, i < ax → j < ay → f (x + i) (y + j) ≤ M) : rcs f x y ax ay ≤ ay * (ax * M) := sN_le (fun j hj => sN_le (fun i hi => h i j hi hj))
/-- the sum over a board's cells, -1 if not all of it is on the grid -/
def sumZ (f : Nat → Nat → Nat) (side : Nat) (x y : Int) (ax ay : Nat) : Int := if 0 ≤ x ∧ 0 ≤ y ∧ x + (ax : Int) ≤ (side : Int) ∧ y + (ay : Int) ≤ (side : Int) then (rcs f x.toNat y.toNat ax ay : Int) else -1
theorem sumZ_no {f : Nat → Nat → Nat} {side : Nat} {x y : Int} {ax ay : Nat} (h : ¬ (0 ≤ x ∧ 0 ≤ y ∧ x + (ax : Int) ≤ (side : Int) ∧ y + (ay : Int) ≤ (side : Int))) : sumZ f side x y ax ay = -1 := if_neg h
theorem sumZ_in {f : Nat → Nat → Nat} {side X Y ax ay : Nat} {x y : Int} (hx : x = (X : Int)) (hy : y = (Y : Int)) (h1 : X + ax ≤ side) (h2 : Y + ay ≤ side) : sumZ f side x y ax ay = (rcs f X Y ax ay : Int) := by
  subst hx; subst hy
  unfold sumZ
  rw [if_pos (by omega), Int.toNat_natCast, Int.toNat_natCast]
theorem sumZ_lo (f : Nat → Nat → Nat) (side : Nat) (x y : Int) (ax ay : Nat) : -1 ≤ sumZ f side x y ax ay := by
  unfold sumZ
  split <;> omega
theorem sumZ_hi {f : Nat → Nat → Nat} {side : Nat} (x y : Int) (ax ay : Nat) (hs : side ≤ 20) (hf : ∀ i j, i < side → j < side → f i j ≤ 10000) : sumZ f side x y ax ay ≤ 4000000 := by
  by_cases h : 0 ≤ x ∧ 0 ≤ y ∧ x + (ax : Int) ≤ (side : Int) ∧ y + (ay : Int) ≤ (side : Int)
  · obtain ⟨h1, h2, h3, h4⟩ := h
    obtain ⟨X, rfl⟩ := Int.eq_ofNat_of_zero_le h1
    obtain ⟨Y, rfl⟩ := Int.eq_ofNat_of_zero_le h2
    rw [sumZ_in rfl rfl (by omega) (by omega)]
    have k1 : rcs f X Y ax ay ≤ ay * (ax * 10000) := rcs_le (fun i j hi hj => hf _ _ (by omega) (by omega))
    have k2 : ay * (ax * 10000) ≤ 20 * (20 * 10000) := Nat.mul_le_mul (by omega) (Nat.mul_le_mul (by omega) (Nat.le_refl _))
    omega
  · rw [sumZ_no h]; omega
theorem idxC {X Y n : Nat} (hx : X ≤ n) (hy : Y ≤ n) : Y * (n + 1) + X < (n + 1) * (n + 1) := by
  have h : Y * (n + 1) ≤ n * (n + 1) := Nat.mul_le_mul hy (Nat.le_refl _)
  have e : (n + 1) * (n + 1) = n * (n + 1) + (n + 1) := Nat.succ_mul n (n + 1)
  omega
theorem idxS {X Y n : Nat} (hx : X < n) (hy : Y < n) : Y * n + X < n * n := by
  have h : (Y + 1) * n ≤ n * n := Nat.mul_le_mul (by omega) (Nat.le_refl _)
  have e : (Y + 1) * n = Y * n + n := Nat.succ_mul Y n
  omega
theorem sq20 {n : Nat} (h : n ≤ 20) : (n + 1) * (n + 1) ≤ 441 ∧ n * n ≤ 400 := by
  have h1 := Nat.mul_le_mul (show n + 1 ≤ 21 by omega) (show n + 1 ≤ 21 by omega)
  have h2 := Nat.mul_le_mul h h
  exact ⟨h1, h2⟩
theorem idxE {e X Y n : Nat} (he : e ≤ 1) (hx : X < n) (hy : Y < n) : e * n * n + Y * n + X < 2 * n * n := by
  have h := idxS hx hy
  have e2 : 2 * n * n = n * n + n * n := by rw [Nat.mul_assoc]; omega
  rcases (show e = 0 ∨ e = 1 by omega) with rfl | rfl
  · rw [Nat.zero_mul, Nat.zero_mul]; omega
  · rw [Nat.one_mul]; omega
theorem sq2 {n : Nat} (h : n ≤ 20) : 2 * n * n ≤ 800 := by
  have h2 := Nat.mul_le_mul (Nat.mul_le_mul (Nat.le_refl 2) h) h
  exact h2
/-- 0 for wood, 1 for a cell that isn't -/
noncomputable def bareN (P : Prop) : Nat := @ite Nat P (Classical.propDecidable P) 0 1
theorem bareN_t {P : Prop} (h : P) : bareN P = 0 := by unfold bareN; exact if_pos h
theorem bareN_f {P : Prop} (h : ¬ P) : bareN P = 1 := by unfold bareN; exact if_neg h
theorem bareN_le (P : Prop) : bareN P ≤ 1 := by
  rcases Classical.em P with h | h
  · rw [bareN_t h]; omega
  · rw [bareN_f h]; omega
/-- a row's sums into the corners below it, column by column -/
def rowUp (side y : Nat) (g : Nat → Nat) (F : Nat → Nat) : Nat → Nat → Nat
  | 0 => F
  | t + 1 => va_up (rowUp side y g F t) (y * (side + 1) + t + 1 + side + 1) (rowUp side y g F t (y * (side + 1) + t + 1) + sN g (t + 1))
theorem corner_eq (side y t : Nat) : y * (side + 1) + t + 1 + side + 1 = (y + 1) * (side + 1) + (t + 1) := by
  rw [Nat.succ_mul]; omega
theorem row_apart {n X Y X' Y' : Nat} (h : X ≤ n) (h' : X' ≤ n) (e : Y * (n + 1) + X = Y' * (n + 1) + X') : Y = Y' ∧ X = X' := by
  have a : (Y * (n + 1) + X) / (n + 1) = Y := by rw [Nat.mul_comm, Nat.mul_add_div (by omega), Nat.div_eq_of_lt (by omega)]; rfl
  have b : (Y' * (n + 1) + X') / (n + 1) = Y' := by rw [Nat.mul_comm, Nat.mul_add_div (by omega), Nat.div_eq_of_lt (by omega)]; rfl
  have c : Y = Y' := by rw [← a, ← b, e]
  subst c
  exact ⟨rfl, by omega⟩
theorem rowUp_at {side y : Nat} {g F : Nat → Nat} : ∀ (t : Nat), t ≤ side → ∀ X Y, X ≤ side → rowUp side y g F t (Y * (side + 1) + X) = if Y = y + 1 ∧ 1 ≤ X ∧ X ≤ t then F (y * (side + 1) + X) + sN g X else F (Y * (side + 1) + X) := by
  intro t
  induction t with
  | zero => intro _ X Y _; rw [if_neg (by omega)]; rfl
  | succ t ih =>
    intro ht X Y hX
    show va_up (rowUp side y g F t) (y * (side + 1) + t + 1 + side + 1) _ _ = _
    by_cases h : Y = y + 1 ∧ X = t + 1
    · obtain ⟨rfl, rfl⟩ := h
      rw [corner_eq, va_up_self, if_pos (by omega)]
      have e := ih (by omega) (t + 1) y (by omega)
      rw [if_neg (by omega)] at e
      rw [← Nat.add_assoc] at e
      rw [e, Nat.add_assoc]
    · rw [va_up_ne _ _ (fun q => h (by
        rw [corner_eq] at q
        exact row_apart hX (by omega) q)), ih (by omega) X Y hX]
      by_cases h2 : Y = y + 1 ∧ 1 ≤ X ∧ X ≤ t
      · rw [if_pos h2, if_pos (by omega)]
      · rw [if_neg h2, if_neg (by omega)]
/-- all rows, one after the other -/
def allUp (side : Nat) (g : Nat → Nat → Nat) (F : Nat → Nat) : Nat → Nat → Nat
  | 0 => F
  | y + 1 => rowUp side y (fun i => g i y) (allUp side g F y) side
theorem allUp_at {side : Nat} {g : Nat → Nat → Nat} {F : Nat → Nat} (h0 : ∀ X, X ≤ side → F X = 0) (h1 : ∀ Y, Y ≤ side → F (Y * (side + 1)) = 0) : ∀ (n : Nat), n ≤ side → ∀ X Y, X ≤ side → (Y ≤ n → allUp side g F n (Y * (side + 1) + X) = psm g X Y) ∧ (n < Y → allUp side g F n (Y * (side + 1) + X) = F (Y * (side + 1) + X)) := by
  intro n
  induction n with
  | zero =>
    intro _ X Y hX
    refine ⟨fun h => ?_, fun _ => rfl⟩
    have e : Y = 0 := by omega
    subst e
    rw [Nat.zero_mul, Nat.zero_add, psm_y0]
    exact h0 X hX
  | succ n ih =>
    intro hn X Y hX
    have e : allUp side g F (n + 1) (Y * (side + 1) + X) = if Y = n + 1 ∧ 1 ≤ X ∧ X ≤ side then allUp side g F n (n * (side + 1) + X) + sN (fun i => g i n) X else allUp side g F n (Y * (side + 1) + X) := rowUp_at side (Nat.le_refl _) X Y hX
    refine ⟨fun h => ?_, fun h => ?_⟩
    · rw [e]
      by_cases hY : Y = n + 1
      · subst hY
        by_cases hX0 : 1 ≤ X
        · rw [if_pos (by omega), (ih (by omega) X n hX).1 (Nat.le_refl _), psm_y1]
        · have ex : X = 0 := by omega
          subst ex
          rw [if_neg (by omega), (ih (by omega) 0 (n + 1) hX).2 (by omega), psm_x0, Nat.add_zero]
          exact h1 _ hn
      · rw [if_neg (by omega)]
        exact (ih (by omega) X Y hX).1 (by omega)
    · rw [e, if_neg (by omega)]
      exact (ih (by omega) X Y hX).2 (by omega)
