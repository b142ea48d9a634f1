/-! the tables of a turn, as the class fills them -/
noncomputable def cif {α : Type} (P : Prop) (a b : α) : α := @ite α P (Classical.propDecidable P) a b
theorem cif_t {α : Type} {P : Prop} {a b : α} (h : P) : cif P a b = a := by unfold cif; exact if_pos h
theorem cif_f {α : Type} {P : Prop} {a b : α} (h : ¬ P) : cif P a b = b := by unfold cif; exact if_neg h
def pX (tn row col : Nat) : Nat := if tn = 0 then col else row
def pY (tn row col : Nat) : Nat := if tn = 0 then row else col
theorem pX_le {tn row col n : Nat} (h1 : row ≤ n) (h2 : col ≤ n) : pX tn row col ≤ n := by unfold pX; split <;> omega
theorem pY_le {tn row col n : Nat} (h1 : row ≤ n) (h2 : col ≤ n) : pY tn row col ≤ n := by unfold pY; split <;> omega
/-- a board of a size may begin there -/
def okC (side : Nat) (fb : Nat → Nat → Nat) (th wi wn : Nat → Nat) (tn row col i : Nat) : Prop :=
  0 ≤ sumZ fb side ((pX tn row col : Nat) : Int) ((pY tn row col : Nat) : Int) (if ((tn : Nat) : Int) = 0 then wi i else th i) (if ((tn : Nat) : Int) = 0 then th i else wi i) ∧ sumZ fb side ((pX tn row col : Nat) : Int) ((pY tn row col : Nat) : Int) (if ((tn : Nat) : Int) = 0 then wi i else th i) (if ((tn : Nat) : Int) = 0 then th i else wi i) ≤ (wn i : Int)
/-- what it is worth -/
def vaC (side : Nat) (fl : Nat → Nat → Nat) (th wi wo : Nat → Nat) (tn row col i : Nat) : Int :=
  max 0 ((wo i : Int) - sumZ fl side ((pX tn row col : Nat) : Int) ((pY tn row col : Nat) : Int) (if ((tn : Nat) : Int) = 0 then wi i else th i) (if ((tn : Nat) : Int) = 0 then th i else wi i))
theorem vaC_bd {side : Nat} {fl : Nat → Nat → Nat} {th wi wo : Nat → Nat} {tn row col i : Nat} (h : wo i ≤ 100000) : 0 ≤ vaC side fl th wi wo tn row col i ∧ vaC side fl th wi wo tn row col i ≤ 100001 := by
  unfold vaC
  have k := sumZ_lo fl side ((pX tn row col : Nat) : Int) ((pY tn row col : Nat) : Int) (if ((tn : Nat) : Int) = 0 then wi i else th i) (if ((tn : Nat) : Int) = 0 then th i else wi i)
  omega
/-- the rank with a board of size i at a column -/
def rkC (RC : Nat → Int) (side kf col : Nat) (wi : Nat → Nat) (va : Nat → Int) (i : Nat) : Int := va i * 1000 - 1 + RC (min side (col + wi i + kf))
noncomputable def colStep (RC : Nat → Int) (side kf col thick : Nat) (th wi : Nat → Nat) (ok : Nat → Prop) (va : Nat → Int) (i : Nat) (b : Int × Int) : Int × Int :=
  cif ((th i = thick ∧ ok i) ∧ (b.1 < rkC RC side kf col wi va i ∨ (rkC RC side kf col wi va i = b.1 ∧ b.2 = -1))) (rkC RC side kf col wi va i, (i : Int)) b
noncomputable def colFold (RC : Nat → Int) (side kf col thick : Nat) (th wi : Nat → Nat) (ok : Nat → Prop) (va : Nat → Int) : Nat → Int × Int
  | 0 => (RC (col + 1), -1)
  | i + 1 => colStep RC side kf col thick th wi ok va i (colFold RC side kf col thick th wi ok va i)
/-- bounds -/
theorem colFold_bd {RC : Nat → Int} {side kf col thick : Nat} {th wi : Nat → Nat} {ok : Nat → Prop} {va : Nat → Int} (hc : col < side) (hR : ∀ j, col < j → j ≤ side → 0 ≤ RC j ∧ RC j ≤ 100001000 * ((side - j : Nat) : Int)) : ∀ (k : Nat), (∀ i, i < k → 1 ≤ wi i ∧ 0 ≤ va i ∧ va i ≤ 100001) →
    0 ≤ (colFold RC side kf col thick th wi ok va k).1 ∧ (colFold RC side kf col thick th wi ok va k).1 ≤ 100001000 * ((side - col : Nat) : Int) ∧ -1 ≤ (colFold RC side kf col thick th wi ok va k).2 ∧ (colFold RC side kf col thick th wi ok va k).2 < (k : Int) := by
  intro k
  induction k with
  | zero =>
    intro _
    have h := hR (col + 1) (by omega) (by omega)
    show 0 ≤ RC (col + 1) ∧ RC (col + 1) ≤ 100001000 * ((side - col : Nat) : Int) ∧ (-1 : Int) ≤ -1 ∧ (-1 : Int) < ((0 : Nat) : Int)
    omega
  | succ k ih =>
    intro hv
    obtain ⟨i1, i2, i3, i4⟩ := ih (fun i hi => hv i (by omega))
    obtain ⟨v1, v2, v3⟩ := hv k (by omega)
    have hr := hR (min side (col + wi k + kf)) (by omega) (by omega)
    show 0 ≤ (colStep RC side kf col thick th wi ok va k _).1 ∧ (colStep RC side kf col thick th wi ok va k _).1 ≤ _ ∧ -1 ≤ (colStep RC side kf col thick th wi ok va k _).2 ∧ (colStep RC side kf col thick th wi ok va k _).2 < _
    unfold colStep
    by_cases q : (th k = thick ∧ ok k) ∧ ((colFold RC side kf col thick th wi ok va k).1 < rkC RC side kf col wi va k ∨ (rkC RC side kf col wi va k = (colFold RC side kf col thick th wi ok va k).1 ∧ (colFold RC side kf col thick th wi ok va k).2 = -1))
    · rw [cif_t q]
      have e : rkC RC side kf col wi va k = va k * 1000 - 1 + RC (min side (col + wi k + kf)) := rfl
      obtain ⟨-, q⟩ := q
      dsimp only
      omega
    · rw [cif_f q]
      omega
theorem rkC_bd {RC : Nat → Int} {side kf col : Nat} {wi : Nat → Nat} {va : Nat → Int} {i : Nat} (hc : col < side) (hs : side ≤ 20) (hR : ∀ j, col < j → j ≤ side → 0 ≤ RC j ∧ RC j ≤ 100001000 * ((side - j : Nat) : Int)) (h : 1 ≤ wi i ∧ 0 ≤ va i ∧ va i ≤ 100001) : -1 ≤ rkC RC side kf col wi va i ∧ rkC RC side kf col wi va i ≤ 100001000 * 20 := by
  have hr := hR (min side (col + wi i + kf)) (by omega) (by omega)
  unfold rkC
  omega
theorem cmpI_b (a b : Int) : (iI (cmpI a b)).toInt = cmpI a b := by
  refine iI_t ?_ ?_ <;> unfold cmpI <;> split <;> first | omega | (split <;> omega)
