theorem slabT_at {side kf thick : Nat} {th wi : Nat → Nat} {ok : Nat → Nat → Prop} {va : Nat → Nat → Int} {cn : Nat} {RC SC : Nat → Int} (hw : ∀ i, i < cn → 1 ≤ wi i) : ∀ (d : Nat), d ≤ side → ∀ c, side - d ≤ c → c < side → ((slabT side kf thick th wi ok va cn RC SC d).1 c, (slabT side kf thick th wi ok va cn RC SC d).2 c) = colFold (slabT side kf thick th wi ok va cn RC SC d).1 side kf c thick th wi (ok c) (va c) cn := by
  intro d
  induction d with
  | zero => intro _ c h1 h2; omega
  | succ d ih =>
    intro hd c h1 h2
    have kp : ∀ j, c < j → j ≤ side → (slabT side kf thick th wi ok va cn RC SC (d + 1)).1 j = (slabT side kf thick th wi ok va cn RC SC d).1 j := fun j h3 h4 => va_up_ne _ _ (by omega)
    rw [colFold_congr h2 kp cn hw]
    by_cases e : c = side - 1 - d
    · subst e
      rw [show (slabT side kf thick th wi ok va cn RC SC (d + 1)).1 (side - 1 - d) = (colFold (slabT side kf thick th wi ok va cn RC SC d).1 side kf (side - 1 - d) thick th wi (ok (side - 1 - d)) (va (side - 1 - d)) cn).1 from va_up_self _ _ _,
        show (slabT side kf thick th wi ok va cn RC SC (d + 1)).2 (side - 1 - d) = (colFold (slabT side kf thick th wi ok va cn RC SC d).1 side kf (side - 1 - d) thick th wi (ok (side - 1 - d)) (va (side - 1 - d)) cn).2 from va_up_self _ _ _]
    · rw [show (slabT side kf thick th wi ok va cn RC SC (d + 1)).1 c = (slabT side kf thick th wi ok va cn RC SC d).1 c from va_up_ne _ _ e, show (slabT side kf thick th wi ok va cn RC SC (d + 1)).2 c = (slabT side kf thick th wi ok va cn RC SC d).2 c from va_up_ne _ _ e]
      exact ih (by omega) c (by omega) h2
theorem slab0_at {side kf thick : Nat} {th wi : Nat → Nat} {ok : Nat → Nat → Prop} {va : Nat → Nat → Int} {cn : Nat} (hw : ∀ i, i < cn → 1 ≤ wi i) {c : Nat} (hc : c < side) : ((slab0 side kf thick th wi ok va cn).1 c, (slab0 side kf thick th wi ok va cn).2 c) = colFold (slab0 side kf thick th wi ok va cn).1 side kf c thick th wi (ok c) (va c) cn := slabT_at hw side (Nat.le_refl _) c (by omega) hc
/-- the first of the best, or none -/
theorem colFold_first {RC : Nat → Int} {side kf col thick : Nat} {th wi : Nat → Nat} {ok : Nat → Prop} {va : Nat → Int} : ∀ (k : Nat),
    ((colFold RC side kf col thick th wi ok va k).2 = -1 ∧ ∀ i, i < k → (th i = thick ∧ ok i) → rkC RC side kf col wi va i < (colFold RC side kf col thick th wi ok va k).1) ∨
    (∃ i0, i0 < k ∧ (colFold RC side kf col thick th wi ok va k).2 = (i0 : Int) ∧ (th i0 = thick ∧ ok i0) ∧ rkC RC side kf col wi va i0 = (colFold RC side kf col thick th wi ok va k).1 ∧ (∀ i, i < i0 → (th i = thick ∧ ok i) → rkC RC side kf col wi va i < (colFold RC side kf col thick th wi ok va k).1) ∧ ∀ i, i < k → (th i = thick ∧ ok i) → rkC RC side kf col wi va i ≤ (colFold RC side kf col thick th wi ok va k).1) := by
  intro k
  induction k with
  | zero => exact Or.inl ⟨rfl, fun i hi => absurd hi (Nat.not_lt_zero i)⟩
  | succ k ih =>
    have e : colFold RC side kf col thick th wi ok va (k + 1) = colStep RC side kf col thick th wi ok va k (colFold RC side kf col thick th wi ok va k) := rfl
    rw [e]
    generalize colFold RC side kf col thick th wi ok va k = b at ih ⊢
    unfold colStep
    by_cases c : (th k = thick ∧ ok k) ∧ (b.1 < rkC RC side kf col wi va k ∨ (rkC RC side kf col wi va k = b.1 ∧ b.2 = -1))
    · rw [cif_t c]
      obtain ⟨c0, c1⟩ := c
      refine Or.inr ⟨k, by omega, rfl, c0, rfl, fun i hi hq => ?_, fun i hi hq => ?_⟩
      · show rkC RC side kf col wi va i < rkC RC side kf col wi va k
        rcases ih with ⟨i1, i2⟩ | ⟨i0, j1, j2, j3, j4, j5, j6⟩
        · have h9 := i2 i hi hq
          omega
        · have h9 := j6 i hi hq
          omega
      · show rkC RC side kf col wi va i ≤ rkC RC side kf col wi va k
        by_cases q : i = k
        · subst q; exact Int.le_refl _
        · rcases ih with ⟨i1, i2⟩ | ⟨i0, j1, j2, j3, j4, j5, j6⟩
          · have h9 := i2 i (by omega) hq
            omega
          · have h9 := j6 i (by omega) hq
            omega
    · rw [cif_f c]
      rcases ih with ⟨i1, i2⟩ | ⟨i0, j1, j2, j3, j4, j5, j6⟩
      · refine Or.inl ⟨i1, fun i hi hq => ?_⟩
        by_cases q : i = k
        · subst q
          rcases Int.lt_trichotomy (rkC RC side kf col wi va i) b.1 with h | h | h
          · exact h
          · exact absurd ⟨hq, Or.inr ⟨h, i1⟩⟩ c
          · exact absurd ⟨hq, Or.inl h⟩ c
        · exact i2 i (by omega) hq
      · refine Or.inr ⟨i0, by omega, j2, j3, j4, j5, fun i hi hq => ?_⟩
        by_cases q : i = k
        · subst q
          rcases Int.lt_trichotomy (rkC RC side kf col wi va i) b.1 with h | h | h
          · exact Int.le_of_lt h
          · exact Int.le_of_eq h
          · exact absurd ⟨hq, Or.inl h⟩ c
        · exact j6 i (by omega) hq
theorem slabLay_wait {kf cn tn row : Nat} {th wi : Nat → Nat} {va : Nat → Nat → Int} {SC : Nat → Int} {s0 : PSt} {k0 : Nat} : ∀ (m : Nat), k0 + m ≤ (slabLay kf cn tn row th wi va SC s0 k0).1 → slabLay kf cn tn row th wi va SC s0 (k0 + m) = slabLay kf cn tn row th wi va SC s0 k0 := by
  intro m
  induction m with
  | zero => intro _; rfl
  | succ m ih =>
    intro h
    show layStep kf cn tn row th wi va SC (k0 + m) (slabLay kf cn tn row th wi va SC s0 (k0 + m)) = _
    rw [ih (by omega)]
    unfold layStep
    exact if_neg (fun q => by omega)
theorem planT_at {side kf : Nat} {sb : Nat → Nat → Int} {RR : Nat → Int} {TR : Nat → Nat} : ∀ (d : Nat), d ≤ side → ∀ r, side - d ≤ r → r < side → ((planT side kf sb RR TR d).1 r, (planT side kf sb RR TR d).2 r) = rowFold (planT side kf sb RR TR d).1 side kf r (sb r) (side - r) := by
  intro d
  induction d with
  | zero => intro _ r h1 h2; omega
  | succ d ih =>
    intro hd r h1 h2
    have kp : ∀ j, r < j → j ≤ side → (planT side kf sb RR TR (d + 1)).1 j = (planT side kf sb RR TR d).1 j := fun j h3 h4 => va_up_ne _ _ (by omega)
    rw [rowFold_congr h2 kp (side - r) (Nat.le_refl _)]
    by_cases e : r = side - 1 - d
    · subst e
      rw [show (planT side kf sb RR TR (d + 1)).1 (side - 1 - d) = (rowFold (planT side kf sb RR TR d).1 side kf (side - 1 - d) (sb (side - 1 - d)) (side - (side - 1 - d))).1 from va_up_self _ _ _,
        show (planT side kf sb RR TR (d + 1)).2 (side - 1 - d) = (rowFold (planT side kf sb RR TR d).1 side kf (side - 1 - d) (sb (side - 1 - d)) (side - (side - 1 - d))).2 from va_up_self _ _ _]
    · rw [show (planT side kf sb RR TR (d + 1)).1 r = (planT side kf sb RR TR d).1 r from va_up_ne _ _ e, show (planT side kf sb RR TR (d + 1)).2 r = (planT side kf sb RR TR d).2 r from va_up_ne _ _ e]
      exact ih (by omega) r (by omega) h2
/-- the first thickness of the best, or none -/
theorem rowFold_first {RR : Nat → Int} {side kf row : Nat} {sb : Nat → Int} : ∀ (k : Nat),
    ((rowFold RR side kf row sb k).2 = 0 ∧ ∀ i, 1 ≤ i → i ≤ k → 0 < sb i → sb i + RR (min side (row + i + kf)) < (rowFold RR side kf row sb k).1) ∨
    (∃ i0, 1 ≤ i0 ∧ i0 ≤ k ∧ (rowFold RR side kf row sb k).2 = i0 ∧ 0 < sb i0 ∧ sb i0 + RR (min side (row + i0 + kf)) = (rowFold RR side kf row sb k).1 ∧ (∀ i, 1 ≤ i → i < i0 → 0 < sb i → sb i + RR (min side (row + i + kf)) < (rowFold RR side kf row sb k).1) ∧ ∀ i, 1 ≤ i → i ≤ k → 0 < sb i → sb i + RR (min side (row + i + kf)) ≤ (rowFold RR side kf row sb k).1) := by
  intro k
  induction k with
  | zero => exact Or.inl ⟨rfl, fun i h1 h2 => by omega⟩
  | succ k ih =>
    have e : rowFold RR side kf row sb (k + 1) = rowStep RR side kf row sb (k + 1) (rowFold RR side kf row sb k) := rfl
    rw [e]
    generalize rowFold RR side kf row sb k = b at ih ⊢
    unfold rowStep
    by_cases c : 0 < sb (k + 1) ∧ (b.1 < sb (k + 1) + RR (min side (row + (k + 1) + kf)) ∨ (sb (k + 1) + RR (min side (row + (k + 1) + kf)) = b.1 ∧ b.2 = 0))
    · rw [cif_t c]
      obtain ⟨c0, c1⟩ := c
      refine Or.inr ⟨k + 1, by omega, Nat.le_refl _, rfl, c0, rfl, fun i h1 hi hq => ?_, fun i h1 hi hq => ?_⟩
      · show sb i + RR (min side (row + i + kf)) < sb (k + 1) + RR (min side (row + (k + 1) + kf))
        rcases ih with ⟨i1, i2⟩ | ⟨i0, j0, j1, j2, j3, j4, j5, j6⟩
        · have h9 := i2 i h1 (by omega) hq
          omega
        · have h9 := j6 i h1 (by omega) hq
          omega
      · show sb i + RR (min side (row + i + kf)) ≤ sb (k + 1) + RR (min side (row + (k + 1) + kf))
        by_cases q : i = k + 1
        · subst q; exact Int.le_refl _
        · rcases ih with ⟨i1, i2⟩ | ⟨i0, j0, j1, j2, j3, j4, j5, j6⟩
          · have h9 := i2 i h1 (by omega) hq
            omega
          · have h9 := j6 i h1 (by omega) hq
            omega
    · rw [cif_f c]
      rcases ih with ⟨i1, i2⟩ | ⟨i0, j0, j1, j2, j3, j4, j5, j6⟩
      · refine Or.inl ⟨i1, fun i h1 hi hq => ?_⟩
        by_cases q : i = k + 1
        · subst q
          rcases Int.lt_trichotomy (sb (k + 1) + RR (min side (row + (k + 1) + kf))) b.1 with h | h | h
          · exact h
          · exact absurd ⟨hq, Or.inr ⟨h, i1⟩⟩ c
          · exact absurd ⟨hq, Or.inl h⟩ c
        · exact i2 i h1 (by omega) hq
      · refine Or.inr ⟨i0, j0, by omega, j2, j3, j4, j5, fun i h1 hi hq => ?_⟩
        by_cases q : i = k + 1
        · subst q
          rcases Int.lt_trichotomy (sb (k + 1) + RR (min side (row + (k + 1) + kf))) b.1 with h | h | h
          · exact Int.le_of_lt h
          · exact Int.le_of_eq h
          · exact absurd ⟨hq, Or.inl h⟩ c
        · exact j6 i h1 (by omega) hq
theorem layAll_wait {side kf cn tn : Nat} {th wi wo wn : Nat → Nat} {fb fl : Nat → Nat → Nat} {TR : Nat → Nat} {s0 : PSt} {k0 : Nat} : ∀ (m : Nat), k0 + m ≤ (layAll side kf cn tn th wi wo wn fb fl TR s0 k0).1 → layAll side kf cn tn th wi wo wn fb fl TR s0 (k0 + m) = layAll side kf cn tn th wi wo wn fb fl TR s0 k0 := by
  intro m
  induction m with
  | zero => intro _; rfl
  | succ m ih =>
    intro h
    show allStep side kf cn tn th wi wo wn fb fl TR (k0 + m) (layAll side kf cn tn th wi wo wn fb fl TR s0 (k0 + m)) = _
    rw [ih (by omega)]
    unfold allStep
    exact if_neg (fun q => by omega)
