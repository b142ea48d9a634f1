theorem d_Be_planRow_0 : decode b_Be_planRow 0 = .ok (.aload_n 0, 1) := by decide +kernel
theorem d_Be_planRow_1 : decode b_Be_planRow 1 = .ok (.getfield 29, 3) := by decide +kernel
theorem d_Be_planRow_4 : decode b_Be_planRow 4 = .ok (.iload_n 1, 1) := by decide +kernel
theorem d_Be_planRow_5 : decode b_Be_planRow 5 = .ok (.iconst 1, 1) := by decide +kernel
theorem d_Be_planRow_6 : decode b_Be_planRow 6 = .ok (.iadd, 1) := by decide +kernel
theorem d_Be_planRow_7 : decode b_Be_planRow 7 = .ok (.laload, 1) := by decide +kernel
theorem d_Be_planRow_8 : decode b_Be_planRow 8 = .ok (.lstore_n 2, 1) := by decide +kernel
theorem d_Be_planRow_9 : decode b_Be_planRow 9 = .ok (.iconst 0, 1) := by decide +kernel
theorem d_Be_planRow_10 : decode b_Be_planRow 10 = .ok (.istore 4, 2) := by decide +kernel
theorem d_Be_planRow_12 : decode b_Be_planRow 12 = .ok (.iconst 1, 1) := by decide +kernel
theorem d_Be_planRow_13 : decode b_Be_planRow 13 = .ok (.istore 5, 2) := by decide +kernel
theorem d_Be_planRow_15 : decode b_Be_planRow 15 = .ok (.iload 5, 2) := by decide +kernel
theorem d_Be_planRow_17 : decode b_Be_planRow 17 = .ok (.aload_n 0, 1) := by decide +kernel
theorem d_Be_planRow_18 : decode b_Be_planRow 18 = .ok (.getfield 22, 3) := by decide +kernel
theorem d_Be_planRow_21 : decode b_Be_planRow 21 = .ok (.iload_n 1, 1) := by decide +kernel
theorem d_Be_planRow_22 : decode b_Be_planRow 22 = .ok (.isub, 1) := by decide +kernel
theorem d_Be_planRow_23 : decode b_Be_planRow 23 = .ok (.if_icmp .gt 93, 3) := by decide +kernel
theorem d_Be_planRow_26 : decode b_Be_planRow 26 = .ok (.aload_n 0, 1) := by decide +kernel
theorem d_Be_planRow_27 : decode b_Be_planRow 27 = .ok (.getfield 21, 3) := by decide +kernel
theorem d_Be_planRow_30 : decode b_Be_planRow 30 = .ok (.iload 5, 2) := by decide +kernel
theorem d_Be_planRow_32 : decode b_Be_planRow 32 = .ok (.invokevirtual 52, 3) := by decide +kernel
theorem d_Be_planRow_35 : decode b_Be_planRow 35 = .ok (.ifCond .eq 13, 3) := by decide +kernel
theorem d_Be_planRow_38 : decode b_Be_planRow 38 = .ok (.aload_n 0, 1) := by decide +kernel
theorem d_Be_planRow_39 : decode b_Be_planRow 39 = .ok (.iload_n 1, 1) := by decide +kernel
theorem d_Be_planRow_40 : decode b_Be_planRow 40 = .ok (.iload 5, 2) := by decide +kernel
theorem d_Be_planRow_42 : decode b_Be_planRow 42 = .ok (.invokevirtual 58, 3) := by decide +kernel
theorem d_Be_planRow_45 : decode b_Be_planRow 45 = .ok (.goto 4, 3) := by decide +kernel
theorem d_Be_planRow_48 : decode b_Be_planRow 48 = .ok (.lconst 0, 1) := by decide +kernel
theorem d_Be_planRow_49 : decode b_Be_planRow 49 = .ok (.lstore 6, 2) := by decide +kernel
theorem d_Be_planRow_51 : decode b_Be_planRow 51 = .ok (.lload 6, 2) := by decide +kernel
theorem d_Be_planRow_53 : decode b_Be_planRow 53 = .ok (.aload_n 0, 1) := by decide +kernel
theorem d_Be_planRow_54 : decode b_Be_planRow 54 = .ok (.getfield 29, 3) := by decide +kernel
theorem d_Be_planRow_57 : decode b_Be_planRow 57 = .ok (.aload_n 0, 1) := by decide +kernel
theorem d_Be_planRow_58 : decode b_Be_planRow 58 = .ok (.getfield 22, 3) := by decide +kernel
theorem d_Be_planRow_61 : decode b_Be_planRow 61 = .ok (.iload_n 1, 1) := by decide +kernel
theorem d_Be_planRow_62 : decode b_Be_planRow 62 = .ok (.iload 5, 2) := by decide +kernel
theorem d_Be_planRow_64 : decode b_Be_planRow 64 = .ok (.iadd, 1) := by decide +kernel
theorem d_Be_planRow_65 : decode b_Be_planRow 65 = .ok (.aload_n 0, 1) := by decide +kernel
theorem d_Be_planRow_66 : decode b_Be_planRow 66 = .ok (.getfield 26, 3) := by decide +kernel
theorem d_Be_planRow_69 : decode b_Be_planRow 69 = .ok (.iadd, 1) := by decide +kernel
theorem d_Be_planRow_70 : decode b_Be_planRow 70 = .ok (.invokestatic 62, 3) := by decide +kernel
theorem d_Be_planRow_73 : decode b_Be_planRow 73 = .ok (.laload, 1) := by decide +kernel
theorem d_Be_planRow_74 : decode b_Be_planRow 74 = .ok (.ladd, 1) := by decide +kernel
theorem d_Be_planRow_75 : decode b_Be_planRow 75 = .ok (.lstore 8, 2) := by decide +kernel
theorem d_Be_planRow_77 : decode b_Be_planRow 77 = .ok (.lload 6, 2) := by decide +kernel
theorem d_Be_planRow_79 : decode b_Be_planRow 79 = .ok (.lconst 0, 1) := by decide +kernel
theorem d_Be_planRow_80 : decode b_Be_planRow 80 = .ok (.lcmp, 1) := by decide +kernel
theorem d_Be_planRow_81 : decode b_Be_planRow 81 = .ok (.ifCond .le 29, 3) := by decide +kernel
theorem d_Be_planRow_84 : decode b_Be_planRow 84 = .ok (.lload 8, 2) := by decide +kernel
theorem d_Be_planRow_86 : decode b_Be_planRow 86 = .ok (.lload_n 2, 1) := by decide +kernel
theorem d_Be_planRow_87 : decode b_Be_planRow 87 = .ok (.lcmp, 1) := by decide +kernel
theorem d_Be_planRow_88 : decode b_Be_planRow 88 = .ok (.ifCond .gt 15, 3) := by decide +kernel
theorem d_Be_planRow_91 : decode b_Be_planRow 91 = .ok (.lload 8, 2) := by decide +kernel
theorem d_Be_planRow_93 : decode b_Be_planRow 93 = .ok (.lload_n 2, 1) := by decide +kernel
theorem d_Be_planRow_94 : decode b_Be_planRow 94 = .ok (.lcmp, 1) := by decide +kernel
theorem d_Be_planRow_95 : decode b_Be_planRow 95 = .ok (.ifCond .ne 15, 3) := by decide +kernel
theorem d_Be_planRow_98 : decode b_Be_planRow 98 = .ok (.iload 4, 2) := by decide +kernel
theorem d_Be_planRow_100 : decode b_Be_planRow 100 = .ok (.ifCond .ne 10, 3) := by decide +kernel
theorem d_Be_planRow_103 : decode b_Be_planRow 103 = .ok (.lload 8, 2) := by decide +kernel
theorem d_Be_planRow_105 : decode b_Be_planRow 105 = .ok (.lstore_n 2, 1) := by decide +kernel
theorem d_Be_planRow_106 : decode b_Be_planRow 106 = .ok (.iload 5, 2) := by decide +kernel
theorem d_Be_planRow_108 : decode b_Be_planRow 108 = .ok (.istore 4, 2) := by decide +kernel
theorem d_Be_planRow_110 : decode b_Be_planRow 110 = .ok (.iinc 5 1, 3) := by decide +kernel
theorem d_Be_planRow_113 : decode b_Be_planRow 113 = .ok (.goto (-98), 3) := by decide +kernel
theorem d_Be_planRow_116 : decode b_Be_planRow 116 = .ok (.aload_n 0, 1) := by decide +kernel
theorem d_Be_planRow_117 : decode b_Be_planRow 117 = .ok (.getfield 29, 3) := by decide +kernel
theorem d_Be_planRow_120 : decode b_Be_planRow 120 = .ok (.iload_n 1, 1) := by decide +kernel
theorem d_Be_planRow_121 : decode b_Be_planRow 121 = .ok (.lload_n 2, 1) := by decide +kernel
theorem d_Be_planRow_122 : decode b_Be_planRow 122 = .ok (.lastore, 1) := by decide +kernel
theorem d_Be_planRow_123 : decode b_Be_planRow 123 = .ok (.aload_n 0, 1) := by decide +kernel
theorem d_Be_planRow_124 : decode b_Be_planRow 124 = .ok (.getfield 33, 3) := by decide +kernel
theorem d_Be_planRow_127 : decode b_Be_planRow 127 = .ok (.iload_n 1, 1) := by decide +kernel
theorem d_Be_planRow_128 : decode b_Be_planRow 128 = .ok (.iload 4, 2) := by decide +kernel
theorem d_Be_planRow_130 : decode b_Be_planRow 130 = .ok (.iastore, 1) := by decide +kernel
theorem d_Be_planRow_131 : decode b_Be_planRow 131 = .ok (.return_, 1) := by decide +kernel
theorem slab0_bd {side kf thick : Nat} {th wi : Nat → Nat} {ok : Nat → Nat → Prop} {va : Nat → Nat → Int} {cn : Nat} (hw : ∀ i, i < cn → 1 ≤ wi i) (hv : ∀ c i, i < cn → 0 ≤ va c i ∧ va c i ≤ 100001) (hs : side ≤ 20) : 0 ≤ (slab0 side kf thick th wi ok va cn).1 0 ∧ (slab0 side kf thick th wi ok va cn).1 0 ≤ 2000020000 := by
  have h := slabT_bd (kf := kf) (thick := thick) (th := th) (wi := wi) (ok := ok) (va := va) (cn := cn) (RC := fun _ => 0) (SC := fun _ => 0) (side := side) rfl hw hv side (Nat.le_refl _) 0 (by omega) (by omega)
  unfold slab0
  omega
/-- the rank of a slab of a thickness at a row: 0 if no size has it -/
noncomputable def sbR (side kf : Nat) (th wi : Nat → Nat) (ok : Nat → Nat → Prop) (va : Nat → Nat → Int) (cn thick : Nat) : Int := cif (∃ k, k < cn ∧ th k = thick) ((slab0 side kf thick th wi ok va cn).1 0) 0
theorem sbR_bd {side kf thick : Nat} {th wi : Nat → Nat} {ok : Nat → Nat → Prop} {va : Nat → Nat → Int} {cn : Nat} (hw : ∀ i, i < cn → 1 ≤ wi i) (hv : ∀ c i, i < cn → 0 ≤ va c i ∧ va c i ≤ 100001) (hs : side ≤ 20) : 0 ≤ sbR side kf th wi ok va cn thick ∧ sbR side kf th wi ok va cn thick ≤ 2000020000 := by
  unfold sbR
  by_cases h : ∃ k, k < cn ∧ th k = thick
  · rw [cif_t h]; exact slab0_bd hw hv hs
  · rw [cif_f h]; omega
noncomputable def rowStep (RR : Nat → Int) (side kf row : Nat) (sb : Nat → Int) (thick : Nat) (b : Int × Nat) : Int × Nat :=
  cif (0 < sb thick ∧ (b.1 < sb thick + RR (min side (row + thick + kf)) ∨ (sb thick + RR (min side (row + thick + kf)) = b.1 ∧ b.2 = 0))) (sb thick + RR (min side (row + thick + kf)), thick) b
noncomputable def rowFold (RR : Nat → Int) (side kf row : Nat) (sb : Nat → Int) : Nat → Int × Nat
  | 0 => (RR (row + 1), 0)
  | k + 1 => rowStep RR side kf row sb (k + 1) (rowFold RR side kf row sb k)
theorem rowFold_bd {RR : Nat → Int} {side kf row : Nat} {sb : Nat → Int} (hr : row < side) (hb : ∀ t, 0 ≤ sb t ∧ sb t ≤ 2000020000) (hR : ∀ j, row < j → j ≤ side → 0 ≤ RR j ∧ RR j ≤ 2000020000 * ((side - j : Nat) : Int)) : ∀ (k : Nat), k ≤ side - row → 0 ≤ (rowFold RR side kf row sb k).1 ∧ (rowFold RR side kf row sb k).1 ≤ 2000020000 * ((side - row : Nat) : Int) ∧ (rowFold RR side kf row sb k).2 ≤ k := by
  intro k
  induction k with
  | zero =>
    intro _
    have h := hR (row + 1) (by omega) (by omega)
    show 0 ≤ RR (row + 1) ∧ RR (row + 1) ≤ _ ∧ (0 : Nat) ≤ 0
    omega
  | succ k ih =>
    intro hk
    obtain ⟨i1, i2, i3⟩ := ih (by omega)
    have h := hR (min side (row + (k + 1) + kf)) (by omega) (by omega)
    have h9 := hb (k + 1)
    show 0 ≤ (rowStep RR side kf row sb (k + 1) _).1 ∧ (rowStep RR side kf row sb (k + 1) _).1 ≤ _ ∧ (rowStep RR side kf row sb (k + 1) _).2 ≤ _
    unfold rowStep
    by_cases q : 0 < sb (k + 1) ∧ ((rowFold RR side kf row sb k).1 < sb (k + 1) + RR (min side (row + (k + 1) + kf)) ∨ (sb (k + 1) + RR (min side (row + (k + 1) + kf)) = (rowFold RR side kf row sb k).1 ∧ (rowFold RR side kf row sb k).2 = 0))
    · rw [cif_t q]
      dsimp only
      omega
    · rw [cif_f q]
      omega
theorem rowFold_congr {RR RR' : Nat → Int} {side kf row : Nat} {sb : Nat → Int} (hr : row < side) (h : ∀ j, row < j → j ≤ side → RR j = RR' j) : ∀ (k : Nat), k ≤ side - row → rowFold RR side kf row sb k = rowFold RR' side kf row sb k := by
  intro k
  induction k with
  | zero => intro _; show (RR (row + 1), 0) = (RR' (row + 1), 0); rw [h _ (by omega) (by omega)]
  | succ k ih =>
    intro hk
    show rowStep RR side kf row sb (k + 1) _ = rowStep RR' side kf row sb (k + 1) _
    rw [ih (by omega)]
    unfold rowStep
    rw [h (min side (row + (k + 1) + kf)) (by omega) (by omega)]
/-- a turn's tables, d rows from the last one on -/
noncomputable def planT (side kf : Nat) (sb : Nat → Nat → Int) (RR : Nat → Int) (TR : Nat → Nat) : Nat → (Nat → Int) × (Nat → Nat)
  | 0 => (RR, TR)
  | d + 1 => (va_up (planT side kf sb RR TR d).1 (side - 1 - d) (rowFold (planT side kf sb RR TR d).1 side kf (side - 1 - d) (sb (side - 1 - d)) (side - (side - 1 - d))).1,
      va_up (planT side kf sb RR TR d).2 (side - 1 - d) (rowFold (planT side kf sb RR TR d).1 side kf (side - 1 - d) (sb (side - 1 - d)) (side - (side - 1 - d))).2)
theorem planT_bd {side kf : Nat} {sb : Nat → Nat → Int} {RR : Nat → Int} {TR : Nat → Nat} (h0 : RR side = 0) (hb : ∀ r t, 0 ≤ sb r t ∧ sb r t ≤ 2000020000) : ∀ (d : Nat), d ≤ side → (∀ j, side - d ≤ j → j ≤ side → 0 ≤ (planT side kf sb RR TR d).1 j ∧ (planT side kf sb RR TR d).1 j ≤ 2000020000 * ((side - j : Nat) : Int)) ∧ ∀ j, side - d ≤ j → j < side → (planT side kf sb RR TR d).2 j ≤ side - j := by
  intro d
  induction d with
  | zero =>
    intro _
    refine ⟨fun j h1 h2 => ?_, fun j h1 h2 => absurd h2 (by omega)⟩
    have e : j = side := by omega
    subst e
    show 0 ≤ RR j ∧ RR j ≤ _
    rw [h0]
    omega
  | succ d ih =>
    intro hd
    obtain ⟨i1, i2⟩ := ih (by omega)
    have k := rowFold_bd (kf := kf) (show side - 1 - d < side by omega) (hb (side - 1 - d)) (fun j h3 h4 => i1 j (by omega) h4) (side - (side - 1 - d)) (Nat.le_refl _)
    refine ⟨fun j h1 h2 => ?_, fun j h1 h2 => ?_⟩
    · show 0 ≤ va_up _ (side - 1 - d) _ j ∧ va_up _ (side - 1 - d) _ j ≤ _
      by_cases e : j = side - 1 - d
      · rw [e, va_up_self]; exact ⟨k.1, k.2.1⟩
      · rw [va_up_ne _ _ e]; exact i1 j (by omega) h2
    · show va_up _ (side - 1 - d) _ j ≤ _
      by_cases e : j = side - 1 - d
      · rw [e, va_up_self]; exact k.2.2
      · rw [va_up_ne _ _ e]; exact i2 j (by omega) h2
theorem planT_same {side kf : Nat} {sb : Nat → Nat → Int} {RR RR' : Nat → Int} {TR TR' : Nat → Nat} (h0 : RR side = RR' side) : ∀ (d : Nat), d ≤ side → (∀ j, side - d ≤ j → j ≤ side → (planT side kf sb RR TR d).1 j = (planT side kf sb RR' TR' d).1 j) ∧ ∀ j, side - d ≤ j → j < side → (planT side kf sb RR TR d).2 j = (planT side kf sb RR' TR' d).2 j := by
  intro d
  induction d with
  | zero =>
    intro _
    refine ⟨fun j h1 h2 => ?_, fun j h1 h2 => absurd h2 (by omega)⟩
    have e : j = side := by omega
    subst e
    exact h0
  | succ d ih =>
    intro hd
    obtain ⟨i1, i2⟩ := ih (by omega)
    have ec := rowFold_congr (kf := kf) (sb := sb (side - 1 - d)) (show side - 1 - d < side by omega) (fun j h3 h4 => i1 j (by omega) h4) (side - (side - 1 - d)) (Nat.le_refl _)
    refine ⟨fun j h1 h2 => ?_, fun j h1 h2 => ?_⟩
    · show va_up _ (side - 1 - d) _ j = va_up _ (side - 1 - d) _ j
      by_cases e : j = side - 1 - d
      · rw [e, va_up_self, va_up_self, ec]
      · rw [va_up_ne _ _ e, va_up_ne _ _ e]; exact i1 j (by omega) h2
    · show va_up _ (side - 1 - d) _ j = va_up _ (side - 1 - d) _ j
      by_cases e : j = side - 1 - d
      · rw [e, va_up_self, va_up_self, ec]
      · rw [va_up_ne _ _ e, va_up_ne _ _ e]; exact i2 j (by omega) h2
set_option maxHeartbeats 4000000 in
set_option maxRecDepth 100000 in
theorem c_planRow (l : Launch) (D : va_G) (cI cJ cZ : ClassId) (sz : Nat) (hb_ : Nat) (bo : Nat) (hz : Nat) (side : Nat) (kf : Nat) (tn : Nat) (r1 : Nat) (r2 : Nat) (r3 : Nat) (r4 : Nat) (h0 : Nat) (a1 : Nat) (a2 : Nat) (a3 : Nat) (a4 : Nat) (sm : Prop) (t1 : Nat) (t2 : Nat) (t3 : Nat) (t4 : Nat) (cn : Nat) (th : Nat → Nat) (wi : Nat → Nat) (wo : Nat → Nat) (wn : Nat → Nat) (F3 : Nat → Nat) (F4 : Nat → Nat) (fb : Nat → Nat → Nat) (fl : Nat → Nat → Nat) (RR : Nat → Int) (TR : Nat → Nat) (RC : Nat → Int) (SC : Nat → Int) (row : Nat) (s1 : 1 ≤ side) (s2 : side ≤ 20) (k4 : kf ≤ 4) (tn1 : tn ≤ 1) (n8 : cn ≤ 8) (ht : ∀ k, k < 8 → th k ≤ 20) (hw : ∀ k, k < 8 → wi k ≤ 20) (hw1 : ∀ k, k < cn → 1 ≤ wi k) (ho : ∀ k, k < 8 → wo k ≤ 100000) (hn : ∀ k, k < 8 → wn k ≤ 400) (m3 : ∀ X Y, X ≤ side → Y ≤ side → F3 (Y * (side + 1) + X) = psm fb X Y) (m4 : ∀ X Y, X ≤ side → Y ≤ side → F4 (Y * (side + 1) + X) = psm fl X Y) (hfb : ∀ i j, i < side → j < side → fb i j ≤ 10000) (hfl : ∀ i j, i < side → j < side → fl i j ≤ 10000) (hrow : row < side) (hR0 : RC side = 0) (hRR : ∀ j, row < j → j ≤ side → 0 ≤ RR j ∧ RR j ≤ 2000020000 * ((side - j : Nat) : Int)) : Met l y_Be_planRow w_Be_planRow ({ frames := 4, cells := 0, slots := 0, locals := 104 }) (va_Pc [.ref hb_, .int (nI row)] (kB D vwCl (tyL cI cJ cZ) sz [(hb_, .inr (1, [.ref bo, .ref hz, .int (nI side), .int (nI kf), .int (nI tn), .ref r1, .ref r2, .ref r3, .ref r4])), (bo, .inr (2, [.ref hz, .ref h0])), (h0, .inr (3, [.int (nI side), .ref a1, .ref a2, .ref a3, .ref a4, .int (pI sm)])), (hz, .inr (5, [.ref t1, .ref t2, .ref t3, .ref t4, .int (nI cn)])), (t1, .inl (cI, 8, .inl (fun j => nI (th j)))), (t2, .inl (cI, 8, .inl (fun j => nI (wi j)))), (t3, .inl (cI, 8, .inl (fun j => nI (wo j)))), (t4, .inl (cI, 8, .inl (fun j => nI (wn j)))), (a3, .inl (cI, ((side + 1) * (side + 1)), .inl (fun j => nI (F3 j)))), (a4, .inl (cI, ((side + 1) * (side + 1)), .inl (fun j => nI (F4 j)))), (r1, .inl (cJ, (side + 1), .inr (.inl (fun j => lI (RR j))))), (r2, .inl (cI, side, .inl (fun j => nI (TR j)))), (r3, .inl (cJ, (side + 1), .inr (.inl (fun j => lI (RC j))))), (r4, .inl (cI, side, .inl (fun j => iI (SC j))))])) (va_Qv (fun (u : (Nat → Int) × (Nat → Int)) => u.1 side = 0) (fun (u : (Nat → Int) × (Nat → Int)) t => kE D vwCl (va_A [(hb_, .inr (1, [.ref bo, .ref hz, .int (nI side), .int (nI kf), .int (nI tn), .ref r1, .ref r2, .ref r3, .ref r4])), (bo, .inr (2, [.ref hz, .ref h0])), (h0, .inr (3, [.int (nI side), .ref a1, .ref a2, .ref a3, .ref a4, .int (pI sm)])), (hz, .inr (5, [.ref t1, .ref t2, .ref t3, .ref t4, .int (nI cn)])), (t1, .inl (cI, 8, .inl (fun j => nI (th j)))), (t2, .inl (cI, 8, .inl (fun j => nI (wi j)))), (t3, .inl (cI, 8, .inl (fun j => nI (wo j)))), (t4, .inl (cI, 8, .inl (fun j => nI (wn j)))), (a3, .inl (cI, ((side + 1) * (side + 1)), .inl (fun j => nI (F3 j)))), (a4, .inl (cI, ((side + 1) * (side + 1)), .inl (fun j => nI (F4 j)))), (r1, .inl (cJ, (side + 1), .inr (.inl (fun j => lI (RR j))))), (r2, .inl (cI, side, .inl (fun j => nI (TR j)))), (r3, .inl (cJ, (side + 1), .inr (.inl (fun j => lI (RC j))))), (r4, .inl (cI, side, .inl (fun j => iI (SC j))))] sz) [(hb_, .inr (1, [.ref bo, .ref hz, .int (nI side), .int (nI kf), .int (nI tn), .ref r1, .ref r2, .ref r3, .ref r4])), (bo, .inr (2, [.ref hz, .ref h0])), (h0, .inr (3, [.int (nI side), .ref a1, .ref a2, .ref a3, .ref a4, .int (pI sm)])), (hz, .inr (5, [.ref t1, .ref t2, .ref t3, .ref t4, .int (nI cn)])), (t1, .inl (cI, 8, .inl (fun j => nI (th j)))), (t2, .inl (cI, 8, .inl (fun j => nI (wi j)))), (t3, .inl (cI, 8, .inl (fun j => nI (wo j)))), (t4, .inl (cI, 8, .inl (fun j => nI (wn j)))), (a3, .inl (cI, ((side + 1) * (side + 1)), .inl (fun j => nI (F3 j)))), (a4, .inl (cI, ((side + 1) * (side + 1)), .inl (fun j => nI (F4 j)))), (r1, .inl (cJ, (side + 1), .inr (.inl (fun j => lI ((va_up RR row (rowFold RR side kf row (sbR side kf th wi (okC side fb th wi wn tn row) (vaC side fl th wi wo tn row) cn) (side - row)).1) j))))), (r2, .inl (cI, side, .inl (fun j => nI ((va_up TR row (rowFold RR side kf row (sbR side kf th wi (okC side fb th wi wn tn row) (vaC side fl th wi wo tn row) cn) (side - row)).2) j)))), (r3, .inl (cJ, (side + 1), .inr (.inl (fun j => lI (u.1 j))))), (r4, .inl (cI, side, .inl (fun j => iI (u.2 j))))] t) (va_A [(hb_, .inr (1, [.ref bo, .ref hz, .int (nI side), .int (nI kf), .int (nI tn), .ref r1, .ref r2, .ref r3, .ref r4])), (bo, .inr (2, [.ref hz, .ref h0])), (h0, .inr (3, [.int (nI side), .ref a1, .ref a2, .ref a3, .ref a4, .int (pI sm)])), (hz, .inr (5, [.ref t1, .ref t2, .ref t3, .ref t4, .int (nI cn)])), (t1, .inl (cI, 8, .inl (fun j => nI (th j)))), (t2, .inl (cI, 8, .inl (fun j => nI (wi j)))), (t3, .inl (cI, 8, .inl (fun j => nI (wo j)))), (t4, .inl (cI, 8, .inl (fun j => nI (wn j)))), (a3, .inl (cI, ((side + 1) * (side + 1)), .inl (fun j => nI (F3 j)))), (a4, .inl (cI, ((side + 1) * (side + 1)), .inl (fun j => nI (F4 j)))), (r1, .inl (cJ, (side + 1), .inr (.inl (fun j => lI (RR j))))), (r2, .inl (cI, side, .inl (fun j => nI (TR j)))), (r3, .inl (cJ, (side + 1), .inr (.inl (fun j => lI (RC j))))), (r4, .inl (cI, side, .inl (fun j => iI (SC j))))] sz)) 0 0 (va_A [(hb_, .inr (1, [.ref bo, .ref hz, .int (nI side), .int (nI kf), .int (nI tn), .ref r1, .ref r2, .ref r3, .ref r4])), (bo, .inr (2, [.ref hz, .ref h0])), (h0, .inr (3, [.int (nI side), .ref a1, .ref a2, .ref a3, .ref a4, .int (pI sm)])), (hz, .inr (5, [.ref t1, .ref t2, .ref t3, .ref t4, .int (nI cn)])), (t1, .inl (cI, 8, .inl (fun j => nI (th j)))), (t2, .inl (cI, 8, .inl (fun j => nI (wi j)))), (t3, .inl (cI, 8, .inl (fun j => nI (wo j)))), (t4, .inl (cI, 8, .inl (fun j => nI (wn j)))), (a3, .inl (cI, ((side + 1) * (side + 1)), .inl (fun j => nI (F3 j)))), (a4, .inl (cI, ((side + 1) * (side + 1)), .inl (fun j => nI (F4 j)))), (r1, .inl (cJ, (side + 1), .inr (.inl (fun j => lI (RR j))))), (r2, .inl (cI, side, .inl (fun j => nI (TR j)))), (r3, .inl (cJ, (side + 1), .inr (.inl (fun j => lI (RC j))))), (r4, .inl (cI, side, .inl (fun j => iI (SC j))))] sz) := by
  refine Met.ofW (cc := b_Be_planRow) (maxL := 10) (ret := none) (by decide) rfl ?_
  intro p e s m args below meth c s₁ B hml hv
  obtain ⟨rfl, hsz, hP, hK, hD0, hZ⟩ := hv
  have hx := B.exec
  have hb := B.bytes
  have hr := B.returns
  have hts := atoms_spec (ws := w_Be_planRow) B.pre
  have hown : s.vm.findClass R_Be = some m.cls := findClass_of_methodNamed B.named
  have hlocks := B.notSynchronized
  subst hsz
  have hD := hD0.self (sz := s.heap.size)
  generalize hAe : va_A [(hb_, .inr (1, [.ref bo, .ref hz, .int (nI side), .int (nI kf), .int (nI tn), .ref r1, .ref r2, .ref r3, .ref r4])), (bo, .inr (2, [.ref hz, .ref h0])), (h0, .inr (3, [.int (nI side), .ref a1, .ref a2, .ref a3, .ref a4, .int (pI sm)])), (hz, .inr (5, [.ref t1, .ref t2, .ref t3, .ref t4, .int (nI cn)])), (t1, .inl (cI, 8, .inl (fun j => nI (th j)))), (t2, .inl (cI, 8, .inl (fun j => nI (wi j)))), (t3, .inl (cI, 8, .inl (fun j => nI (wo j)))), (t4, .inl (cI, 8, .inl (fun j => nI (wn j)))), (a3, .inl (cI, ((side + 1) * (side + 1)), .inl (fun j => nI (F3 j)))), (a4, .inl (cI, ((side + 1) * (side + 1)), .inl (fun j => nI (F4 j)))), (r1, .inl (cJ, (side + 1), .inr (.inl (fun j => lI (RR j))))), (r2, .inl (cI, side, .inl (fun j => nI (TR j)))), (r3, .inl (cJ, (side + 1), .inr (.inl (fun j => lI (RC j))))), (r4, .inl (cI, side, .inl (fun j => iI (SC j))))] s.heap.size = A at hD ⊢
  have hA : ∀ q : Nat, s.heap.size ≤ q → A q := fun q h => by rw [← hAe]; exact Or.inr h
  have hS : va_S A s.heap s.heap [] := va_S.rf
  have hP : va_P D vwCl [(hb_, .inr (1, [.ref bo, .ref hz, .int (nI side), .int (nI kf), .int (nI tn), .ref r1, .ref r2, .ref r3, .ref r4])), (bo, .inr (2, [.ref hz, .ref h0])), (h0, .inr (3, [.int (nI side), .ref a1, .ref a2, .ref a3, .ref a4, .int (pI sm)])), (hz, .inr (5, [.ref t1, .ref t2, .ref t3, .ref t4, .int (nI cn)])), (t1, .inl (cI, 8, .inl (fun j => nI (th j)))), (t2, .inl (cI, 8, .inl (fun j => nI (wi j)))), (t3, .inl (cI, 8, .inl (fun j => nI (wo j)))), (t4, .inl (cI, 8, .inl (fun j => nI (wn j)))), (a3, .inl (cI, ((side + 1) * (side + 1)), .inl (fun j => nI (F3 j)))), (a4, .inl (cI, ((side + 1) * (side + 1)), .inl (fun j => nI (F4 j)))), (r1, .inl (cJ, (side + 1), .inr (.inl (fun j => lI (RR j))))), (r2, .inl (cI, side, .inl (fun j => nI (TR j)))), (r3, .inl (cJ, (side + 1), .inr (.inl (fun j => lI (RC j))))), (r4, .inl (cI, side, .inl (fun j => iI (SC j))))] s.heap := hP
  have hl := lv_entry ([.ref hb_, .int (nI row)]) (n := 10) (Nat.le_of_ble_eq_true rfl)
  rw [lg_entry_eq]
  generalize (lg_sl ([.ref hb_, .int (nI row)]) ++ List.replicate (10 - (lg_sl ([.ref hb_, .int (nI row)])).length) Slot.unset).toArray = ls at hl ⊢
  have hl : lv_has ls 10 [(0, .ref hb_), (1, .int (nI row))] := hl
  have hsb := fun t_ => sbR_bd (side := side) (kf := kf) (thick := t_) (th := th) (ok := (okC side fb th wi wn tn row)) (va := (vaC side fl th wi wo tn row)) (cn := cn) hw1 (fun c_ i hi => vaC_bd (ho i (by omega))) s2
  have hB := fun k (hk : k ≤ side - row) => rowFold_bd (kf := kf) hrow hsb hRR k hk
  refine lv_aload_n hx hb d_Be_planRow_0 rfl (lv_at hl 0 rfl) ?_
  refine va_get (D := D) (ci := 1) (v := .ref r1) (C := R_Be) (T := T_Be) (N := 9) hx hb hts (fun w h => List.mem_cons_of_mem _ (iw_Be w h)) hown hK hP 0 rfl rfl 5 (by decide) (hts _ (List.mem_cons_of_mem _ k_112)) (fun _ h9 => h9) rfl d_Be_planRow_1 ?_
  refine lv_iload_n hx hb d_Be_planRow_4 rfl (lv_at hl 1 rfl) ?_
  refine lv_iconst (v := nI 1) hx hb d_Be_planRow_5 (by decide +kernel) ?_
  refine lv_iadd hx hb d_Be_planRow_6 ?_
  refine ka_i (y := nI (row + 1)) (nI_add _ _) ?_
  refine ka_lald (k := (row + 1)) (n := (side + 1)) (f := fun j => lI (RR j)) (nI_t (by omega)) (by omega) hx hb hK hP 10 1 rfl rfl d_Be_planRow_7 ?_
  refine lv_lstore_n (lv' := [(2, .long (lI (RR (row + 1)))), (0, .ref hb_), (1, .int (nI row))]) hx hb d_Be_planRow_8 rfl hl (by decide) rfl (fun ls hl => ?_)
  refine lv_iconst (v := nI 0) hx hb d_Be_planRow_9 (by decide +kernel) ?_
  refine lv_istore (lv' := [(4, .int (nI 0)), (2, .long (lI (RR (row + 1)))), (0, .ref hb_), (1, .int (nI row))]) hx hb d_Be_planRow_10 hl (by decide) rfl (fun ls hl => ?_)
  refine lv_iconst (v := nI 1) hx hb d_Be_planRow_12 (by decide +kernel) ?_
  refine lv_istore (lv' := [(5, .int (nI 1)), (4, .int (nI 0)), (2, .long (lI (RR (row + 1)))), (0, .ref hb_), (1, .int (nI row))]) hx hb d_Be_planRow_13 hl (by decide) rfl (fun ls hl => ?_)
  have lp : ∀ (n : Nat) (k : Nat) (b1 : Int) (b2 : Nat) (RC : Nat → Int) (SC : Nat → Int), (k + n = side - row) → (b1 = (rowFold RR side kf row (sbR side kf th wi (okC side fb th wi wn tn row) (vaC side fl th wi wo tn row) cn) k).1) → (b2 = (rowFold RR side kf row (sbR side kf th wi (okC side fb th wi wn tn row) (vaC side fl th wi wo tn row) cn) k).2) → (RC side = 0) → ∀ (H : Heap) (locs : List Loc), va_P D vwCl [(hb_, .inr (1, [.ref bo, .ref hz, .int (nI side), .int (nI kf), .int (nI tn), .ref r1, .ref r2, .ref r3, .ref r4])), (bo, .inr (2, [.ref hz, .ref h0])), (h0, .inr (3, [.int (nI side), .ref a1, .ref a2, .ref a3, .ref a4, .int (pI sm)])), (hz, .inr (5, [.ref t1, .ref t2, .ref t3, .ref t4, .int (nI cn)])), (t1, .inl (cI, 8, .inl (fun j => nI (th j)))), (t2, .inl (cI, 8, .inl (fun j => nI (wi j)))), (t3, .inl (cI, 8, .inl (fun j => nI (wo j)))), (t4, .inl (cI, 8, .inl (fun j => nI (wn j)))), (a3, .inl (cI, ((side + 1) * (side + 1)), .inl (fun j => nI (F3 j)))), (a4, .inl (cI, ((side + 1) * (side + 1)), .inl (fun j => nI (F4 j)))), (r1, .inl (cJ, (side + 1), .inr (.inl (fun j => lI (RR j))))), (r2, .inl (cI, side, .inl (fun j => nI (TR j)))), (r3, .inl (cJ, (side + 1), .inr (.inl (fun j => lI (RC j))))), (r4, .inl (cI, side, .inl (fun j => iI (SC j))))] H → va_D A [(hb_, .inr (1, [.ref bo, .ref hz, .int (nI side), .int (nI kf), .int (nI tn), .ref r1, .ref r2, .ref r3, .ref r4])), (bo, .inr (2, [.ref hz, .ref h0])), (h0, .inr (3, [.int (nI side), .ref a1, .ref a2, .ref a3, .ref a4, .int (pI sm)])), (hz, .inr (5, [.ref t1, .ref t2, .ref t3, .ref t4, .int (nI cn)])), (t1, .inl (cI, 8, .inl (fun j => nI (th j)))), (t2, .inl (cI, 8, .inl (fun j => nI (wi j)))), (t3, .inl (cI, 8, .inl (fun j => nI (wo j)))), (t4, .inl (cI, 8, .inl (fun j => nI (wn j)))), (a3, .inl (cI, ((side + 1) * (side + 1)), .inl (fun j => nI (F3 j)))), (a4, .inl (cI, ((side + 1) * (side + 1)), .inl (fun j => nI (F4 j)))), (r1, .inl (cJ, (side + 1), .inr (.inl (fun j => lI (RR j))))), (r2, .inl (cI, side, .inl (fun j => nI (TR j)))), (r3, .inl (cJ, (side + 1), .inr (.inl (fun j => lI (RC j))))), (r4, .inl (cI, side, .inl (fun j => iI (SC j))))] → va_S A s.heap H locs → ∀ ls : Array Slot, lv_has ls 10 [(5, .int (nI (k + 1))), (4, .int (nI b2)), (2, .long (lI b1)), (0, .ref hb_), (1, .int (nI row))] → W p l e (headSpec w_Be_planRow ({ frames := 4, cells := 0, slots := 0, locals := 104 })).room s m ([.ref hb_, .int (nI row)]).toArray below meth c H locs 0 0 (MQ below (va_Qv (fun (u : (Nat → Int) × (Nat → Int)) => u.1 side = 0) (fun (u : (Nat → Int) × (Nat → Int)) t => kE D vwCl A [(hb_, .inr (1, [.ref bo, .ref hz, .int (nI side), .int (nI kf), .int (nI tn), .ref r1, .ref r2, .ref r3, .ref r4])), (bo, .inr (2, [.ref hz, .ref h0])), (h0, .inr (3, [.int (nI side), .ref a1, .ref a2, .ref a3, .ref a4, .int (pI sm)])), (hz, .inr (5, [.ref t1, .ref t2, .ref t3, .ref t4, .int (nI cn)])), (t1, .inl (cI, 8, .inl (fun j => nI (th j)))), (t2, .inl (cI, 8, .inl (fun j => nI (wi j)))), (t3, .inl (cI, 8, .inl (fun j => nI (wo j)))), (t4, .inl (cI, 8, .inl (fun j => nI (wn j)))), (a3, .inl (cI, ((side + 1) * (side + 1)), .inl (fun j => nI (F3 j)))), (a4, .inl (cI, ((side + 1) * (side + 1)), .inl (fun j => nI (F4 j)))), (r1, .inl (cJ, (side + 1), .inr (.inl (fun j => lI ((va_up RR row (rowFold RR side kf row (sbR side kf th wi (okC side fb th wi wn tn row) (vaC side fl th wi wo tn row) cn) (side - row)).1) j))))), (r2, .inl (cI, side, .inl (fun j => nI ((va_up TR row (rowFold RR side kf row (sbR side kf th wi (okC side fb th wi wn tn row) (vaC side fl th wi wo tn row) cn) (side - row)).2) j)))), (r3, .inl (cJ, (side + 1), .inr (.inl (fun j => lI (u.1 j))))), (r4, .inl (cI, side, .inl (fun j => iI (u.2 j))))] t) A) ([.ref hb_, .int (nI row)]).toArray s 0 0 A) (F0 m 15 ls []) := by
    intro n
    induction n with
    | zero =>
      intro k b1 b2 RC SC hi e1 e2 hC H locs hP hD hS ls hl
      refine lv_iload hx hb d_Be_planRow_15 (lv_at hl 0 rfl) ?_
      refine lv_aload_n hx hb d_Be_planRow_17 rfl (lv_at hl 3 rfl) ?_
      refine va_get (D := D) (ci := 1) (v := .int (nI side)) (C := R_Be) (T := T_Be) (N := 9) hx hb hts (fun w h => List.mem_cons_of_mem _ (iw_Be w h)) hown hK hP 0 rfl rfl 2 (by decide) (hts _ (List.mem_cons_of_mem _ k_109)) (fun _ h9 => h9) rfl d_Be_planRow_18 ?_
      refine lv_iload_n hx hb d_Be_planRow_21 rfl (lv_at hl 4 rfl) ?_
      refine lv_isub hx hb d_Be_planRow_22 ?_
      refine ka_i (y := nI (side - row)) (pk_sub (by omega)) ?_
      refine kb_cgt (tgt := 116) (nI_t (by omega)) (nI_t (by omega)) hx hb d_Be_planRow_23 (by decide) (fun c_23 => ?_) (fun c_23 => ?_)
      · have ek : k = side - row := by omega
        subst ek
        subst e1
        subst e2
        refine lv_aload_n hx hb d_Be_planRow_116 rfl (lv_at hl 3 rfl) ?_
        refine va_get (D := D) (ci := 1) (v := .ref r1) (C := R_Be) (T := T_Be) (N := 9) hx hb hts (fun w h => List.mem_cons_of_mem _ (iw_Be w h)) hown hK hP 0 rfl rfl 5 (by decide) (hts _ (List.mem_cons_of_mem _ k_112)) (fun _ h9 => h9) rfl d_Be_planRow_117 ?_
        refine lv_iload_n hx hb d_Be_planRow_120 rfl (lv_at hl 4 rfl) ?_
        refine lv_lload_n hx hb d_Be_planRow_121 rfl (lv_at hl 2 rfl) ?_
        refine ka_lastI (F := RR) (v := ((rowFold RR side kf row (sbR side kf th wi (okC side fb th wi wn tn row) (vaC side fl th wi wo tn row) cn) (side - row)).1)) (k := row) (n := (side + 1)) (nI_t (by omega)) (by omega) hx hb hK hP hD hS 10 1 rfl rfl d_Be_planRow_122 (fun H locs hP hD hS => ?_)
        have hP : va_P D vwCl [(hb_, .inr (1, [.ref bo, .ref hz, .int (nI side), .int (nI kf), .int (nI tn), .ref r1, .ref r2, .ref r3, .ref r4])), (bo, .inr (2, [.ref hz, .ref h0])), (h0, .inr (3, [.int (nI side), .ref a1, .ref a2, .ref a3, .ref a4, .int (pI sm)])), (hz, .inr (5, [.ref t1, .ref t2, .ref t3, .ref t4, .int (nI cn)])), (t1, .inl (cI, 8, .inl (fun j => nI (th j)))), (t2, .inl (cI, 8, .inl (fun j => nI (wi j)))), (t3, .inl (cI, 8, .inl (fun j => nI (wo j)))), (t4, .inl (cI, 8, .inl (fun j => nI (wn j)))), (a3, .inl (cI, ((side + 1) * (side + 1)), .inl (fun j => nI (F3 j)))), (a4, .inl (cI, ((side + 1) * (side + 1)), .inl (fun j => nI (F4 j)))), (r1, .inl (cJ, (side + 1), .inr (.inl (fun j => lI ((va_up RR row ((rowFold RR side kf row (sbR side kf th wi (okC side fb th wi wn tn row) (vaC side fl th wi wo tn row) cn) (side - row)).1)) j))))), (r2, .inl (cI, side, .inl (fun j => nI (TR j)))), (r3, .inl (cJ, (side + 1), .inr (.inl (fun j => lI (RC j))))), (r4, .inl (cI, side, .inl (fun j => iI (SC j))))] H := hP
        have hD : va_D A [(hb_, .inr (1, [.ref bo, .ref hz, .int (nI side), .int (nI kf), .int (nI tn), .ref r1, .ref r2, .ref r3, .ref r4])), (bo, .inr (2, [.ref hz, .ref h0])), (h0, .inr (3, [.int (nI side), .ref a1, .ref a2, .ref a3, .ref a4, .int (pI sm)])), (hz, .inr (5, [.ref t1, .ref t2, .ref t3, .ref t4, .int (nI cn)])), (t1, .inl (cI, 8, .inl (fun j => nI (th j)))), (t2, .inl (cI, 8, .inl (fun j => nI (wi j)))), (t3, .inl (cI, 8, .inl (fun j => nI (wo j)))), (t4, .inl (cI, 8, .inl (fun j => nI (wn j)))), (a3, .inl (cI, ((side + 1) * (side + 1)), .inl (fun j => nI (F3 j)))), (a4, .inl (cI, ((side + 1) * (side + 1)), .inl (fun j => nI (F4 j)))), (r1, .inl (cJ, (side + 1), .inr (.inl (fun j => lI ((va_up RR row ((rowFold RR side kf row (sbR side kf th wi (okC side fb th wi wn tn row) (vaC side fl th wi wo tn row) cn) (side - row)).1)) j))))), (r2, .inl (cI, side, .inl (fun j => nI (TR j)))), (r3, .inl (cJ, (side + 1), .inr (.inl (fun j => lI (RC j))))), (r4, .inl (cI, side, .inl (fun j => iI (SC j))))] := hD
        refine lv_aload_n hx hb d_Be_planRow_123 rfl (lv_at hl 3 rfl) ?_
        refine va_get (D := D) (ci := 1) (v := .ref r2) (C := R_Be) (T := T_Be) (N := 9) hx hb hts (fun w h => List.mem_cons_of_mem _ (iw_Be w h)) hown hK hP 0 rfl rfl 6 (by decide) (hts _ (List.mem_cons_of_mem _ k_113)) (fun _ h9 => h9) rfl d_Be_planRow_124 ?_
        refine lv_iload_n hx hb d_Be_planRow_127 rfl (lv_at hl 4 rfl) ?_
        refine lv_iload hx hb d_Be_planRow_128 (lv_at hl 1 rfl) ?_
        refine ka_iastN (F := TR) (v := ((rowFold RR side kf row (sbR side kf th wi (okC side fb th wi wn tn row) (vaC side fl th wi wo tn row) cn) (side - row)).2)) (k := row) (n := side) (nI_t (by omega)) (by omega) hx hb hK hP hD hS 11 0 rfl rfl d_Be_planRow_130 (fun H locs hP hD hS => ?_)
        have hP : va_P D vwCl [(hb_, .inr (1, [.ref bo, .ref hz, .int (nI side), .int (nI kf), .int (nI tn), .ref r1, .ref r2, .ref r3, .ref r4])), (bo, .inr (2, [.ref hz, .ref h0])), (h0, .inr (3, [.int (nI side), .ref a1, .ref a2, .ref a3, .ref a4, .int (pI sm)])), (hz, .inr (5, [.ref t1, .ref t2, .ref t3, .ref t4, .int (nI cn)])), (t1, .inl (cI, 8, .inl (fun j => nI (th j)))), (t2, .inl (cI, 8, .inl (fun j => nI (wi j)))), (t3, .inl (cI, 8, .inl (fun j => nI (wo j)))), (t4, .inl (cI, 8, .inl (fun j => nI (wn j)))), (a3, .inl (cI, ((side + 1) * (side + 1)), .inl (fun j => nI (F3 j)))), (a4, .inl (cI, ((side + 1) * (side + 1)), .inl (fun j => nI (F4 j)))), (r1, .inl (cJ, (side + 1), .inr (.inl (fun j => lI ((va_up RR row ((rowFold RR side kf row (sbR side kf th wi (okC side fb th wi wn tn row) (vaC side fl th wi wo tn row) cn) (side - row)).1)) j))))), (r2, .inl (cI, side, .inl (fun j => nI ((va_up TR row ((rowFold RR side kf row (sbR side kf th wi (okC side fb th wi wn tn row) (vaC side fl th wi wo tn row) cn) (side - row)).2)) j)))), (r3, .inl (cJ, (side + 1), .inr (.inl (fun j => lI (RC j))))), (r4, .inl (cI, side, .inl (fun j => iI (SC j))))] H := hP
        have hD : va_D A [(hb_, .inr (1, [.ref bo, .ref hz, .int (nI side), .int (nI kf), .int (nI tn), .ref r1, .ref r2, .ref r3, .ref r4])), (bo, .inr (2, [.ref hz, .ref h0])), (h0, .inr (3, [.int (nI side), .ref a1, .ref a2, .ref a3, .ref a4, .int (pI sm)])), (hz, .inr (5, [.ref t1, .ref t2, .ref t3, .ref t4, .int (nI cn)])), (t1, .inl (cI, 8, .inl (fun j => nI (th j)))), (t2, .inl (cI, 8, .inl (fun j => nI (wi j)))), (t3, .inl (cI, 8, .inl (fun j => nI (wo j)))), (t4, .inl (cI, 8, .inl (fun j => nI (wn j)))), (a3, .inl (cI, ((side + 1) * (side + 1)), .inl (fun j => nI (F3 j)))), (a4, .inl (cI, ((side + 1) * (side + 1)), .inl (fun j => nI (F4 j)))), (r1, .inl (cJ, (side + 1), .inr (.inl (fun j => lI ((va_up RR row ((rowFold RR side kf row (sbR side kf th wi (okC side fb th wi wn tn row) (vaC side fl th wi wo tn row) cn) (side - row)).1)) j))))), (r2, .inl (cI, side, .inl (fun j => nI ((va_up TR row ((rowFold RR side kf row (sbR side kf th wi (okC side fb th wi wn tn row) (vaC side fl th wi wo tn row) cn) (side - row)).2)) j)))), (r3, .inl (cJ, (side + 1), .inr (.inl (fun j => lI (RC j))))), (r4, .inl (cI, side, .inl (fun j => iI (SC j))))] := hD
        exact kretv (u := (RC, SC)) hx hb hr hP hD hS hlocks rfl (hC) d_Be_planRow_131
      · exfalso; omega
    | succ n ih =>
      intro k b1 b2 RC SC hi e1 e2 hC H locs hP hD hS ls hl
      refine lv_iload hx hb d_Be_planRow_15 (lv_at hl 0 rfl) ?_
      refine lv_aload_n hx hb d_Be_planRow_17 rfl (lv_at hl 3 rfl) ?_
      refine va_get (D := D) (ci := 1) (v := .int (nI side)) (C := R_Be) (T := T_Be) (N := 9) hx hb hts (fun w h => List.mem_cons_of_mem _ (iw_Be w h)) hown hK hP 0 rfl rfl 2 (by decide) (hts _ (List.mem_cons_of_mem _ k_109)) (fun _ h9 => h9) rfl d_Be_planRow_18 ?_
      refine lv_iload_n hx hb d_Be_planRow_21 rfl (lv_at hl 4 rfl) ?_
      refine lv_isub hx hb d_Be_planRow_22 ?_
      refine ka_i (y := nI (side - row)) (pk_sub (by omega)) ?_
      refine kb_cgt (tgt := 116) (nI_t (by omega)) (nI_t (by omega)) hx hb d_Be_planRow_23 (by decide) (fun c_23 => ?_) (fun c_23 => ?_)
      · exfalso; omega
      · have q := hB k (by omega)
        rw [← e1, ← e2] at q
        have q6 := hsb (k + 1)
        have q8 := hRR (min side (row + (k + 1) + kf)) (by omega) (by omega)
        have es : (rowFold RR side kf row (sbR side kf th wi (okC side fb th wi wn tn row) (vaC side fl th wi wo tn row) cn) (k + 1)) = rowStep RR side kf row (sbR side kf th wi (okC side fb th wi wn tn row) (vaC side fl th wi wo tn row) cn) (k + 1) (b1, b2) := by
          rw [e1, e2]; rfl
        refine lv_aload_n hx hb d_Be_planRow_26 rfl (lv_at hl 3 rfl) ?_
        refine va_get (D := D) (ci := 1) (v := .ref hz) (C := R_Be) (T := T_Be) (N := 9) hx hb hts (fun w h => List.mem_cons_of_mem _ (iw_Be w h)) hown hK hP 0 rfl rfl 1 (by decide) (hts _ (List.mem_cons_of_mem _ k_108)) (fun _ h9 => h9) rfl d_Be_planRow_27 ?_
        refine lv_iload hx hb d_Be_planRow_30 (lv_at hl 0 rfl) ?_
        refine kcallR (r := .int (pI (∃ k_, k_ < cn ∧ th k_ = (k + 1)))) (va_runV (As := [.int (nI (k + 1))]) (rest := []) ⟨hx, hb, hml, hown, hts⟩ (c_haveT l D cI cJ cZ hz t1 t2 t3 t4 cn th (k + 1) (by omega) (by omega) ht) ⟨callB_of 1 hts (gd kc_Si_haveThickness) rfl rfl rfl (hts _ (List.mem_cons_of_mem _ k_4)) (hts _ (List.mem_cons_of_mem _ k_220)) (by decide +kernel) ⟨Nat.le_of_ble_eq_true rfl, Nat.le_of_ble_eq_true rfl⟩, hts _ (List.mem_cons_of_mem _ k_221), hts _ (List.mem_cons_of_mem _ k_222)⟩ ⟨kR_blind, va_recv hK hP (ci := 5) (q0 := 3) rfl rfl, kR_at hP hK hZ [3, 4] rfl⟩ rfl rfl hl.1 rfl (lv_room (Nat.le_of_ble_eq_true rfl)) d_Be_planRow_32 ⟨Nat.zero_le _, Nat.zero_le _⟩) ?_
        refine kb_eqP (tgt := 48) hx hb d_Be_planRow_35 (by decide) (fun ch => ?_) (fun ch => ?_)
        · refine lv_lconst (v := lI 0) hx hb d_Be_planRow_48 (by decide +kernel) ?_
          refine ka_l (y := lI ((sbR side kf th wi (okC side fb th wi wn tn row) (vaC side fl th wi wo tn row) cn) (k + 1))) (congrArg lI (by unfold sbR; rw [cif_f ch])) ?_
          refine lv_lstore (lv' := [(6, .long (lI ((sbR side kf th wi (okC side fb th wi wn tn row) (vaC side fl th wi wo tn row) cn) (k + 1)))), (5, .int (nI (k + 1))), (4, .int (nI b2)), (2, .long (lI b1)), (0, .ref hb_), (1, .int (nI row))]) hx hb d_Be_planRow_49 hl (by decide) rfl (fun ls hl => ?_)
          refine lv_lload hx hb d_Be_planRow_51 (lv_at hl 0 rfl) ?_
          refine lv_aload_n hx hb d_Be_planRow_53 rfl (lv_at hl 4 rfl) ?_
          refine va_get (D := D) (ci := 1) (v := .ref r1) (C := R_Be) (T := T_Be) (N := 9) hx hb hts (fun w h => List.mem_cons_of_mem _ (iw_Be w h)) hown hK hP 0 rfl rfl 5 (by decide) (hts _ (List.mem_cons_of_mem _ k_112)) (fun _ h9 => h9) rfl d_Be_planRow_54 ?_
          refine lv_aload_n hx hb d_Be_planRow_57 rfl (lv_at hl 4 rfl) ?_
          refine va_get (D := D) (ci := 1) (v := .int (nI side)) (C := R_Be) (T := T_Be) (N := 9) hx hb hts (fun w h => List.mem_cons_of_mem _ (iw_Be w h)) hown hK hP 0 rfl rfl 2 (by decide) (hts _ (List.mem_cons_of_mem _ k_109)) (fun _ h9 => h9) rfl d_Be_planRow_58 ?_
          refine lv_iload_n hx hb d_Be_planRow_61 rfl (lv_at hl 5 rfl) ?_
          refine lv_iload hx hb d_Be_planRow_62 (lv_at hl 1 rfl) ?_
          refine lv_iadd hx hb d_Be_planRow_64 ?_
          refine ka_i (y := nI (row + (k + 1))) (nI_add _ _) ?_
          refine lv_aload_n hx hb d_Be_planRow_65 rfl (lv_at hl 4 rfl) ?_
          refine va_get (D := D) (ci := 1) (v := .int (nI kf)) (C := R_Be) (T := T_Be) (N := 9) hx hb hts (fun w h => List.mem_cons_of_mem _ (iw_Be w h)) hown hK hP 0 rfl rfl 3 (by decide) (hts _ (List.mem_cons_of_mem _ k_110)) (fun _ h9 => h9) rfl d_Be_planRow_66 ?_
          refine lv_iadd hx hb d_Be_planRow_69 ?_
          refine ka_i (y := nI ((row + (k + 1)) + kf)) (nI_add _ _) ?_
          refine va_mmin hx hb (hml.trans hl.1.symm) hown (hts _ (List.mem_cons_of_mem _ k_262)) (hts _ (List.mem_cons_of_mem _ k_24)) (hts _ (List.mem_cons_of_mem _ k_2)) (hts _ (List.mem_cons_of_mem _ k_25)) (Nat.le_of_ble_eq_true rfl) (Nat.le_of_ble_eq_true rfl) (Nat.zero_le _) (Nat.zero_le _) d_Be_planRow_70 ?_
          refine ka_i (y := iI (min ((side : Nat) : Int) (((row + (k + 1)) + kf : Nat) : Int))) (mmin32 (nI_t (by omega)) (nI_t (by omega))) ?_
          refine ka_lald (k := (min side (row + (k + 1) + kf))) (n := (side + 1)) (f := fun j => lI (RR j)) ((iI_t (by omega) (by omega)).trans (by omega)) (by omega) hx hb hK hP 10 1 rfl rfl d_Be_planRow_73 ?_
          refine lv_ladd hx hb d_Be_planRow_74 ?_
          refine ka_l (y := lI (((sbR side kf th wi (okC side fb th wi wn tn row) (vaC side fl th wi wo tn row) cn) (k + 1)) + (RR (min side (row + (k + 1) + kf))))) (lI_add _ _) ?_
          refine lv_lstore (lv' := [(8, .long (lI (((sbR side kf th wi (okC side fb th wi wn tn row) (vaC side fl th wi wo tn row) cn) (k + 1)) + (RR (min side (row + (k + 1) + kf)))))), (6, .long (lI ((sbR side kf th wi (okC side fb th wi wn tn row) (vaC side fl th wi wo tn row) cn) (k + 1)))), (5, .int (nI (k + 1))), (4, .int (nI b2)), (2, .long (lI b1)), (0, .ref hb_), (1, .int (nI row))]) hx hb d_Be_planRow_75 hl (by decide) rfl (fun ls hl => ?_)
          refine lv_lload hx hb d_Be_planRow_77 (lv_at hl 1 rfl) ?_
          refine lv_lconst (v := lI 0) hx hb d_Be_planRow_79 (by decide +kernel) ?_
          refine ka_lcmp (lI_t (by omega) (by omega)) (lI_t (by omega) (by omega)) hx hb d_Be_planRow_80 ?_
          refine kb_le (tgt := 110) (cmpI_b _ _) hx hb d_Be_planRow_81 (by decide) (fun g0 => ?_) (fun g0 => ?_)
          · have l0 := cmpI_le.mp g0
            refine lv_iinc (v := nI (k + 1 + 1)) (lv' := [(5, .int (nI (k + 1 + 1))), (8, .long (lI (((sbR side kf th wi (okC side fb th wi wn tn row) (vaC side fl th wi wo tn row) cn) (k + 1)) + (RR (min side (row + (k + 1) + kf)))))), (6, .long (lI ((sbR side kf th wi (okC side fb th wi wn tn row) (vaC side fl th wi wo tn row) cn) (k + 1)))), (4, .int (nI b2)), (2, .long (lI b1)), (0, .ref hb_), (1, .int (nI row))]) hx hb d_Be_planRow_110 hl (k := 2) rfl (nI_add _ 1) (by decide) rfl (fun ls hl => ?_)
            refine lv_goto (tgt := 15) hx hb d_Be_planRow_113 (by decide) ?_
            exact ih (k + 1) b1 b2 RC SC (by omega) (by rw [es]; unfold rowStep; rw [cif_f (fun h => by have h9 := h.1; omega)]) (by rw [es]; unfold rowStep; rw [cif_f (fun h => by have h9 := h.1; omega)]) hC _ _ hP hD hS ls (lv_sub hl [0, 3, 4, 5, 6] rfl)
          · have l0 := cmpI_gt.mp g0
            refine lv_lload hx hb d_Be_planRow_84 (lv_at hl 0 rfl) ?_
            refine lv_lload_n hx hb d_Be_planRow_86 rfl (lv_at hl 4 rfl) ?_
            refine ka_lcmp (lI_t (by omega) (by omega)) (lI_t (by omega) (by omega)) hx hb d_Be_planRow_87 ?_
            refine kb_gt (tgt := 103) (cmpI_b _ _) hx hb d_Be_planRow_88 (by decide) (fun g1 => ?_) (fun g1 => ?_)
            · have l1 := cmpI_gt.mp g1
              refine lv_lload hx hb d_Be_planRow_103 (lv_at hl 0 rfl) ?_
              refine lv_lstore_n (lv' := [(2, .long (lI (((sbR side kf th wi (okC side fb th wi wn tn row) (vaC side fl th wi wo tn row) cn) (k + 1)) + (RR (min side (row + (k + 1) + kf)))))), (8, .long (lI (((sbR side kf th wi (okC side fb th wi wn tn row) (vaC side fl th wi wo tn row) cn) (k + 1)) + (RR (min side (row + (k + 1) + kf)))))), (6, .long (lI ((sbR side kf th wi (okC side fb th wi wn tn row) (vaC side fl th wi wo tn row) cn) (k + 1)))), (5, .int (nI (k + 1))), (4, .int (nI b2)), (0, .ref hb_), (1, .int (nI row))]) hx hb d_Be_planRow_105 rfl hl (by decide) rfl (fun ls hl => ?_)
              refine lv_iload hx hb d_Be_planRow_106 (lv_at hl 3 rfl) ?_
              refine lv_istore (lv' := [(4, .int (nI (k + 1))), (2, .long (lI (((sbR side kf th wi (okC side fb th wi wn tn row) (vaC side fl th wi wo tn row) cn) (k + 1)) + (RR (min side (row + (k + 1) + kf)))))), (8, .long (lI (((sbR side kf th wi (okC side fb th wi wn tn row) (vaC side fl th wi wo tn row) cn) (k + 1)) + (RR (min side (row + (k + 1) + kf)))))), (6, .long (lI ((sbR side kf th wi (okC side fb th wi wn tn row) (vaC side fl th wi wo tn row) cn) (k + 1)))), (5, .int (nI (k + 1))), (0, .ref hb_), (1, .int (nI row))]) hx hb d_Be_planRow_108 hl (by decide) rfl (fun ls hl => ?_)
              refine lv_iinc (v := nI (k + 1 + 1)) (lv' := [(5, .int (nI (k + 1 + 1))), (4, .int (nI (k + 1))), (2, .long (lI (((sbR side kf th wi (okC side fb th wi wn tn row) (vaC side fl th wi wo tn row) cn) (k + 1)) + (RR (min side (row + (k + 1) + kf)))))), (8, .long (lI (((sbR side kf th wi (okC side fb th wi wn tn row) (vaC side fl th wi wo tn row) cn) (k + 1)) + (RR (min side (row + (k + 1) + kf)))))), (6, .long (lI ((sbR side kf th wi (okC side fb th wi wn tn row) (vaC side fl th wi wo tn row) cn) (k + 1)))), (0, .ref hb_), (1, .int (nI row))]) hx hb d_Be_planRow_110 hl (k := 4) rfl (nI_add _ 1) (by decide) rfl (fun ls hl => ?_)
              refine lv_goto (tgt := 15) hx hb d_Be_planRow_113 (by decide) ?_
              exact ih (k + 1) ((sbR side kf th wi (okC side fb th wi wn tn row) (vaC side fl th wi wo tn row) cn) (k + 1) + RR (min side (row + (k + 1) + kf))) (k + 1) RC SC (by omega) (by rw [es]; unfold rowStep; rw [cif_t (⟨l0, Or.inl l1⟩)]) (by rw [es]; unfold rowStep; rw [cif_t (⟨l0, Or.inl l1⟩)]) hC _ _ hP hD hS ls (lv_sub hl [0, 1, 2, 5, 6] rfl)
            · have l1 := cmpI_le.mp g1
              refine lv_lload hx hb d_Be_planRow_91 (lv_at hl 0 rfl) ?_
              refine lv_lload_n hx hb d_Be_planRow_93 rfl (lv_at hl 4 rfl) ?_
              refine ka_lcmp (lI_t (by omega) (by omega)) (lI_t (by omega) (by omega)) hx hb d_Be_planRow_94 ?_
              refine kb_ne (tgt := 110) (cmpI_b _ _) hx hb d_Be_planRow_95 (by decide) (fun g2 => ?_) (fun g2 => ?_)
              · have l2 := (not_congr cmpI_eq).mp g2
                refine lv_iinc (v := nI (k + 1 + 1)) (lv' := [(5, .int (nI (k + 1 + 1))), (8, .long (lI (((sbR side kf th wi (okC side fb th wi wn tn row) (vaC side fl th wi wo tn row) cn) (k + 1)) + (RR (min side (row + (k + 1) + kf)))))), (6, .long (lI ((sbR side kf th wi (okC side fb th wi wn tn row) (vaC side fl th wi wo tn row) cn) (k + 1)))), (4, .int (nI b2)), (2, .long (lI b1)), (0, .ref hb_), (1, .int (nI row))]) hx hb d_Be_planRow_110 hl (k := 2) rfl (nI_add _ 1) (by decide) rfl (fun ls hl => ?_)
                refine lv_goto (tgt := 15) hx hb d_Be_planRow_113 (by decide) ?_
                exact ih (k + 1) b1 b2 RC SC (by omega) (by rw [es]; unfold rowStep; rw [cif_f (fun h => by
                    rcases h.2 with h9 | h9
                    · have h9 : b1 < _ := h9
                      omega
                    · exact l2 h9.1)]) (by rw [es]; unfold rowStep; rw [cif_f (fun h => by
                    rcases h.2 with h9 | h9
                    · have h9 : b1 < _ := h9
                      omega
                    · exact l2 h9.1)]) hC _ _ hP hD hS ls (lv_sub hl [0, 3, 4, 5, 6] rfl)
              · have l2 := cmpI_eq.mp g2
                refine lv_iload hx hb d_Be_planRow_98 (lv_at hl 3 rfl) ?_
                refine kb_ne (tgt := 110) (nI_t (by omega)) hx hb d_Be_planRow_100 (by decide) (fun g3 => ?_) (fun g3 => ?_)
                · refine lv_iinc (v := nI (k + 1 + 1)) (lv' := [(5, .int (nI (k + 1 + 1))), (8, .long (lI (((sbR side kf th wi (okC side fb th wi wn tn row) (vaC side fl th wi wo tn row) cn) (k + 1)) + (RR (min side (row + (k + 1) + kf)))))), (6, .long (lI ((sbR side kf th wi (okC side fb th wi wn tn row) (vaC side fl th wi wo tn row) cn) (k + 1)))), (4, .int (nI b2)), (2, .long (lI b1)), (0, .ref hb_), (1, .int (nI row))]) hx hb d_Be_planRow_110 hl (k := 2) rfl (nI_add _ 1) (by decide) rfl (fun ls hl => ?_)
                  refine lv_goto (tgt := 15) hx hb d_Be_planRow_113 (by decide) ?_
                  exact ih (k + 1) b1 b2 RC SC (by omega) (by rw [es]; unfold rowStep; rw [cif_f (fun h => by
                      rcases h.2 with h9 | h9
                      · have h9 : b1 < _ := h9
                        omega
                      · have h9 : b2 = 0 := h9.2
                        omega)]) (by rw [es]; unfold rowStep; rw [cif_f (fun h => by
                      rcases h.2 with h9 | h9
                      · have h9 : b1 < _ := h9
                        omega
                      · have h9 : b2 = 0 := h9.2
                        omega)]) hC _ _ hP hD hS ls (lv_sub hl [0, 3, 4, 5, 6] rfl)
                · refine lv_lload hx hb d_Be_planRow_103 (lv_at hl 0 rfl) ?_
                  refine lv_lstore_n (lv' := [(2, .long (lI (((sbR side kf th wi (okC side fb th wi wn tn row) (vaC side fl th wi wo tn row) cn) (k + 1)) + (RR (min side (row + (k + 1) + kf)))))), (8, .long (lI (((sbR side kf th wi (okC side fb th wi wn tn row) (vaC side fl th wi wo tn row) cn) (k + 1)) + (RR (min side (row + (k + 1) + kf)))))), (6, .long (lI ((sbR side kf th wi (okC side fb th wi wn tn row) (vaC side fl th wi wo tn row) cn) (k + 1)))), (5, .int (nI (k + 1))), (4, .int (nI b2)), (0, .ref hb_), (1, .int (nI row))]) hx hb d_Be_planRow_105 rfl hl (by decide) rfl (fun ls hl => ?_)
                  refine lv_iload hx hb d_Be_planRow_106 (lv_at hl 3 rfl) ?_
                  refine lv_istore (lv' := [(4, .int (nI (k + 1))), (2, .long (lI (((sbR side kf th wi (okC side fb th wi wn tn row) (vaC side fl th wi wo tn row) cn) (k + 1)) + (RR (min side (row + (k + 1) + kf)))))), (8, .long (lI (((sbR side kf th wi (okC side fb th wi wn tn row) (vaC side fl th wi wo tn row) cn) (k + 1)) + (RR (min side (row + (k + 1) + kf)))))), (6, .long (lI ((sbR side kf th wi (okC side fb th wi wn tn row) (vaC side fl th wi wo tn row) cn) (k + 1)))), (5, .int (nI (k + 1))), (0, .ref hb_), (1, .int (nI row))]) hx hb d_Be_planRow_108 hl (by decide) rfl (fun ls hl => ?_)
                  refine lv_iinc (v := nI (k + 1 + 1)) (lv' := [(5, .int (nI (k + 1 + 1))), (4, .int (nI (k + 1))), (2, .long (lI (((sbR side kf th wi (okC side fb th wi wn tn row) (vaC side fl th wi wo tn row) cn) (k + 1)) + (RR (min side (row + (k + 1) + kf)))))), (8, .long (lI (((sbR side kf th wi (okC side fb th wi wn tn row) (vaC side fl th wi wo tn row) cn) (k + 1)) + (RR (min side (row + (k + 1) + kf)))))), (6, .long (lI ((sbR side kf th wi (okC side fb th wi wn tn row) (vaC side fl th wi wo tn row) cn) (k + 1)))), (0, .ref hb_), (1, .int (nI row))]) hx hb d_Be_planRow_110 hl (k := 4) rfl (nI_add _ 1) (by decide) rfl (fun ls hl => ?_)
                  refine lv_goto (tgt := 15) hx hb d_Be_planRow_113 (by decide) ?_
                  exact ih (k + 1) ((sbR side kf th wi (okC side fb th wi wn tn row) (vaC side fl th wi wo tn row) cn) (k + 1) + RR (min side (row + (k + 1) + kf))) (k + 1) RC SC (by omega) (by rw [es]; unfold rowStep; rw [cif_t (⟨l0, Or.inr ⟨l2, by omega⟩⟩)]) (by rw [es]; unfold rowStep; rw [cif_t (⟨l0, Or.inr ⟨l2, by omega⟩⟩)]) hC _ _ hP hD hS ls (lv_sub hl [0, 1, 2, 5, 6] rfl)
        · refine lv_aload_n hx hb d_Be_planRow_38 rfl (lv_at hl 3 rfl) ?_
          refine lv_iload_n hx hb d_Be_planRow_39 rfl (lv_at hl 4 rfl) ?_
          refine lv_iload hx hb d_Be_planRow_40 (lv_at hl 0 rfl) ?_
          refine kcalll (wc := [(hb_, .inr (1, [.ref bo, .ref hz, .int (nI side), .int (nI kf), .int (nI tn), .ref r1, .ref r2, .ref r3, .ref r4])), (bo, .inr (2, [.ref hz, .ref h0])), (h0, .inr (3, [.int (nI side), .ref a1, .ref a2, .ref a3, .ref a4, .int (pI sm)])), (hz, .inr (5, [.ref t1, .ref t2, .ref t3, .ref t4, .int (nI cn)])), (t1, .inl (cI, 8, .inl (fun j => nI (th j)))), (t2, .inl (cI, 8, .inl (fun j => nI (wi j)))), (t3, .inl (cI, 8, .inl (fun j => nI (wo j)))), (t4, .inl (cI, 8, .inl (fun j => nI (wn j)))), (a3, .inl (cI, ((side + 1) * (side + 1)), .inl (fun j => nI (F3 j)))), (a4, .inl (cI, ((side + 1) * (side + 1)), .inl (fun j => nI (F4 j)))), (r3, .inl (cJ, (side + 1), .inr (.inl (fun j => lI (RC j))))), (r4, .inl (cI, side, .inl (fun j => iI (SC j))))]) (wr := [(r1, .inl (cJ, (side + 1), .inr (.inl (fun j => lI (RR j))))), (r2, .inl (cI, side, .inl (fun j => nI (TR j))))]) [0, 1, 2, 3, 4, 5, 6, 7, 8, 9, 12, 13] [10, 11] (va_runV (As := [.int (nI row), .int (nI (k + 1))]) (rest := []) ⟨hx, hb, hml, hown, hts⟩ (c_planSlab l D cI cJ cZ H.size hb_ bo hz side kf tn r1 r2 r3 r4 h0 a1 a2 a3 a4 sm t1 t2 t3 t4 cn th wi wo wn F3 F4 fb fl RC SC row (k + 1) s1 s2 k4 tn1 n8 ht hw hw1 ho hn m3 m4 hfb hfl (by omega) (by omega) hC) ⟨callB_of 2 hts (gd kc_Be_planSlab) rfl rfl rfl (hts _ (List.mem_cons_of_mem _ k_6)) (hts _ (List.mem_cons_of_mem _ k_224)) (by decide +kernel) ⟨Nat.le_of_ble_eq_true rfl, Nat.le_of_ble_eq_true rfl⟩, hts _ (List.mem_cons_of_mem _ k_226), hts _ (List.mem_cons_of_mem _ ks_2)⟩ ⟨kB_blind, va_recv hK hP (ci := 1) (q0 := 0) rfl rfl, kB_at hP hD hK hZ [0, 1, 2, 3, 4, 5, 6, 7, 8, 9, 12, 13] rfl (by decide) rfl⟩ rfl rfl hl.1 rfl (lv_room (Nat.le_of_ble_eq_true rfl)) d_Be_planRow_42 ⟨Nat.zero_le _, Nat.zero_le _⟩) hP hD hS hA rfl rfl (by decide) (by decide) (fun r_42 u H locs hw_42 hP hD hS => ?_)
          have hP : va_P D vwCl [(r1, .inl (cJ, (side + 1), .inr (.inl (fun j => lI (RR j))))), (r2, .inl (cI, side, .inl (fun j => nI (TR j)))), (hb_, .inr (1, [.ref bo, .ref hz, .int (nI side), .int (nI kf), .int (nI tn), .ref r1, .ref r2, .ref r3, .ref r4])), (bo, .inr (2, [.ref hz, .ref h0])), (h0, .inr (3, [.int (nI side), .ref a1, .ref a2, .ref a3, .ref a4, .int (pI sm)])), (hz, .inr (5, [.ref t1, .ref t2, .ref t3, .ref t4, .int (nI cn)])), (t1, .inl (cI, 8, .inl (fun j => nI (th j)))), (t2, .inl (cI, 8, .inl (fun j => nI (wi j)))), (t3, .inl (cI, 8, .inl (fun j => nI (wo j)))), (t4, .inl (cI, 8, .inl (fun j => nI (wn j)))), (a3, .inl (cI, ((side + 1) * (side + 1)), .inl (fun j => nI (F3 j)))), (a4, .inl (cI, ((side + 1) * (side + 1)), .inl (fun j => nI (F4 j)))), (r3, .inl (cJ, (side + 1), .inr (.inl (fun j => lI (u.1 j))))), (r4, .inl (cI, side, .inl (fun j => iI (u.2 j))))] H := hP
          have hD : va_D A [(r1, .inl (cJ, (side + 1), .inr (.inl (fun j => lI (RR j))))), (r2, .inl (cI, side, .inl (fun j => nI (TR j)))), (hb_, .inr (1, [.ref bo, .ref hz, .int (nI side), .int (nI kf), .int (nI tn), .ref r1, .ref r2, .ref r3, .ref r4])), (bo, .inr (2, [.ref hz, .ref h0])), (h0, .inr (3, [.int (nI side), .ref a1, .ref a2, .ref a3, .ref a4, .int (pI sm)])), (hz, .inr (5, [.ref t1, .ref t2, .ref t3, .ref t4, .int (nI cn)])), (t1, .inl (cI, 8, .inl (fun j => nI (th j)))), (t2, .inl (cI, 8, .inl (fun j => nI (wi j)))), (t3, .inl (cI, 8, .inl (fun j => nI (wo j)))), (t4, .inl (cI, 8, .inl (fun j => nI (wn j)))), (a3, .inl (cI, ((side + 1) * (side + 1)), .inl (fun j => nI (F3 j)))), (a4, .inl (cI, ((side + 1) * (side + 1)), .inl (fun j => nI (F4 j)))), (r3, .inl (cJ, (side + 1), .inr (.inl (fun j => lI (u.1 j))))), (r4, .inl (cI, side, .inl (fun j => iI (u.2 j))))] := hD
          obtain ⟨hr_, hu1, hu2⟩ := hw_42
          subst hr_
          refine lv_goto (tgt := 49) hx hb d_Be_planRow_45 (by decide) ?_
          refine ka_l (y := lI ((sbR side kf th wi (okC side fb th wi wn tn row) (vaC side fl th wi wo tn row) cn) (k + 1))) (congrArg lI (by unfold sbR; rw [cif_t ch])) ?_
          refine lv_lstore (lv' := [(6, .long (lI ((sbR side kf th wi (okC side fb th wi wn tn row) (vaC side fl th wi wo tn row) cn) (k + 1)))), (5, .int (nI (k + 1))), (4, .int (nI b2)), (2, .long (lI b1)), (0, .ref hb_), (1, .int (nI row))]) hx hb d_Be_planRow_49 hl (by decide) rfl (fun ls hl => ?_)
          refine lv_lload hx hb d_Be_planRow_51 (lv_at hl 0 rfl) ?_
          refine lv_aload_n hx hb d_Be_planRow_53 rfl (lv_at hl 4 rfl) ?_
          refine va_get (D := D) (ci := 1) (v := .ref r1) (C := R_Be) (T := T_Be) (N := 9) hx hb hts (fun w h => List.mem_cons_of_mem _ (iw_Be w h)) hown hK hP 2 rfl rfl 5 (by decide) (hts _ (List.mem_cons_of_mem _ k_112)) (fun _ h9 => h9) rfl d_Be_planRow_54 ?_
          refine lv_aload_n hx hb d_Be_planRow_57 rfl (lv_at hl 4 rfl) ?_
          refine va_get (D := D) (ci := 1) (v := .int (nI side)) (C := R_Be) (T := T_Be) (N := 9) hx hb hts (fun w h => List.mem_cons_of_mem _ (iw_Be w h)) hown hK hP 2 rfl rfl 2 (by decide) (hts _ (List.mem_cons_of_mem _ k_109)) (fun _ h9 => h9) rfl d_Be_planRow_58 ?_
          refine lv_iload_n hx hb d_Be_planRow_61 rfl (lv_at hl 5 rfl) ?_
          refine lv_iload hx hb d_Be_planRow_62 (lv_at hl 1 rfl) ?_
          refine lv_iadd hx hb d_Be_planRow_64 ?_
          refine ka_i (y := nI (row + (k + 1))) (nI_add _ _) ?_
          refine lv_aload_n hx hb d_Be_planRow_65 rfl (lv_at hl 4 rfl) ?_
          refine va_get (D := D) (ci := 1) (v := .int (nI kf)) (C := R_Be) (T := T_Be) (N := 9) hx hb hts (fun w h => List.mem_cons_of_mem _ (iw_Be w h)) hown hK hP 2 rfl rfl 3 (by decide) (hts _ (List.mem_cons_of_mem _ k_110)) (fun _ h9 => h9) rfl d_Be_planRow_66 ?_
          refine lv_iadd hx hb d_Be_planRow_69 ?_
          refine ka_i (y := nI ((row + (k + 1)) + kf)) (nI_add _ _) ?_
          refine va_mmin hx hb (hml.trans hl.1.symm) hown (hts _ (List.mem_cons_of_mem _ k_262)) (hts _ (List.mem_cons_of_mem _ k_24)) (hts _ (List.mem_cons_of_mem _ k_2)) (hts _ (List.mem_cons_of_mem _ k_25)) (Nat.le_of_ble_eq_true rfl) (Nat.le_of_ble_eq_true rfl) (Nat.zero_le _) (Nat.zero_le _) d_Be_planRow_70 ?_
          refine ka_i (y := iI (min ((side : Nat) : Int) (((row + (k + 1)) + kf : Nat) : Int))) (mmin32 (nI_t (by omega)) (nI_t (by omega))) ?_
          refine ka_lald (k := (min side (row + (k + 1) + kf))) (n := (side + 1)) (f := fun j => lI (RR j)) ((iI_t (by omega) (by omega)).trans (by omega)) (by omega) hx hb hK hP 0 1 rfl rfl d_Be_planRow_73 ?_
          refine lv_ladd hx hb d_Be_planRow_74 ?_
          refine ka_l (y := lI (((sbR side kf th wi (okC side fb th wi wn tn row) (vaC side fl th wi wo tn row) cn) (k + 1)) + (RR (min side (row + (k + 1) + kf))))) (lI_add _ _) ?_
          refine lv_lstore (lv' := [(8, .long (lI (((sbR side kf th wi (okC side fb th wi wn tn row) (vaC side fl th wi wo tn row) cn) (k + 1)) + (RR (min side (row + (k + 1) + kf)))))), (6, .long (lI ((sbR side kf th wi (okC side fb th wi wn tn row) (vaC side fl th wi wo tn row) cn) (k + 1)))), (5, .int (nI (k + 1))), (4, .int (nI b2)), (2, .long (lI b1)), (0, .ref hb_), (1, .int (nI row))]) hx hb d_Be_planRow_75 hl (by decide) rfl (fun ls hl => ?_)
          refine lv_lload hx hb d_Be_planRow_77 (lv_at hl 1 rfl) ?_
          refine lv_lconst (v := lI 0) hx hb d_Be_planRow_79 (by decide +kernel) ?_
          refine ka_lcmp (lI_t (by omega) (by omega)) (lI_t (by omega) (by omega)) hx hb d_Be_planRow_80 ?_
          refine kb_le (tgt := 110) (cmpI_b _ _) hx hb d_Be_planRow_81 (by decide) (fun g0 => ?_) (fun g0 => ?_)
          · have l0 := cmpI_le.mp g0
            refine lv_iinc (v := nI (k + 1 + 1)) (lv' := [(5, .int (nI (k + 1 + 1))), (8, .long (lI (((sbR side kf th wi (okC side fb th wi wn tn row) (vaC side fl th wi wo tn row) cn) (k + 1)) + (RR (min side (row + (k + 1) + kf)))))), (6, .long (lI ((sbR side kf th wi (okC side fb th wi wn tn row) (vaC side fl th wi wo tn row) cn) (k + 1)))), (4, .int (nI b2)), (2, .long (lI b1)), (0, .ref hb_), (1, .int (nI row))]) hx hb d_Be_planRow_110 hl (k := 2) rfl (nI_add _ 1) (by decide) rfl (fun ls hl => ?_)
            refine lv_goto (tgt := 15) hx hb d_Be_planRow_113 (by decide) ?_
            exact ih (k + 1) b1 b2 u.1 u.2 (by omega) (by rw [es]; unfold rowStep; rw [cif_f (fun h => by have h9 := h.1; omega)]) (by rw [es]; unfold rowStep; rw [cif_f (fun h => by have h9 := h.1; omega)]) (by
                rw [hu1 side (Nat.le_refl _)]
                have h9 := slabT_bd (kf := kf) (thick := k + 1) (th := th) (wi := wi) (ok := (okC side fb th wi wn tn row)) (va := (vaC side fl th wi wo tn row)) (cn := cn) (RC := fun _ => 0) (SC := fun _ => 0) (side := side) rfl hw1 (fun c_ i hi => vaC_bd (ho i (by omega))) side (Nat.le_refl _) side (by omega) (Nat.le_refl _)
                unfold slab0
                omega) _ _ (hP.sub [2, 3, 4, 5, 6, 7, 8, 9, 10, 11, 0, 1, 12, 13] rfl) (hD.sub [2, 3, 4, 5, 6, 7, 8, 9, 10, 11, 0, 1, 12, 13] (by decide) rfl) hS ls (lv_sub hl [0, 3, 4, 5, 6] rfl)
          · have l0 := cmpI_gt.mp g0
            refine lv_lload hx hb d_Be_planRow_84 (lv_at hl 0 rfl) ?_
            refine lv_lload_n hx hb d_Be_planRow_86 rfl (lv_at hl 4 rfl) ?_
            refine ka_lcmp (lI_t (by omega) (by omega)) (lI_t (by omega) (by omega)) hx hb d_Be_planRow_87 ?_
            refine kb_gt (tgt := 103) (cmpI_b _ _) hx hb d_Be_planRow_88 (by decide) (fun g1 => ?_) (fun g1 => ?_)
            · have l1 := cmpI_gt.mp g1
              refine lv_lload hx hb d_Be_planRow_103 (lv_at hl 0 rfl) ?_
              refine lv_lstore_n (lv' := [(2, .long (lI (((sbR side kf th wi (okC side fb th wi wn tn row) (vaC side fl th wi wo tn row) cn) (k + 1)) + (RR (min side (row + (k + 1) + kf)))))), (8, .long (lI (((sbR side kf th wi (okC side fb th wi wn tn row) (vaC side fl th wi wo tn row) cn) (k + 1)) + (RR (min side (row + (k + 1) + kf)))))), (6, .long (lI ((sbR side kf th wi (okC side fb th wi wn tn row) (vaC side fl th wi wo tn row) cn) (k + 1)))), (5, .int (nI (k + 1))), (4, .int (nI b2)), (0, .ref hb_), (1, .int (nI row))]) hx hb d_Be_planRow_105 rfl hl (by decide) rfl (fun ls hl => ?_)
              refine lv_iload hx hb d_Be_planRow_106 (lv_at hl 3 rfl) ?_
              refine lv_istore (lv' := [(4, .int (nI (k + 1))), (2, .long (lI (((sbR side kf th wi (okC side fb th wi wn tn row) (vaC side fl th wi wo tn row) cn) (k + 1)) + (RR (min side (row + (k + 1) + kf)))))), (8, .long (lI (((sbR side kf th wi (okC side fb th wi wn tn row) (vaC side fl th wi wo tn row) cn) (k + 1)) + (RR (min side (row + (k + 1) + kf)))))), (6, .long (lI ((sbR side kf th wi (okC side fb th wi wn tn row) (vaC side fl th wi wo tn row) cn) (k + 1)))), (5, .int (nI (k + 1))), (0, .ref hb_), (1, .int (nI row))]) hx hb d_Be_planRow_108 hl (by decide) rfl (fun ls hl => ?_)
              refine lv_iinc (v := nI (k + 1 + 1)) (lv' := [(5, .int (nI (k + 1 + 1))), (4, .int (nI (k + 1))), (2, .long (lI (((sbR side kf th wi (okC side fb th wi wn tn row) (vaC side fl th wi wo tn row) cn) (k + 1)) + (RR (min side (row + (k + 1) + kf)))))), (8, .long (lI (((sbR side kf th wi (okC side fb th wi wn tn row) (vaC side fl th wi wo tn row) cn) (k + 1)) + (RR (min side (row + (k + 1) + kf)))))), (6, .long (lI ((sbR side kf th wi (okC side fb th wi wn tn row) (vaC side fl th wi wo tn row) cn) (k + 1)))), (0, .ref hb_), (1, .int (nI row))]) hx hb d_Be_planRow_110 hl (k := 4) rfl (nI_add _ 1) (by decide) rfl (fun ls hl => ?_)
              refine lv_goto (tgt := 15) hx hb d_Be_planRow_113 (by decide) ?_
              exact ih (k + 1) ((sbR side kf th wi (okC side fb th wi wn tn row) (vaC side fl th wi wo tn row) cn) (k + 1) + RR (min side (row + (k + 1) + kf))) (k + 1) u.1 u.2 (by omega) (by rw [es]; unfold rowStep; rw [cif_t (⟨l0, Or.inl l1⟩)]) (by rw [es]; unfold rowStep; rw [cif_t (⟨l0, Or.inl l1⟩)]) (by
                  rw [hu1 side (Nat.le_refl _)]
                  have h9 := slabT_bd (kf := kf) (thick := k + 1) (th := th) (wi := wi) (ok := (okC side fb th wi wn tn row)) (va := (vaC side fl th wi wo tn row)) (cn := cn) (RC := fun _ => 0) (SC := fun _ => 0) (side := side) rfl hw1 (fun c_ i hi => vaC_bd (ho i (by omega))) side (Nat.le_refl _) side (by omega) (Nat.le_refl _)
                  unfold slab0
                  omega) _ _ (hP.sub [2, 3, 4, 5, 6, 7, 8, 9, 10, 11, 0, 1, 12, 13] rfl) (hD.sub [2, 3, 4, 5, 6, 7, 8, 9, 10, 11, 0, 1, 12, 13] (by decide) rfl) hS ls (lv_sub hl [0, 1, 2, 5, 6] rfl)
            · have l1 := cmpI_le.mp g1
              refine lv_lload hx hb d_Be_planRow_91 (lv_at hl 0 rfl) ?_
              refine lv_lload_n hx hb d_Be_planRow_93 rfl (lv_at hl 4 rfl) ?_
              refine ka_lcmp (lI_t (by omega) (by omega)) (lI_t (by omega) (by omega)) hx hb d_Be_planRow_94 ?_
              refine kb_ne (tgt := 110) (cmpI_b _ _) hx hb d_Be_planRow_95 (by decide) (fun g2 => ?_) (fun g2 => ?_)
              · have l2 := (not_congr cmpI_eq).mp g2
                refine lv_iinc (v := nI (k + 1 + 1)) (lv' := [(5, .int (nI (k + 1 + 1))), (8, .long (lI (((sbR side kf th wi (okC side fb th wi wn tn row) (vaC side fl th wi wo tn row) cn) (k + 1)) + (RR (min side (row + (k + 1) + kf)))))), (6, .long (lI ((sbR side kf th wi (okC side fb th wi wn tn row) (vaC side fl th wi wo tn row) cn) (k + 1)))), (4, .int (nI b2)), (2, .long (lI b1)), (0, .ref hb_), (1, .int (nI row))]) hx hb d_Be_planRow_110 hl (k := 2) rfl (nI_add _ 1) (by decide) rfl (fun ls hl => ?_)
                refine lv_goto (tgt := 15) hx hb d_Be_planRow_113 (by decide) ?_
                exact ih (k + 1) b1 b2 u.1 u.2 (by omega) (by rw [es]; unfold rowStep; rw [cif_f (fun h => by
                    rcases h.2 with h9 | h9
                    · have h9 : b1 < _ := h9
                      omega
                    · exact l2 h9.1)]) (by rw [es]; unfold rowStep; rw [cif_f (fun h => by
                    rcases h.2 with h9 | h9
                    · have h9 : b1 < _ := h9
                      omega
                    · exact l2 h9.1)]) (by
                    rw [hu1 side (Nat.le_refl _)]
                    have h9 := slabT_bd (kf := kf) (thick := k + 1) (th := th) (wi := wi) (ok := (okC side fb th wi wn tn row)) (va := (vaC side fl th wi wo tn row)) (cn := cn) (RC := fun _ => 0) (SC := fun _ => 0) (side := side) rfl hw1 (fun c_ i hi => vaC_bd (ho i (by omega))) side (Nat.le_refl _) side (by omega) (Nat.le_refl _)
                    unfold slab0
                    omega) _ _ (hP.sub [2, 3, 4, 5, 6, 7, 8, 9, 10, 11, 0, 1, 12, 13] rfl) (hD.sub [2, 3, 4, 5, 6, 7, 8, 9, 10, 11, 0, 1, 12, 13] (by decide) rfl) hS ls (lv_sub hl [0, 3, 4, 5, 6] rfl)
              · have l2 := cmpI_eq.mp g2
                refine lv_iload hx hb d_Be_planRow_98 (lv_at hl 3 rfl) ?_
                refine kb_ne (tgt := 110) (nI_t (by omega)) hx hb d_Be_planRow_100 (by decide) (fun g3 => ?_) (fun g3 => ?_)
                · refine lv_iinc (v := nI (k + 1 + 1)) (lv' := [(5, .int (nI (k + 1 + 1))), (8, .long (lI (((sbR side kf th wi (okC side fb th wi wn tn row) (vaC side fl th wi wo tn row) cn) (k + 1)) + (RR (min side (row + (k + 1) + kf)))))), (6, .long (lI ((sbR side kf th wi (okC side fb th wi wn tn row) (vaC side fl th wi wo tn row) cn) (k + 1)))), (4, .int (nI b2)), (2, .long (lI b1)), (0, .ref hb_), (1, .int (nI row))]) hx hb d_Be_planRow_110 hl (k := 2) rfl (nI_add _ 1) (by decide) rfl (fun ls hl => ?_)
                  refine lv_goto (tgt := 15) hx hb d_Be_planRow_113 (by decide) ?_
                  exact ih (k + 1) b1 b2 u.1 u.2 (by omega) (by rw [es]; unfold rowStep; rw [cif_f (fun h => by
                      rcases h.2 with h9 | h9
                      · have h9 : b1 < _ := h9
                        omega
                      · have h9 : b2 = 0 := h9.2
                        omega)]) (by rw [es]; unfold rowStep; rw [cif_f (fun h => by
                      rcases h.2 with h9 | h9
                      · have h9 : b1 < _ := h9
                        omega
                      · have h9 : b2 = 0 := h9.2
                        omega)]) (by
                      rw [hu1 side (Nat.le_refl _)]
                      have h9 := slabT_bd (kf := kf) (thick := k + 1) (th := th) (wi := wi) (ok := (okC side fb th wi wn tn row)) (va := (vaC side fl th wi wo tn row)) (cn := cn) (RC := fun _ => 0) (SC := fun _ => 0) (side := side) rfl hw1 (fun c_ i hi => vaC_bd (ho i (by omega))) side (Nat.le_refl _) side (by omega) (Nat.le_refl _)
                      unfold slab0
                      omega) _ _ (hP.sub [2, 3, 4, 5, 6, 7, 8, 9, 10, 11, 0, 1, 12, 13] rfl) (hD.sub [2, 3, 4, 5, 6, 7, 8, 9, 10, 11, 0, 1, 12, 13] (by decide) rfl) hS ls (lv_sub hl [0, 3, 4, 5, 6] rfl)
                · refine lv_lload hx hb d_Be_planRow_103 (lv_at hl 0 rfl) ?_
                  refine lv_lstore_n (lv' := [(2, .long (lI (((sbR side kf th wi (okC side fb th wi wn tn row) (vaC side fl th wi wo tn row) cn) (k + 1)) + (RR (min side (row + (k + 1) + kf)))))), (8, .long (lI (((sbR side kf th wi (okC side fb th wi wn tn row) (vaC side fl th wi wo tn row) cn) (k + 1)) + (RR (min side (row + (k + 1) + kf)))))), (6, .long (lI ((sbR side kf th wi (okC side fb th wi wn tn row) (vaC side fl th wi wo tn row) cn) (k + 1)))), (5, .int (nI (k + 1))), (4, .int (nI b2)), (0, .ref hb_), (1, .int (nI row))]) hx hb d_Be_planRow_105 rfl hl (by decide) rfl (fun ls hl => ?_)
                  refine lv_iload hx hb d_Be_planRow_106 (lv_at hl 3 rfl) ?_
                  refine lv_istore (lv' := [(4, .int (nI (k + 1))), (2, .long (lI (((sbR side kf th wi (okC side fb th wi wn tn row) (vaC side fl th wi wo tn row) cn) (k + 1)) + (RR (min side (row + (k + 1) + kf)))))), (8, .long (lI (((sbR side kf th wi (okC side fb th wi wn tn row) (vaC side fl th wi wo tn row) cn) (k + 1)) + (RR (min side (row + (k + 1) + kf)))))), (6, .long (lI ((sbR side kf th wi (okC side fb th wi wn tn row) (vaC side fl th wi wo tn row) cn) (k + 1)))), (5, .int (nI (k + 1))), (0, .ref hb_), (1, .int (nI row))]) hx hb d_Be_planRow_108 hl (by decide) rfl (fun ls hl => ?_)
                  refine lv_iinc (v := nI (k + 1 + 1)) (lv' := [(5, .int (nI (k + 1 + 1))), (4, .int (nI (k + 1))), (2, .long (lI (((sbR side kf th wi (okC side fb th wi wn tn row) (vaC side fl th wi wo tn row) cn) (k + 1)) + (RR (min side (row + (k + 1) + kf)))))), (8, .long (lI (((sbR side kf th wi (okC side fb th wi wn tn row) (vaC side fl th wi wo tn row) cn) (k + 1)) + (RR (min side (row + (k + 1) + kf)))))), (6, .long (lI ((sbR side kf th wi (okC side fb th wi wn tn row) (vaC side fl th wi wo tn row) cn) (k + 1)))), (0, .ref hb_), (1, .int (nI row))]) hx hb d_Be_planRow_110 hl (k := 4) rfl (nI_add _ 1) (by decide) rfl (fun ls hl => ?_)
                  refine lv_goto (tgt := 15) hx hb d_Be_planRow_113 (by decide) ?_
                  exact ih (k + 1) ((sbR side kf th wi (okC side fb th wi wn tn row) (vaC side fl th wi wo tn row) cn) (k + 1) + RR (min side (row + (k + 1) + kf))) (k + 1) u.1 u.2 (by omega) (by rw [es]; unfold rowStep; rw [cif_t (⟨l0, Or.inr ⟨l2, by omega⟩⟩)]) (by rw [es]; unfold rowStep; rw [cif_t (⟨l0, Or.inr ⟨l2, by omega⟩⟩)]) (by
                      rw [hu1 side (Nat.le_refl _)]
                      have h9 := slabT_bd (kf := kf) (thick := k + 1) (th := th) (wi := wi) (ok := (okC side fb th wi wn tn row)) (va := (vaC side fl th wi wo tn row)) (cn := cn) (RC := fun _ => 0) (SC := fun _ => 0) (side := side) rfl hw1 (fun c_ i hi => vaC_bd (ho i (by omega))) side (Nat.le_refl _) side (by omega) (Nat.le_refl _)
                      unfold slab0
                      omega) _ _ (hP.sub [2, 3, 4, 5, 6, 7, 8, 9, 10, 11, 0, 1, 12, 13] rfl) (hD.sub [2, 3, 4, 5, 6, 7, 8, 9, 10, 11, 0, 1, 12, 13] (by decide) rfl) hS ls (lv_sub hl [0, 1, 2, 5, 6] rfl)
  exact lp (side - row) 0 (RR (row + 1)) 0 RC SC (by omega) rfl rfl hR0 _ _ hP hD hS ls (lv_sub hl [0, 1, 2, 3, 4] rfl)
