theorem d_Be_planSlab_0 : decode b_Be_planSlab 0 = .ok (.aload_n 0, 1) := by decide +kernel
theorem d_Be_planSlab_1 : decode b_Be_planSlab 1 = .ok (.getfield 22, 3) := by decide +kernel
theorem d_Be_planSlab_4 : decode b_Be_planSlab 4 = .ok (.iconst 1, 1) := by decide +kernel
theorem d_Be_planSlab_5 : decode b_Be_planSlab 5 = .ok (.isub, 1) := by decide +kernel
theorem d_Be_planSlab_6 : decode b_Be_planSlab 6 = .ok (.istore_n 3, 1) := by decide +kernel
theorem d_Be_planSlab_7 : decode b_Be_planSlab 7 = .ok (.iload_n 3, 1) := by decide +kernel
theorem d_Be_planSlab_8 : decode b_Be_planSlab 8 = .ok (.ifCond .lt 16, 3) := by decide +kernel
theorem d_Be_planSlab_11 : decode b_Be_planSlab 11 = .ok (.aload_n 0, 1) := by decide +kernel
theorem d_Be_planSlab_12 : decode b_Be_planSlab 12 = .ok (.iload_n 1, 1) := by decide +kernel
theorem d_Be_planSlab_13 : decode b_Be_planSlab 13 = .ok (.iload_n 3, 1) := by decide +kernel
theorem d_Be_planSlab_14 : decode b_Be_planSlab 14 = .ok (.iload_n 2, 1) := by decide +kernel
theorem d_Be_planSlab_15 : decode b_Be_planSlab 15 = .ok (.invokevirtual 68, 3) := by decide +kernel
theorem d_Be_planSlab_18 : decode b_Be_planSlab 18 = .ok (.iinc 3 (-1), 3) := by decide +kernel
theorem d_Be_planSlab_21 : decode b_Be_planSlab 21 = .ok (.goto (-14), 3) := by decide +kernel
theorem d_Be_planSlab_24 : decode b_Be_planSlab 24 = .ok (.aload_n 0, 1) := by decide +kernel
theorem d_Be_planSlab_25 : decode b_Be_planSlab 25 = .ok (.getfield 37, 3) := by decide +kernel
theorem d_Be_planSlab_28 : decode b_Be_planSlab 28 = .ok (.iconst 0, 1) := by decide +kernel
theorem d_Be_planSlab_29 : decode b_Be_planSlab 29 = .ok (.laload, 1) := by decide +kernel
theorem d_Be_planSlab_30 : decode b_Be_planSlab 30 = .ok (.lreturn, 1) := by decide +kernel
theorem colFold_congr {RC RC' : Nat → Int} {side kf col thick : Nat} {th wi : Nat → Nat} {ok : Nat → Prop} {va : Nat → Int} (hc : col < side) (h : ∀ j, col < j → j ≤ side → RC j = RC' j) : ∀ (k : Nat), (∀ i, i < k → 1 ≤ wi i) → colFold RC side kf col thick th wi ok va k = colFold RC' side kf col thick th wi ok va k := by
  intro k
  induction k with
  | zero => intro _; show (RC (col + 1), (-1 : Int)) = (RC' (col + 1), -1); rw [h _ (by omega) (by omega)]
  | succ k ih =>
    intro hw
    have e := ih (fun i hi => hw i (by omega))
    have h1 := hw k (by omega)
    have er : rkC RC side kf col wi va k = rkC RC' side kf col wi va k := by unfold rkC; rw [h _ (by omega) (by omega)]
    show colStep RC side kf col thick th wi ok va k _ = colStep RC' side kf col thick th wi ok va k _
    rw [e]
    unfold colStep
    rw [er]
/-- a slab's tables, d columns from the right on -/
noncomputable def slabT (side kf thick : Nat) (th wi : Nat → Nat) (ok : Nat → Nat → Prop) (va : Nat → Nat → Int) (cn : Nat) (RC SC : Nat → Int) : Nat → (Nat → Int) × (Nat → Int)
  | 0 => (RC, SC)
  | d + 1 => (va_up (slabT side kf thick th wi ok va cn RC SC d).1 (side - 1 - d) (colFold (slabT side kf thick th wi ok va cn RC SC d).1 side kf (side - 1 - d) thick th wi (ok (side - 1 - d)) (va (side - 1 - d)) cn).1,
      va_up (slabT side kf thick th wi ok va cn RC SC d).2 (side - 1 - d) (colFold (slabT side kf thick th wi ok va cn RC SC d).1 side kf (side - 1 - d) thick th wi (ok (side - 1 - d)) (va (side - 1 - d)) cn).2)
theorem slabT_bd {side kf thick : Nat} {th wi : Nat → Nat} {ok : Nat → Nat → Prop} {va : Nat → Nat → Int} {cn : Nat} {RC SC : Nat → Int} (h0 : RC side = 0) (hw : ∀ i, i < cn → 1 ≤ wi i) (hv : ∀ c i, i < cn → 0 ≤ va c i ∧ va c i ≤ 100001) : ∀ (d : Nat), d ≤ side → ∀ j, side - d ≤ j → j ≤ side → 0 ≤ (slabT side kf thick th wi ok va cn RC SC d).1 j ∧ (slabT side kf thick th wi ok va cn RC SC d).1 j ≤ 100001000 * ((side - j : Nat) : Int) := by
  intro d
  induction d with
  | zero =>
    intro _ j h1 h2
    have e : j = side := by omega
    subst e
    show 0 ≤ RC j ∧ RC j ≤ _
    rw [h0]
    omega
  | succ d ih =>
    intro hd j h1 h2
    show 0 ≤ va_up _ (side - 1 - d) _ j ∧ va_up _ (side - 1 - d) _ j ≤ _
    by_cases e : j = side - 1 - d
    · rw [e, va_up_self]
      have k := colFold_bd (RC := (slabT side kf thick th wi ok va cn RC SC d).1) (side := side) (kf := kf) (col := side - 1 - d) (thick := thick) (th := th) (wi := wi) (ok := ok (side - 1 - d)) (va := va (side - 1 - d)) (by omega) (fun j h3 h4 => ih (by omega) j (by omega) h4) cn (fun i hi => ⟨hw i hi, hv _ i hi⟩)
      exact ⟨k.1, k.2.1⟩
    · rw [va_up_ne _ _ e]
      exact ih (by omega) j (by omega) h2
theorem slabT_same {side kf thick : Nat} {th wi : Nat → Nat} {ok : Nat → Nat → Prop} {va : Nat → Nat → Int} {cn : Nat} {RC SC RC' SC' : Nat → Int} (h0 : RC side = RC' side) (hw : ∀ i, i < cn → 1 ≤ wi i) : ∀ (d : Nat), d ≤ side → (∀ j, side - d ≤ j → j ≤ side → (slabT side kf thick th wi ok va cn RC SC d).1 j = (slabT side kf thick th wi ok va cn RC' SC' d).1 j) ∧ ∀ j, side - d ≤ j → j < side → (slabT side kf thick th wi ok va cn RC SC d).2 j = (slabT side kf thick th wi ok va cn RC' SC' d).2 j := by
  intro d
  induction d with
  | zero =>
    intro _
    refine ⟨fun j h1 h2 => ?_, fun j h1 h2 => absurd h2 (by omega)⟩
    have e : j = side := by omega
    subst e
    exact h0
  | succ d ih =>
    intro hd
    obtain ⟨i1, i2⟩ := ih (by omega)
    have ec := colFold_congr (kf := kf) (thick := thick) (th := th) (ok := ok (side - 1 - d)) (va := va (side - 1 - d)) (show side - 1 - d < side by omega) (fun j h3 h4 => i1 j (by omega) h4) cn hw
    refine ⟨fun j h1 h2 => ?_, fun j h1 h2 => ?_⟩
    · show va_up _ (side - 1 - d) _ j = va_up _ (side - 1 - d) _ j
      by_cases e : j = side - 1 - d
      · rw [e, va_up_self, va_up_self, ec]
      · rw [va_up_ne _ _ e, va_up_ne _ _ e]
        exact i1 j (by omega) h2
    · show va_up _ (side - 1 - d) _ j = va_up _ (side - 1 - d) _ j
      by_cases e : j = side - 1 - d
      · rw [e, va_up_self, va_up_self, ec]
      · rw [va_up_ne _ _ e, va_up_ne _ _ e]
        exact i2 j (by omega) h2
/-- a slab's best, as a table of its own -/
noncomputable def slab0 (side kf thick : Nat) (th wi : Nat → Nat) (ok : Nat → Nat → Prop) (va : Nat → Nat → Int) (cn : Nat) : (Nat → Int) × (Nat → Int) := slabT side kf thick th wi ok va cn (fun _ => 0) (fun _ => 0) side
set_option maxHeartbeats 4000000 in
set_option maxRecDepth 100000 in
theorem c_planSlab (l : Launch) (D : va_G) (cI cJ cZ : ClassId) (sz : Nat) (hb_ : Nat) (bo : Nat) (hz : Nat) (side : Nat) (kf : Nat) (tn : Nat) (r1 : Nat) (r2 : Nat) (r3 : Nat) (r4 : Nat) (h0 : Nat) (a1 : Nat) (a2 : Nat) (a3 : Nat) (a4 : Nat) (sm : Prop) (t1 : Nat) (t2 : Nat) (t3 : Nat) (t4 : Nat) (cn : Nat) (th : Nat → Nat) (wi : Nat → Nat) (wo : Nat → Nat) (wn : Nat → Nat) (F3 : Nat → Nat) (F4 : Nat → Nat) (fb : Nat → Nat → Nat) (fl : Nat → Nat → Nat) (RC : Nat → Int) (SC : Nat → Int) (row : Nat) (thick : Nat) (s1 : 1 ≤ side) (s2 : side ≤ 20) (k4 : kf ≤ 4) (tn1 : tn ≤ 1) (n8 : cn ≤ 8) (ht : ∀ k, k < 8 → th k ≤ 20) (hw : ∀ k, k < 8 → wi k ≤ 20) (hw1 : ∀ k, k < cn → 1 ≤ wi k) (ho : ∀ k, k < 8 → wo k ≤ 100000) (hn : ∀ k, k < 8 → wn k ≤ 400) (m3 : ∀ X Y, X ≤ side → Y ≤ side → F3 (Y * (side + 1) + X) = psm fb X Y) (m4 : ∀ X Y, X ≤ side → Y ≤ side → F4 (Y * (side + 1) + X) = psm fl X Y) (hfb : ∀ i j, i < side → j < side → fb i j ≤ 10000) (hfl : ∀ i j, i < side → j < side → fl i j ≤ 10000) (hrow : row < side) (hth : thick ≤ 20) (hR0 : RC side = 0) : Met l y_Be_planSlab w_Be_planSlab ({ frames := 3, cells := 0, slots := 0, locals := 81 }) (va_Pc [.ref hb_, .int (nI row), .int (nI thick)] (kB D vwCl (tyL cI cJ cZ) sz [(hb_, .inr (1, [.ref bo, .ref hz, .int (nI side), .int (nI kf), .int (nI tn), .ref r1, .ref r2, .ref r3, .ref r4])), (bo, .inr (2, [.ref hz, .ref h0])), (h0, .inr (3, [.int (nI side), .ref a1, .ref a2, .ref a3, .ref a4, .int (pI sm)])), (hz, .inr (5, [.ref t1, .ref t2, .ref t3, .ref t4, .int (nI cn)])), (t1, .inl (cI, 8, .inl (fun j => nI (th j)))), (t2, .inl (cI, 8, .inl (fun j => nI (wi j)))), (t3, .inl (cI, 8, .inl (fun j => nI (wo j)))), (t4, .inl (cI, 8, .inl (fun j => nI (wn j)))), (a3, .inl (cI, ((side + 1) * (side + 1)), .inl (fun j => nI (F3 j)))), (a4, .inl (cI, ((side + 1) * (side + 1)), .inl (fun j => nI (F4 j)))), (r3, .inl (cJ, (side + 1), .inr (.inl (fun j => lI (RC j))))), (r4, .inl (cI, side, .inl (fun j => iI (SC j))))])) (va_Ql (fun (r : Int64) (u : (Nat → Int) × (Nat → Int)) => r = lI ((slab0 side kf thick th wi (okC side fb th wi wn tn row) (vaC side fl th wi wo tn row) cn).1 0) ∧ (∀ j, j ≤ side → u.1 j = (slab0 side kf thick th wi (okC side fb th wi wn tn row) (vaC side fl th wi wo tn row) cn).1 j) ∧ ∀ j, j < side → u.2 j = (slab0 side kf thick th wi (okC side fb th wi wn tn row) (vaC side fl th wi wo tn row) cn).2 j) (fun (u : (Nat → Int) × (Nat → Int)) t => kE D vwCl (va_A [(hb_, .inr (1, [.ref bo, .ref hz, .int (nI side), .int (nI kf), .int (nI tn), .ref r1, .ref r2, .ref r3, .ref r4])), (bo, .inr (2, [.ref hz, .ref h0])), (h0, .inr (3, [.int (nI side), .ref a1, .ref a2, .ref a3, .ref a4, .int (pI sm)])), (hz, .inr (5, [.ref t1, .ref t2, .ref t3, .ref t4, .int (nI cn)])), (t1, .inl (cI, 8, .inl (fun j => nI (th j)))), (t2, .inl (cI, 8, .inl (fun j => nI (wi j)))), (t3, .inl (cI, 8, .inl (fun j => nI (wo j)))), (t4, .inl (cI, 8, .inl (fun j => nI (wn j)))), (a3, .inl (cI, ((side + 1) * (side + 1)), .inl (fun j => nI (F3 j)))), (a4, .inl (cI, ((side + 1) * (side + 1)), .inl (fun j => nI (F4 j)))), (r3, .inl (cJ, (side + 1), .inr (.inl (fun j => lI (RC j))))), (r4, .inl (cI, side, .inl (fun j => iI (SC j))))] sz) [(hb_, .inr (1, [.ref bo, .ref hz, .int (nI side), .int (nI kf), .int (nI tn), .ref r1, .ref r2, .ref r3, .ref r4])), (bo, .inr (2, [.ref hz, .ref h0])), (h0, .inr (3, [.int (nI side), .ref a1, .ref a2, .ref a3, .ref a4, .int (pI sm)])), (hz, .inr (5, [.ref t1, .ref t2, .ref t3, .ref t4, .int (nI cn)])), (t1, .inl (cI, 8, .inl (fun j => nI (th j)))), (t2, .inl (cI, 8, .inl (fun j => nI (wi j)))), (t3, .inl (cI, 8, .inl (fun j => nI (wo j)))), (t4, .inl (cI, 8, .inl (fun j => nI (wn j)))), (a3, .inl (cI, ((side + 1) * (side + 1)), .inl (fun j => nI (F3 j)))), (a4, .inl (cI, ((side + 1) * (side + 1)), .inl (fun j => nI (F4 j)))), (r3, .inl (cJ, (side + 1), .inr (.inl (fun j => lI (u.1 j))))), (r4, .inl (cI, side, .inl (fun j => iI (u.2 j))))] t) (va_A [(hb_, .inr (1, [.ref bo, .ref hz, .int (nI side), .int (nI kf), .int (nI tn), .ref r1, .ref r2, .ref r3, .ref r4])), (bo, .inr (2, [.ref hz, .ref h0])), (h0, .inr (3, [.int (nI side), .ref a1, .ref a2, .ref a3, .ref a4, .int (pI sm)])), (hz, .inr (5, [.ref t1, .ref t2, .ref t3, .ref t4, .int (nI cn)])), (t1, .inl (cI, 8, .inl (fun j => nI (th j)))), (t2, .inl (cI, 8, .inl (fun j => nI (wi j)))), (t3, .inl (cI, 8, .inl (fun j => nI (wo j)))), (t4, .inl (cI, 8, .inl (fun j => nI (wn j)))), (a3, .inl (cI, ((side + 1) * (side + 1)), .inl (fun j => nI (F3 j)))), (a4, .inl (cI, ((side + 1) * (side + 1)), .inl (fun j => nI (F4 j)))), (r3, .inl (cJ, (side + 1), .inr (.inl (fun j => lI (RC j))))), (r4, .inl (cI, side, .inl (fun j => iI (SC j))))] sz)) 0 0 (va_A [(hb_, .inr (1, [.ref bo, .ref hz, .int (nI side), .int (nI kf), .int (nI tn), .ref r1, .ref r2, .ref r3, .ref r4])), (bo, .inr (2, [.ref hz, .ref h0])), (h0, .inr (3, [.int (nI side), .ref a1, .ref a2, .ref a3, .ref a4, .int (pI sm)])), (hz, .inr (5, [.ref t1, .ref t2, .ref t3, .ref t4, .int (nI cn)])), (t1, .inl (cI, 8, .inl (fun j => nI (th j)))), (t2, .inl (cI, 8, .inl (fun j => nI (wi j)))), (t3, .inl (cI, 8, .inl (fun j => nI (wo j)))), (t4, .inl (cI, 8, .inl (fun j => nI (wn j)))), (a3, .inl (cI, ((side + 1) * (side + 1)), .inl (fun j => nI (F3 j)))), (a4, .inl (cI, ((side + 1) * (side + 1)), .inl (fun j => nI (F4 j)))), (r3, .inl (cJ, (side + 1), .inr (.inl (fun j => lI (RC j))))), (r4, .inl (cI, side, .inl (fun j => iI (SC j))))] sz) := by
  refine Met.ofW (cc := b_Be_planSlab) (maxL := 4) (ret := (some (.long))) (by decide) rfl ?_
  intro p e s m args below meth c s₁ B hml hv
  obtain ⟨rfl, hsz, hP, hK, hD0, hZ⟩ := hv
  have hx := B.exec
  have hb := B.bytes
  have hr := B.returns
  have hts := atoms_spec (ws := w_Be_planSlab) B.pre
  have hown : s.vm.findClass R_Be = some m.cls := findClass_of_methodNamed B.named
  have hlocks := B.notSynchronized
  subst hsz
  have hD := hD0.self (sz := s.heap.size)
  generalize hAe : va_A [(hb_, .inr (1, [.ref bo, .ref hz, .int (nI side), .int (nI kf), .int (nI tn), .ref r1, .ref r2, .ref r3, .ref r4])), (bo, .inr (2, [.ref hz, .ref h0])), (h0, .inr (3, [.int (nI side), .ref a1, .ref a2, .ref a3, .ref a4, .int (pI sm)])), (hz, .inr (5, [.ref t1, .ref t2, .ref t3, .ref t4, .int (nI cn)])), (t1, .inl (cI, 8, .inl (fun j => nI (th j)))), (t2, .inl (cI, 8, .inl (fun j => nI (wi j)))), (t3, .inl (cI, 8, .inl (fun j => nI (wo j)))), (t4, .inl (cI, 8, .inl (fun j => nI (wn j)))), (a3, .inl (cI, ((side + 1) * (side + 1)), .inl (fun j => nI (F3 j)))), (a4, .inl (cI, ((side + 1) * (side + 1)), .inl (fun j => nI (F4 j)))), (r3, .inl (cJ, (side + 1), .inr (.inl (fun j => lI (RC j))))), (r4, .inl (cI, side, .inl (fun j => iI (SC j))))] s.heap.size = A at hD ⊢
  have hA : ∀ q : Nat, s.heap.size ≤ q → A q := fun q h => by rw [← hAe]; exact Or.inr h
  have hS : va_S A s.heap s.heap [] := va_S.rf
  have hP : va_P D vwCl [(hb_, .inr (1, [.ref bo, .ref hz, .int (nI side), .int (nI kf), .int (nI tn), .ref r1, .ref r2, .ref r3, .ref r4])), (bo, .inr (2, [.ref hz, .ref h0])), (h0, .inr (3, [.int (nI side), .ref a1, .ref a2, .ref a3, .ref a4, .int (pI sm)])), (hz, .inr (5, [.ref t1, .ref t2, .ref t3, .ref t4, .int (nI cn)])), (t1, .inl (cI, 8, .inl (fun j => nI (th j)))), (t2, .inl (cI, 8, .inl (fun j => nI (wi j)))), (t3, .inl (cI, 8, .inl (fun j => nI (wo j)))), (t4, .inl (cI, 8, .inl (fun j => nI (wn j)))), (a3, .inl (cI, ((side + 1) * (side + 1)), .inl (fun j => nI (F3 j)))), (a4, .inl (cI, ((side + 1) * (side + 1)), .inl (fun j => nI (F4 j)))), (r3, .inl (cJ, (side + 1), .inr (.inl (fun j => lI (RC j))))), (r4, .inl (cI, side, .inl (fun j => iI (SC j))))] s.heap := hP
  have hl := lv_entry ([.ref hb_, .int (nI row), .int (nI thick)]) (n := 4) (Nat.le_of_ble_eq_true rfl)
  rw [lg_entry_eq]
  generalize (lg_sl ([.ref hb_, .int (nI row), .int (nI thick)]) ++ List.replicate (4 - (lg_sl ([.ref hb_, .int (nI row), .int (nI thick)])).length) Slot.unset).toArray = ls at hl ⊢
  have hl : lv_has ls 4 [(0, .ref hb_), (1, .int (nI row)), (2, .int (nI thick))] := hl
  refine lv_aload_n hx hb d_Be_planSlab_0 rfl (lv_at hl 0 rfl) ?_
  refine va_get (D := D) (ci := 1) (v := .int (nI side)) (C := R_Be) (T := T_Be) (N := 9) hx hb hts (fun w h => List.mem_cons_of_mem _ (iw_Be w h)) hown hK hP 0 rfl rfl 2 (by decide) (hts _ (List.mem_cons_of_mem _ k_109)) (fun _ h9 => h9) rfl d_Be_planSlab_1 ?_
  refine lv_iconst (v := nI 1) hx hb d_Be_planSlab_4 (by decide +kernel) ?_
  refine lv_isub hx hb d_Be_planSlab_5 ?_
  refine ka_i (y := iI (((side : Nat) : Int) - ((1 : Nat) : Int))) (by rw [iI_of side, iI_of 1]; exact iI_sub _ _) ?_
  refine lv_istore_n (lv' := [(3, .int (iI (((side : Nat) : Int) - ((1 : Nat) : Int)))), (0, .ref hb_), (1, .int (nI row)), (2, .int (nI thick))]) hx hb d_Be_planSlab_6 rfl hl (by decide) rfl (fun ls hl => ?_)
  have lp : ∀ (n : Nat) (d : Nat) (z : Int), (d + n = side) → (z = (side : Int) - 1 - (d : Int)) → ∀ (H : Heap) (locs : List Loc), va_P D vwCl [(hb_, .inr (1, [.ref bo, .ref hz, .int (nI side), .int (nI kf), .int (nI tn), .ref r1, .ref r2, .ref r3, .ref r4])), (bo, .inr (2, [.ref hz, .ref h0])), (h0, .inr (3, [.int (nI side), .ref a1, .ref a2, .ref a3, .ref a4, .int (pI sm)])), (hz, .inr (5, [.ref t1, .ref t2, .ref t3, .ref t4, .int (nI cn)])), (t1, .inl (cI, 8, .inl (fun j => nI (th j)))), (t2, .inl (cI, 8, .inl (fun j => nI (wi j)))), (t3, .inl (cI, 8, .inl (fun j => nI (wo j)))), (t4, .inl (cI, 8, .inl (fun j => nI (wn j)))), (a3, .inl (cI, ((side + 1) * (side + 1)), .inl (fun j => nI (F3 j)))), (a4, .inl (cI, ((side + 1) * (side + 1)), .inl (fun j => nI (F4 j)))), (r3, .inl (cJ, (side + 1), .inr (.inl (fun j => lI (((slabT side kf thick th wi (okC side fb th wi wn tn row) (vaC side fl th wi wo tn row) cn RC SC d).1) j))))), (r4, .inl (cI, side, .inl (fun j => iI (((slabT side kf thick th wi (okC side fb th wi wn tn row) (vaC side fl th wi wo tn row) cn RC SC d).2) j))))] H → va_D A [(hb_, .inr (1, [.ref bo, .ref hz, .int (nI side), .int (nI kf), .int (nI tn), .ref r1, .ref r2, .ref r3, .ref r4])), (bo, .inr (2, [.ref hz, .ref h0])), (h0, .inr (3, [.int (nI side), .ref a1, .ref a2, .ref a3, .ref a4, .int (pI sm)])), (hz, .inr (5, [.ref t1, .ref t2, .ref t3, .ref t4, .int (nI cn)])), (t1, .inl (cI, 8, .inl (fun j => nI (th j)))), (t2, .inl (cI, 8, .inl (fun j => nI (wi j)))), (t3, .inl (cI, 8, .inl (fun j => nI (wo j)))), (t4, .inl (cI, 8, .inl (fun j => nI (wn j)))), (a3, .inl (cI, ((side + 1) * (side + 1)), .inl (fun j => nI (F3 j)))), (a4, .inl (cI, ((side + 1) * (side + 1)), .inl (fun j => nI (F4 j)))), (r3, .inl (cJ, (side + 1), .inr (.inl (fun j => lI (((slabT side kf thick th wi (okC side fb th wi wn tn row) (vaC side fl th wi wo tn row) cn RC SC d).1) j))))), (r4, .inl (cI, side, .inl (fun j => iI (((slabT side kf thick th wi (okC side fb th wi wn tn row) (vaC side fl th wi wo tn row) cn RC SC d).2) j))))] → va_S A s.heap H locs → ∀ ls : Array Slot, lv_has ls 4 [(3, .int (iI z)), (0, .ref hb_), (1, .int (nI row)), (2, .int (nI thick))] → W p l e (headSpec w_Be_planSlab ({ frames := 3, cells := 0, slots := 0, locals := 81 })).room s m ([.ref hb_, .int (nI row), .int (nI thick)]).toArray below meth c H locs 0 0 (MQ below (va_Ql (fun (r : Int64) (u : (Nat → Int) × (Nat → Int)) => r = lI ((slab0 side kf thick th wi (okC side fb th wi wn tn row) (vaC side fl th wi wo tn row) cn).1 0) ∧ (∀ j, j ≤ side → u.1 j = (slab0 side kf thick th wi (okC side fb th wi wn tn row) (vaC side fl th wi wo tn row) cn).1 j) ∧ ∀ j, j < side → u.2 j = (slab0 side kf thick th wi (okC side fb th wi wn tn row) (vaC side fl th wi wo tn row) cn).2 j) (fun (u : (Nat → Int) × (Nat → Int)) t => kE D vwCl A [(hb_, .inr (1, [.ref bo, .ref hz, .int (nI side), .int (nI kf), .int (nI tn), .ref r1, .ref r2, .ref r3, .ref r4])), (bo, .inr (2, [.ref hz, .ref h0])), (h0, .inr (3, [.int (nI side), .ref a1, .ref a2, .ref a3, .ref a4, .int (pI sm)])), (hz, .inr (5, [.ref t1, .ref t2, .ref t3, .ref t4, .int (nI cn)])), (t1, .inl (cI, 8, .inl (fun j => nI (th j)))), (t2, .inl (cI, 8, .inl (fun j => nI (wi j)))), (t3, .inl (cI, 8, .inl (fun j => nI (wo j)))), (t4, .inl (cI, 8, .inl (fun j => nI (wn j)))), (a3, .inl (cI, ((side + 1) * (side + 1)), .inl (fun j => nI (F3 j)))), (a4, .inl (cI, ((side + 1) * (side + 1)), .inl (fun j => nI (F4 j)))), (r3, .inl (cJ, (side + 1), .inr (.inl (fun j => lI (u.1 j))))), (r4, .inl (cI, side, .inl (fun j => iI (u.2 j))))] t) A) ([.ref hb_, .int (nI row), .int (nI thick)]).toArray s 0 0 A) (F0 m 7 ls []) := by
    intro n
    induction n with
    | zero =>
      intro d z hi ez H locs hP hD hS ls hl
      refine lv_iload_n hx hb d_Be_planSlab_7 rfl (lv_at hl 0 rfl) ?_
      refine kb_lt (tgt := 24) (iI_t (by omega) (by omega)) hx hb d_Be_planSlab_8 (by decide) (fun c_8 => ?_) (fun c_8 => ?_)
      · have ed : side = d := by omega
        subst ed
        refine lv_aload_n hx hb d_Be_planSlab_24 rfl (lv_at hl 1 rfl) ?_
        refine va_get (D := D) (ci := 1) (v := .ref r3) (C := R_Be) (T := T_Be) (N := 9) hx hb hts (fun w h => List.mem_cons_of_mem _ (iw_Be w h)) hown hK hP 0 rfl rfl 7 (by decide) (hts _ (List.mem_cons_of_mem _ k_114)) (fun _ h9 => h9) rfl d_Be_planSlab_25 ?_
        refine lv_iconst (v := nI 0) hx hb d_Be_planSlab_28 (by decide +kernel) ?_
        refine ka_lald (k := 0) (n := (side + 1)) (f := fun j => lI (((slabT side kf thick th wi (okC side fb th wi wn tn row) (vaC side fl th wi wo tn row) cn RC SC side).1) j)) (nI_t (by omega)) (by omega) hx hb hK hP 10 1 rfl rfl d_Be_planSlab_29 ?_
        have qs := slabT_same (kf := kf) (thick := thick) (th := th) (wi := wi) (ok := (okC side fb th wi wn tn row)) (va := (vaC side fl th wi wo tn row)) (cn := cn) (RC := RC) (SC := SC) (RC' := fun _ => 0) (SC' := fun _ => 0) hR0 hw1 side (Nat.le_refl _)
        exact kretl (u := ((slabT side kf thick th wi (okC side fb th wi wn tn row) (vaC side fl th wi wo tn row) cn RC SC side).1, (slabT side kf thick th wi (okC side fb th wi wn tn row) (vaC side fl th wi wo tn row) cn RC SC side).2)) hx hb hr hP hD hS hlocks rfl (⟨congrArg lI (qs.1 0 (by omega) (by omega)), fun j hj => qs.1 j (by omega) hj, fun j hj => qs.2 j (by omega) hj⟩) d_Be_planSlab_30
      · exfalso; omega
    | succ n ih =>
      intro d z hi ez H locs hP hD hS ls hl
      refine lv_iload_n hx hb d_Be_planSlab_7 rfl (lv_at hl 0 rfl) ?_
      refine kb_lt (tgt := 24) (iI_t (by omega) (by omega)) hx hb d_Be_planSlab_8 (by decide) (fun c_8 => ?_) (fun c_8 => ?_)
      · exfalso; omega
      · refine lv_aload_n hx hb d_Be_planSlab_11 rfl (lv_at hl 1 rfl) ?_
        refine lv_iload_n hx hb d_Be_planSlab_12 rfl (lv_at hl 2 rfl) ?_
        refine lv_iload_n hx hb d_Be_planSlab_13 rfl (lv_at hl 0 rfl) ?_
        refine ka_i (y := nI (side - 1 - d)) (iI_eqn (by omega)) ?_
        refine lv_iload_n hx hb d_Be_planSlab_14 rfl (lv_at hl 3 rfl) ?_
        refine kcallv (wc := [(hb_, .inr (1, [.ref bo, .ref hz, .int (nI side), .int (nI kf), .int (nI tn), .ref r1, .ref r2, .ref r3, .ref r4])), (bo, .inr (2, [.ref hz, .ref h0])), (h0, .inr (3, [.int (nI side), .ref a1, .ref a2, .ref a3, .ref a4, .int (pI sm)])), (hz, .inr (5, [.ref t1, .ref t2, .ref t3, .ref t4, .int (nI cn)])), (t1, .inl (cI, 8, .inl (fun j => nI (th j)))), (t2, .inl (cI, 8, .inl (fun j => nI (wi j)))), (t3, .inl (cI, 8, .inl (fun j => nI (wo j)))), (t4, .inl (cI, 8, .inl (fun j => nI (wn j)))), (a3, .inl (cI, ((side + 1) * (side + 1)), .inl (fun j => nI (F3 j)))), (a4, .inl (cI, ((side + 1) * (side + 1)), .inl (fun j => nI (F4 j)))), (r3, .inl (cJ, (side + 1), .inr (.inl (fun j => lI (((slabT side kf thick th wi (okC side fb th wi wn tn row) (vaC side fl th wi wo tn row) cn RC SC d).1) j))))), (r4, .inl (cI, side, .inl (fun j => iI (((slabT side kf thick th wi (okC side fb th wi wn tn row) (vaC side fl th wi wo tn row) cn RC SC d).2) j))))]) (wr := []) [0, 1, 2, 3, 4, 5, 6, 7, 8, 9, 10, 11] [] (va_runV (As := [.int (nI row), .int (nI (side - 1 - d)), .int (nI thick)]) (rest := []) ⟨hx, hb, hml, hown, hts⟩ (c_planColumn l D cI cJ cZ H.size hb_ bo hz side kf tn r1 r2 r3 r4 h0 a1 a2 a3 a4 sm t1 t2 t3 t4 cn th wi wo wn F3 F4 fb fl ((slabT side kf thick th wi (okC side fb th wi wn tn row) (vaC side fl th wi wo tn row) cn RC SC d).1) ((slabT side kf thick th wi (okC side fb th wi wn tn row) (vaC side fl th wi wo tn row) cn RC SC d).2) row (side - 1 - d) thick s1 s2 k4 tn1 n8 ht hw hw1 ho hn m3 m4 hfb hfl (by omega) (by omega) (by omega) (fun j h3 h4 => slabT_bd hR0 hw1 (fun c_ i hi => vaC_bd (ho i (by omega))) d (by omega) j (by omega) h4)) ⟨callB_of 3 hts (gd kc_Be_planColumn) rfl rfl rfl (hts _ (List.mem_cons_of_mem _ k_6)) (hts _ (List.mem_cons_of_mem _ k_228)) (by decide +kernel) ⟨Nat.le_of_ble_eq_true rfl, Nat.le_of_ble_eq_true rfl⟩, hts _ (List.mem_cons_of_mem _ k_230), hts _ (List.mem_cons_of_mem _ ks_3)⟩ ⟨kB_blind, va_recv hK hP (ci := 1) (q0 := 0) rfl rfl, kB_at hP hD hK hZ [0, 1, 2, 3, 4, 5, 6, 7, 8, 9, 10, 11] rfl (by decide) rfl⟩ rfl rfl hl.1 rfl (lv_room (Nat.le_of_ble_eq_true rfl)) d_Be_planSlab_15 ⟨Nat.zero_le _, Nat.zero_le _⟩) hP hD hS hA rfl rfl (by decide) (by decide) (fun _ H locs hw_15 hP hD hS => ?_)
        have hP : va_P D vwCl [(hb_, .inr (1, [.ref bo, .ref hz, .int (nI side), .int (nI kf), .int (nI tn), .ref r1, .ref r2, .ref r3, .ref r4])), (bo, .inr (2, [.ref hz, .ref h0])), (h0, .inr (3, [.int (nI side), .ref a1, .ref a2, .ref a3, .ref a4, .int (pI sm)])), (hz, .inr (5, [.ref t1, .ref t2, .ref t3, .ref t4, .int (nI cn)])), (t1, .inl (cI, 8, .inl (fun j => nI (th j)))), (t2, .inl (cI, 8, .inl (fun j => nI (wi j)))), (t3, .inl (cI, 8, .inl (fun j => nI (wo j)))), (t4, .inl (cI, 8, .inl (fun j => nI (wn j)))), (a3, .inl (cI, ((side + 1) * (side + 1)), .inl (fun j => nI (F3 j)))), (a4, .inl (cI, ((side + 1) * (side + 1)), .inl (fun j => nI (F4 j)))), (r3, .inl (cJ, (side + 1), .inr (.inl (fun j => lI ((va_up ((slabT side kf thick th wi (okC side fb th wi wn tn row) (vaC side fl th wi wo tn row) cn RC SC d).1) (side - 1 - d) (colFold ((slabT side kf thick th wi (okC side fb th wi wn tn row) (vaC side fl th wi wo tn row) cn RC SC d).1) side kf (side - 1 - d) thick th wi (okC side fb th wi wn tn row (side - 1 - d)) (vaC side fl th wi wo tn row (side - 1 - d)) cn).1) j))))), (r4, .inl (cI, side, .inl (fun j => iI ((va_up ((slabT side kf thick th wi (okC side fb th wi wn tn row) (vaC side fl th wi wo tn row) cn RC SC d).2) (side - 1 - d) (colFold ((slabT side kf thick th wi (okC side fb th wi wn tn row) (vaC side fl th wi wo tn row) cn RC SC d).1) side kf (side - 1 - d) thick th wi (okC side fb th wi wn tn row (side - 1 - d)) (vaC side fl th wi wo tn row (side - 1 - d)) cn).2) j))))] H := hP
        have hD : va_D A [(hb_, .inr (1, [.ref bo, .ref hz, .int (nI side), .int (nI kf), .int (nI tn), .ref r1, .ref r2, .ref r3, .ref r4])), (bo, .inr (2, [.ref hz, .ref h0])), (h0, .inr (3, [.int (nI side), .ref a1, .ref a2, .ref a3, .ref a4, .int (pI sm)])), (hz, .inr (5, [.ref t1, .ref t2, .ref t3, .ref t4, .int (nI cn)])), (t1, .inl (cI, 8, .inl (fun j => nI (th j)))), (t2, .inl (cI, 8, .inl (fun j => nI (wi j)))), (t3, .inl (cI, 8, .inl (fun j => nI (wo j)))), (t4, .inl (cI, 8, .inl (fun j => nI (wn j)))), (a3, .inl (cI, ((side + 1) * (side + 1)), .inl (fun j => nI (F3 j)))), (a4, .inl (cI, ((side + 1) * (side + 1)), .inl (fun j => nI (F4 j)))), (r3, .inl (cJ, (side + 1), .inr (.inl (fun j => lI ((va_up ((slabT side kf thick th wi (okC side fb th wi wn tn row) (vaC side fl th wi wo tn row) cn RC SC d).1) (side - 1 - d) (colFold ((slabT side kf thick th wi (okC side fb th wi wn tn row) (vaC side fl th wi wo tn row) cn RC SC d).1) side kf (side - 1 - d) thick th wi (okC side fb th wi wn tn row (side - 1 - d)) (vaC side fl th wi wo tn row (side - 1 - d)) cn).1) j))))), (r4, .inl (cI, side, .inl (fun j => iI ((va_up ((slabT side kf thick th wi (okC side fb th wi wn tn row) (vaC side fl th wi wo tn row) cn RC SC d).2) (side - 1 - d) (colFold ((slabT side kf thick th wi (okC side fb th wi wn tn row) (vaC side fl th wi wo tn row) cn RC SC d).1) side kf (side - 1 - d) thick th wi (okC side fb th wi wn tn row (side - 1 - d)) (vaC side fl th wi wo tn row (side - 1 - d)) cn).2) j))))] := hD
        refine lv_iinc (v := iI (z + (-1))) (lv' := [(3, .int (iI (z + (-1)))), (0, .ref hb_), (1, .int (nI row)), (2, .int (nI thick))]) hx hb d_Be_planSlab_18 hl (k := 0) rfl (iI_add _ _) (by decide) rfl (fun ls hl => ?_)
        refine lv_goto (tgt := 7) hx hb d_Be_planSlab_21 (by decide) ?_
        exact ih (d + 1) (z + (-1)) (by omega) (by omega) _ _ hP hD hS ls (lv_sub hl [0, 1, 2, 3] rfl)
  exact lp side 0 (((side : Nat) : Int) - ((1 : Nat) : Int)) (by omega) (by omega) _ _ hP hD hS ls (lv_sub hl [0, 1, 2, 3] rfl)
