theorem d_Be_plan_0 : decode b_Be_plan 0 = .ok (.aload_n 0, 1) := by decide +kernel
theorem d_Be_plan_1 : decode b_Be_plan 1 = .ok (.iload_n 1, 1) := by decide +kernel
theorem d_Be_plan_2 : decode b_Be_plan 2 = .ok (.putfield 45, 3) := by decide +kernel
theorem d_Be_plan_5 : decode b_Be_plan 5 = .ok (.aload_n 0, 1) := by decide +kernel
theorem d_Be_plan_6 : decode b_Be_plan 6 = .ok (.getfield 22, 3) := by decide +kernel
theorem d_Be_plan_9 : decode b_Be_plan 9 = .ok (.iconst 1, 1) := by decide +kernel
theorem d_Be_plan_10 : decode b_Be_plan 10 = .ok (.isub, 1) := by decide +kernel
theorem d_Be_plan_11 : decode b_Be_plan 11 = .ok (.istore_n 2, 1) := by decide +kernel
theorem d_Be_plan_12 : decode b_Be_plan 12 = .ok (.iload_n 2, 1) := by decide +kernel
theorem d_Be_plan_13 : decode b_Be_plan 13 = .ok (.ifCond .lt 14, 3) := by decide +kernel
theorem d_Be_plan_16 : decode b_Be_plan 16 = .ok (.aload_n 0, 1) := by decide +kernel
theorem d_Be_plan_17 : decode b_Be_plan 17 = .ok (.iload_n 2, 1) := by decide +kernel
theorem d_Be_plan_18 : decode b_Be_plan 18 = .ok (.invokevirtual 48, 3) := by decide +kernel
theorem d_Be_plan_21 : decode b_Be_plan 21 = .ok (.iinc 2 (-1), 3) := by decide +kernel
theorem d_Be_plan_24 : decode b_Be_plan 24 = .ok (.goto (-12), 3) := by decide +kernel
theorem d_Be_plan_27 : decode b_Be_plan 27 = .ok (.aload_n 0, 1) := by decide +kernel
theorem d_Be_plan_28 : decode b_Be_plan 28 = .ok (.getfield 29, 3) := by decide +kernel
theorem d_Be_plan_31 : decode b_Be_plan 31 = .ok (.iconst 0, 1) := by decide +kernel
theorem d_Be_plan_32 : decode b_Be_plan 32 = .ok (.laload, 1) := by decide +kernel
theorem d_Be_plan_33 : decode b_Be_plan 33 = .ok (.lreturn, 1) := by decide +kernel
theorem d_Pa_clear_0 : decode b_Pa_clear 0 = .ok (.aload_n 0, 1) := by decide +kernel
theorem d_Pa_clear_1 : decode b_Pa_clear 1 = .ok (.iload_n 1, 1) := by decide +kernel
theorem d_Pa_clear_2 : decode b_Pa_clear 2 = .ok (.putfield 19, 3) := by decide +kernel
theorem d_Pa_clear_5 : decode b_Pa_clear 5 = .ok (.aload_n 0, 1) := by decide +kernel
theorem d_Pa_clear_6 : decode b_Pa_clear 6 = .ok (.iconst 0, 1) := by decide +kernel
theorem d_Pa_clear_7 : decode b_Pa_clear 7 = .ok (.putfield 23, 3) := by decide +kernel
theorem d_Pa_clear_10 : decode b_Pa_clear 10 = .ok (.aload_n 0, 1) := by decide +kernel
theorem d_Pa_clear_11 : decode b_Pa_clear 11 = .ok (.iconst 0, 1) := by decide +kernel
theorem d_Pa_clear_12 : decode b_Pa_clear 12 = .ok (.putfield 26, 3) := by decide +kernel
theorem d_Pa_clear_15 : decode b_Pa_clear 15 = .ok (.aload_n 0, 1) := by decide +kernel
theorem d_Pa_clear_16 : decode b_Pa_clear 16 = .ok (.iconst 0, 1) := by decide +kernel
theorem d_Pa_clear_17 : decode b_Pa_clear 17 = .ok (.putfield 29, 3) := by decide +kernel
theorem d_Pa_clear_20 : decode b_Pa_clear 20 = .ok (.aload_n 0, 1) := by decide +kernel
theorem d_Pa_clear_21 : decode b_Pa_clear 21 = .ok (.iconst 0, 1) := by decide +kernel
theorem d_Pa_clear_22 : decode b_Pa_clear 22 = .ok (.putfield 32, 3) := by decide +kernel
theorem d_Pa_clear_25 : decode b_Pa_clear 25 = .ok (.return_, 1) := by decide +kernel
theorem d_Pa_add_0 : decode b_Pa_add 0 = .ok (.aload_n 0, 1) := by decide +kernel
theorem d_Pa_add_1 : decode b_Pa_add 1 = .ok (.getfield 26, 3) := by decide +kernel
theorem d_Pa_add_4 : decode b_Pa_add 4 = .ok (.aload_n 0, 1) := by decide +kernel
theorem d_Pa_add_5 : decode b_Pa_add 5 = .ok (.getfield 7, 3) := by decide +kernel
theorem d_Pa_add_8 : decode b_Pa_add 8 = .ok (.arraylength, 1) := by decide +kernel
theorem d_Pa_add_9 : decode b_Pa_add 9 = .ok (.if_icmp .lt 4, 3) := by decide +kernel
theorem d_Pa_add_12 : decode b_Pa_add 12 = .ok (.return_, 1) := by decide +kernel
theorem d_Pa_add_13 : decode b_Pa_add 13 = .ok (.aload_n 0, 1) := by decide +kernel
theorem d_Pa_add_14 : decode b_Pa_add 14 = .ok (.getfield 7, 3) := by decide +kernel
theorem d_Pa_add_17 : decode b_Pa_add 17 = .ok (.aload_n 0, 1) := by decide +kernel
theorem d_Pa_add_18 : decode b_Pa_add 18 = .ok (.getfield 26, 3) := by decide +kernel
theorem d_Pa_add_21 : decode b_Pa_add 21 = .ok (.iload_n 1, 1) := by decide +kernel
theorem d_Pa_add_22 : decode b_Pa_add 22 = .ok (.iastore, 1) := by decide +kernel
theorem d_Pa_add_23 : decode b_Pa_add 23 = .ok (.aload_n 0, 1) := by decide +kernel
theorem d_Pa_add_24 : decode b_Pa_add 24 = .ok (.getfield 13, 3) := by decide +kernel
theorem d_Pa_add_27 : decode b_Pa_add 27 = .ok (.aload_n 0, 1) := by decide +kernel
theorem d_Pa_add_28 : decode b_Pa_add 28 = .ok (.getfield 26, 3) := by decide +kernel
theorem d_Pa_add_31 : decode b_Pa_add 31 = .ok (.iload_n 2, 1) := by decide +kernel
theorem d_Pa_add_32 : decode b_Pa_add 32 = .ok (.iastore, 1) := by decide +kernel
theorem d_Pa_add_33 : decode b_Pa_add 33 = .ok (.aload_n 0, 1) := by decide +kernel
theorem d_Pa_add_34 : decode b_Pa_add 34 = .ok (.getfield 16, 3) := by decide +kernel
theorem d_Pa_add_37 : decode b_Pa_add 37 = .ok (.aload_n 0, 1) := by decide +kernel
theorem d_Pa_add_38 : decode b_Pa_add 38 = .ok (.getfield 26, 3) := by decide +kernel
theorem d_Pa_add_41 : decode b_Pa_add 41 = .ok (.iload_n 3, 1) := by decide +kernel
theorem d_Pa_add_42 : decode b_Pa_add 42 = .ok (.iastore, 1) := by decide +kernel
theorem d_Pa_add_43 : decode b_Pa_add 43 = .ok (.aload_n 0, 1) := by decide +kernel
theorem d_Pa_add_44 : decode b_Pa_add 44 = .ok (.dup, 1) := by decide +kernel
theorem d_Pa_add_45 : decode b_Pa_add 45 = .ok (.getfield 26, 3) := by decide +kernel
theorem d_Pa_add_48 : decode b_Pa_add 48 = .ok (.iconst 1, 1) := by decide +kernel
theorem d_Pa_add_49 : decode b_Pa_add 49 = .ok (.iadd, 1) := by decide +kernel
theorem d_Pa_add_50 : decode b_Pa_add 50 = .ok (.putfield 26, 3) := by decide +kernel
theorem d_Pa_add_53 : decode b_Pa_add 53 = .ok (.return_, 1) := by decide +kernel
theorem d_Si_add_0 : decode b_Si_add 0 = .ok (.aload_n 0, 1) := by decide +kernel
theorem d_Si_add_1 : decode b_Si_add 1 = .ok (.getfield 24, 3) := by decide +kernel
theorem d_Si_add_4 : decode b_Si_add 4 = .ok (.bipush 8, 2) := by decide +kernel
theorem d_Si_add_6 : decode b_Si_add 6 = .ok (.if_icmp .lt 5, 3) := by decide +kernel
theorem d_Si_add_9 : decode b_Si_add 9 = .ok (.iconst (-1), 1) := by decide +kernel
theorem d_Si_add_10 : decode b_Si_add 10 = .ok (.ireturn, 1) := by decide +kernel
theorem d_Si_add_11 : decode b_Si_add 11 = .ok (.aload_n 0, 1) := by decide +kernel
theorem d_Si_add_12 : decode b_Si_add 12 = .ok (.getfield 9, 3) := by decide +kernel
theorem d_Si_add_15 : decode b_Si_add 15 = .ok (.aload_n 0, 1) := by decide +kernel
theorem d_Si_add_16 : decode b_Si_add 16 = .ok (.getfield 24, 3) := by decide +kernel
theorem d_Si_add_19 : decode b_Si_add 19 = .ok (.iload_n 1, 1) := by decide +kernel
theorem d_Si_add_20 : decode b_Si_add 20 = .ok (.iastore, 1) := by decide +kernel
theorem d_Si_add_21 : decode b_Si_add 21 = .ok (.aload_n 0, 1) := by decide +kernel
theorem d_Si_add_22 : decode b_Si_add 22 = .ok (.getfield 15, 3) := by decide +kernel
theorem d_Si_add_25 : decode b_Si_add 25 = .ok (.aload_n 0, 1) := by decide +kernel
theorem d_Si_add_26 : decode b_Si_add 26 = .ok (.getfield 24, 3) := by decide +kernel
theorem d_Si_add_29 : decode b_Si_add 29 = .ok (.iload_n 2, 1) := by decide +kernel
theorem d_Si_add_30 : decode b_Si_add 30 = .ok (.iastore, 1) := by decide +kernel
theorem d_Si_add_31 : decode b_Si_add 31 = .ok (.aload_n 0, 1) := by decide +kernel
theorem d_Si_add_32 : decode b_Si_add 32 = .ok (.getfield 18, 3) := by decide +kernel
theorem d_Si_add_35 : decode b_Si_add 35 = .ok (.aload_n 0, 1) := by decide +kernel
theorem d_Si_add_36 : decode b_Si_add 36 = .ok (.getfield 24, 3) := by decide +kernel
theorem d_Si_add_39 : decode b_Si_add 39 = .ok (.iload_n 3, 1) := by decide +kernel
theorem d_Si_add_40 : decode b_Si_add 40 = .ok (.iastore, 1) := by decide +kernel
theorem d_Si_add_41 : decode b_Si_add 41 = .ok (.aload_n 0, 1) := by decide +kernel
theorem d_Si_add_42 : decode b_Si_add 42 = .ok (.getfield 21, 3) := by decide +kernel
theorem d_Si_add_45 : decode b_Si_add 45 = .ok (.aload_n 0, 1) := by decide +kernel
theorem d_Si_add_46 : decode b_Si_add 46 = .ok (.getfield 24, 3) := by decide +kernel
theorem d_Si_add_49 : decode b_Si_add 49 = .ok (.iload 4, 2) := by decide +kernel
theorem d_Si_add_51 : decode b_Si_add 51 = .ok (.iastore, 1) := by decide +kernel
theorem d_Si_add_52 : decode b_Si_add 52 = .ok (.aload_n 0, 1) := by decide +kernel
theorem d_Si_add_53 : decode b_Si_add 53 = .ok (.dup, 1) := by decide +kernel
theorem d_Si_add_54 : decode b_Si_add 54 = .ok (.getfield 24, 3) := by decide +kernel
theorem d_Si_add_57 : decode b_Si_add 57 = .ok (.iconst 1, 1) := by decide +kernel
theorem d_Si_add_58 : decode b_Si_add 58 = .ok (.iadd, 1) := by decide +kernel
theorem d_Si_add_59 : decode b_Si_add 59 = .ok (.putfield 24, 3) := by decide +kernel
theorem d_Si_add_62 : decode b_Si_add 62 = .ok (.aload_n 0, 1) := by decide +kernel
theorem d_Si_add_63 : decode b_Si_add 63 = .ok (.getfield 24, 3) := by decide +kernel
theorem d_Si_add_66 : decode b_Si_add 66 = .ok (.iconst 1, 1) := by decide +kernel
theorem d_Si_add_67 : decode b_Si_add 67 = .ok (.isub, 1) := by decide +kernel
theorem d_Si_add_68 : decode b_Si_add 68 = .ok (.ireturn, 1) := by decide +kernel
noncomputable def sbT (side kf : Nat) (th wi wo wn : Nat → Nat) (fb fl : Nat → Nat → Nat) (cn tn row : Nat) : Nat → Int := sbR side kf th wi (okC side fb th wi wn tn row) (vaC side fl th wi wo tn row) cn
theorem sbT_bd {side kf : Nat} {th wi wo wn : Nat → Nat} {fb fl : Nat → Nat → Nat} {cn tn : Nat} (hw : ∀ i, i < cn → 1 ≤ wi i) (ho : ∀ i, i < cn → wo i ≤ 100000) (hs : side ≤ 20) : ∀ r t, 0 ≤ sbT side kf th wi wo wn fb fl cn tn r t ∧ sbT side kf th wi wo wn fb fl cn tn r t ≤ 2000020000 := fun r t => sbR_bd hw (fun _ i hi => vaC_bd (ho i hi)) hs
/-- a turn's tables, whole -/
noncomputable def plan0 (side kf : Nat) (th wi wo wn : Nat → Nat) (fb fl : Nat → Nat → Nat) (cn tn : Nat) : (Nat → Int) × (Nat → Nat) := planT side kf (sbT side kf th wi wo wn fb fl cn tn) (fun _ => 0) (fun _ => 0) side
set_option maxHeartbeats 4000000 in
set_option maxRecDepth 100000 in
theorem c_plan (l : Launch) (D : va_G) (cI cJ cZ : ClassId) (sz : Nat) (hb_ : Nat) (bo : Nat) (hz : Nat) (side : Nat) (kf : Nat) (tn : Nat) (r1 : Nat) (r2 : Nat) (r3 : Nat) (r4 : Nat) (h0 : Nat) (a1 : Nat) (a2 : Nat) (a3 : Nat) (a4 : Nat) (sm : Prop) (t1 : Nat) (t2 : Nat) (t3 : Nat) (t4 : Nat) (cn : Nat) (th : Nat → Nat) (wi : Nat → Nat) (wo : Nat → Nat) (wn : Nat → Nat) (F3 : Nat → Nat) (F4 : Nat → Nat) (fb : Nat → Nat → Nat) (fl : Nat → Nat → Nat) (RR : Nat → Int) (TR : Nat → Nat) (RC : Nat → Int) (SC : Nat → Int) (tq : Nat) (s1 : 1 ≤ side) (s2 : side ≤ 20) (k4 : kf ≤ 4) (tn1 : tn ≤ 1) (n8 : cn ≤ 8) (ht : ∀ k, k < 8 → th k ≤ 20) (hw : ∀ k, k < 8 → wi k ≤ 20) (hw1 : ∀ k, k < cn → 1 ≤ wi k) (ho : ∀ k, k < 8 → wo k ≤ 100000) (hn : ∀ k, k < 8 → wn k ≤ 400) (m3 : ∀ X Y, X ≤ side → Y ≤ side → F3 (Y * (side + 1) + X) = psm fb X Y) (m4 : ∀ X Y, X ≤ side → Y ≤ side → F4 (Y * (side + 1) + X) = psm fl X Y) (hfb : ∀ i j, i < side → j < side → fb i j ≤ 10000) (hfl : ∀ i j, i < side → j < side → fl i j ≤ 10000) (tq1 : tq ≤ 1) (hR0 : RC side = 0) (hRR0 : RR side = 0) : Met l y_Be_plan w_Be_plan ({ frames := 5, cells := 0, slots := 0, locals := 133 }) (va_Pc [.ref hb_, .int (nI tq)] (kB D vwCl (tyL cI cJ cZ) sz [(hb_, .inr (1, [.ref bo, .ref hz, .int (nI side), .int (nI kf), .int (nI tn), .ref r1, .ref r2, .ref r3, .ref r4])), (bo, .inr (2, [.ref hz, .ref h0])), (h0, .inr (3, [.int (nI side), .ref a1, .ref a2, .ref a3, .ref a4, .int (pI sm)])), (hz, .inr (5, [.ref t1, .ref t2, .ref t3, .ref t4, .int (nI cn)])), (t1, .inl (cI, 8, .inl (fun j => nI (th j)))), (t2, .inl (cI, 8, .inl (fun j => nI (wi j)))), (t3, .inl (cI, 8, .inl (fun j => nI (wo j)))), (t4, .inl (cI, 8, .inl (fun j => nI (wn j)))), (a3, .inl (cI, ((side + 1) * (side + 1)), .inl (fun j => nI (F3 j)))), (a4, .inl (cI, ((side + 1) * (side + 1)), .inl (fun j => nI (F4 j)))), (r1, .inl (cJ, (side + 1), .inr (.inl (fun j => lI (RR j))))), (r2, .inl (cI, side, .inl (fun j => nI (TR j)))), (r3, .inl (cJ, (side + 1), .inr (.inl (fun j => lI (RC j))))), (r4, .inl (cI, side, .inl (fun j => iI (SC j))))])) (va_Ql (fun (r : Int64) (u : (Nat → Int) × (Nat → Nat) × (Nat → Int) × (Nat → Int)) => r = lI ((plan0 side kf th wi wo wn fb fl cn tq).1 0) ∧ (∀ j, j ≤ side → u.1 j = (plan0 side kf th wi wo wn fb fl cn tq).1 j) ∧ (∀ j, j < side → u.2.1 j = (plan0 side kf th wi wo wn fb fl cn tq).2 j) ∧ u.2.2.1 side = 0) (fun (u : (Nat → Int) × (Nat → Nat) × (Nat → Int) × (Nat → Int)) t => kE D vwCl (va_A [(hb_, .inr (1, [.ref bo, .ref hz, .int (nI side), .int (nI kf), .int (nI tn), .ref r1, .ref r2, .ref r3, .ref r4])), (bo, .inr (2, [.ref hz, .ref h0])), (h0, .inr (3, [.int (nI side), .ref a1, .ref a2, .ref a3, .ref a4, .int (pI sm)])), (hz, .inr (5, [.ref t1, .ref t2, .ref t3, .ref t4, .int (nI cn)])), (t1, .inl (cI, 8, .inl (fun j => nI (th j)))), (t2, .inl (cI, 8, .inl (fun j => nI (wi j)))), (t3, .inl (cI, 8, .inl (fun j => nI (wo j)))), (t4, .inl (cI, 8, .inl (fun j => nI (wn j)))), (a3, .inl (cI, ((side + 1) * (side + 1)), .inl (fun j => nI (F3 j)))), (a4, .inl (cI, ((side + 1) * (side + 1)), .inl (fun j => nI (F4 j)))), (r1, .inl (cJ, (side + 1), .inr (.inl (fun j => lI (RR j))))), (r2, .inl (cI, side, .inl (fun j => nI (TR j)))), (r3, .inl (cJ, (side + 1), .inr (.inl (fun j => lI (RC j))))), (r4, .inl (cI, side, .inl (fun j => iI (SC j))))] sz) [(hb_, .inr (1, [.ref bo, .ref hz, .int (nI side), .int (nI kf), .int (nI tq), .ref r1, .ref r2, .ref r3, .ref r4])), (bo, .inr (2, [.ref hz, .ref h0])), (h0, .inr (3, [.int (nI side), .ref a1, .ref a2, .ref a3, .ref a4, .int (pI sm)])), (hz, .inr (5, [.ref t1, .ref t2, .ref t3, .ref t4, .int (nI cn)])), (t1, .inl (cI, 8, .inl (fun j => nI (th j)))), (t2, .inl (cI, 8, .inl (fun j => nI (wi j)))), (t3, .inl (cI, 8, .inl (fun j => nI (wo j)))), (t4, .inl (cI, 8, .inl (fun j => nI (wn j)))), (a3, .inl (cI, ((side + 1) * (side + 1)), .inl (fun j => nI (F3 j)))), (a4, .inl (cI, ((side + 1) * (side + 1)), .inl (fun j => nI (F4 j)))), (r1, .inl (cJ, (side + 1), .inr (.inl (fun j => lI (u.1 j))))), (r2, .inl (cI, side, .inl (fun j => nI (u.2.1 j)))), (r3, .inl (cJ, (side + 1), .inr (.inl (fun j => lI (u.2.2.1 j))))), (r4, .inl (cI, side, .inl (fun j => iI (u.2.2.2 j))))] t) (va_A [(hb_, .inr (1, [.ref bo, .ref hz, .int (nI side), .int (nI kf), .int (nI tn), .ref r1, .ref r2, .ref r3, .ref r4])), (bo, .inr (2, [.ref hz, .ref h0])), (h0, .inr (3, [.int (nI side), .ref a1, .ref a2, .ref a3, .ref a4, .int (pI sm)])), (hz, .inr (5, [.ref t1, .ref t2, .ref t3, .ref t4, .int (nI cn)])), (t1, .inl (cI, 8, .inl (fun j => nI (th j)))), (t2, .inl (cI, 8, .inl (fun j => nI (wi j)))), (t3, .inl (cI, 8, .inl (fun j => nI (wo j)))), (t4, .inl (cI, 8, .inl (fun j => nI (wn j)))), (a3, .inl (cI, ((side + 1) * (side + 1)), .inl (fun j => nI (F3 j)))), (a4, .inl (cI, ((side + 1) * (side + 1)), .inl (fun j => nI (F4 j)))), (r1, .inl (cJ, (side + 1), .inr (.inl (fun j => lI (RR j))))), (r2, .inl (cI, side, .inl (fun j => nI (TR j)))), (r3, .inl (cJ, (side + 1), .inr (.inl (fun j => lI (RC j))))), (r4, .inl (cI, side, .inl (fun j => iI (SC j))))] sz)) 0 0 (va_A [(hb_, .inr (1, [.ref bo, .ref hz, .int (nI side), .int (nI kf), .int (nI tn), .ref r1, .ref r2, .ref r3, .ref r4])), (bo, .inr (2, [.ref hz, .ref h0])), (h0, .inr (3, [.int (nI side), .ref a1, .ref a2, .ref a3, .ref a4, .int (pI sm)])), (hz, .inr (5, [.ref t1, .ref t2, .ref t3, .ref t4, .int (nI cn)])), (t1, .inl (cI, 8, .inl (fun j => nI (th j)))), (t2, .inl (cI, 8, .inl (fun j => nI (wi j)))), (t3, .inl (cI, 8, .inl (fun j => nI (wo j)))), (t4, .inl (cI, 8, .inl (fun j => nI (wn j)))), (a3, .inl (cI, ((side + 1) * (side + 1)), .inl (fun j => nI (F3 j)))), (a4, .inl (cI, ((side + 1) * (side + 1)), .inl (fun j => nI (F4 j)))), (r1, .inl (cJ, (side + 1), .inr (.inl (fun j => lI (RR j))))), (r2, .inl (cI, side, .inl (fun j => nI (TR j)))), (r3, .inl (cJ, (side + 1), .inr (.inl (fun j => lI (RC j))))), (r4, .inl (cI, side, .inl (fun j => iI (SC j))))] sz) := by
  refine Met.ofW (cc := b_Be_plan) (maxL := 3) (ret := (some (.long))) (by decide) rfl ?_
  intro p e s m args below meth c s₁ B hml hv
  obtain ⟨rfl, hsz, hP, hK, hD0, hZ⟩ := hv
  have hx := B.exec
  have hb := B.bytes
  have hr := B.returns
  have hts := atoms_spec (ws := w_Be_plan) B.pre
  have hown : s.vm.findClass R_Be = some m.cls := findClass_of_methodNamed B.named
  have hlocks := B.notSynchronized
  subst hsz
  have hD := hD0.self (sz := s.heap.size)
  generalize hAe : va_A [(hb_, .inr (1, [.ref bo, .ref hz, .int (nI side), .int (nI kf), .int (nI tn), .ref r1, .ref r2, .ref r3, .ref r4])), (bo, .inr (2, [.ref hz, .ref h0])), (h0, .inr (3, [.int (nI side), .ref a1, .ref a2, .ref a3, .ref a4, .int (pI sm)])), (hz, .inr (5, [.ref t1, .ref t2, .ref t3, .ref t4, .int (nI cn)])), (t1, .inl (cI, 8, .inl (fun j => nI (th j)))), (t2, .inl (cI, 8, .inl (fun j => nI (wi j)))), (t3, .inl (cI, 8, .inl (fun j => nI (wo j)))), (t4, .inl (cI, 8, .inl (fun j => nI (wn j)))), (a3, .inl (cI, ((side + 1) * (side + 1)), .inl (fun j => nI (F3 j)))), (a4, .inl (cI, ((side + 1) * (side + 1)), .inl (fun j => nI (F4 j)))), (r1, .inl (cJ, (side + 1), .inr (.inl (fun j => lI (RR j))))), (r2, .inl (cI, side, .inl (fun j => nI (TR j)))), (r3, .inl (cJ, (side + 1), .inr (.inl (fun j => lI (RC j))))), (r4, .inl (cI, side, .inl (fun j => iI (SC j))))] s.heap.size = A at hD ⊢
  have hA : ∀ q : Nat, s.heap.size ≤ q → A q := fun q h => by rw [← hAe]; exact Or.inr h
  have hS : va_S A s.heap s.heap [] := va_S.rf
  have hP : va_P D vwCl [(hb_, .inr (1, [.ref bo, .ref hz, .int (nI side), .int (nI kf), .int (nI tn), .ref r1, .ref r2, .ref r3, .ref r4])), (bo, .inr (2, [.ref hz, .ref h0])), (h0, .inr (3, [.int (nI side), .ref a1, .ref a2, .ref a3, .ref a4, .int (pI sm)])), (hz, .inr (5, [.ref t1, .ref t2, .ref t3, .ref t4, .int (nI cn)])), (t1, .inl (cI, 8, .inl (fun j => nI (th j)))), (t2, .inl (cI, 8, .inl (fun j => nI (wi j)))), (t3, .inl (cI, 8, .inl (fun j => nI (wo j)))), (t4, .inl (cI, 8, .inl (fun j => nI (wn j)))), (a3, .inl (cI, ((side + 1) * (side + 1)), .inl (fun j => nI (F3 j)))), (a4, .inl (cI, ((side + 1) * (side + 1)), .inl (fun j => nI (F4 j)))), (r1, .inl (cJ, (side + 1), .inr (.inl (fun j => lI (RR j))))), (r2, .inl (cI, side, .inl (fun j => nI (TR j)))), (r3, .inl (cJ, (side + 1), .inr (.inl (fun j => lI (RC j))))), (r4, .inl (cI, side, .inl (fun j => iI (SC j))))] s.heap := hP
  have hl := lv_entry ([.ref hb_, .int (nI tq)]) (n := 3) (Nat.le_of_ble_eq_true rfl)
  rw [lg_entry_eq]
  generalize (lg_sl ([.ref hb_, .int (nI tq)]) ++ List.replicate (3 - (lg_sl ([.ref hb_, .int (nI tq)])).length) Slot.unset).toArray = ls at hl ⊢
  have hl : lv_has ls 3 [(0, .ref hb_), (1, .int (nI tq))] := hl
  refine lv_aload_n hx hb d_Be_plan_0 rfl (lv_at hl 0 rfl) ?_
  refine lv_iload_n hx hb d_Be_plan_1 rfl (lv_at hl 1 rfl) ?_
  refine va_put (D := D) (ci := 1) (v := .int (nI tq)) (ty := .int) (C := R_Be) (T := T_Be) (N := 9) hx hb hts (fun w h => List.mem_cons_of_mem _ (iw_Be w h)) ty_Be tyok_Be nm_Be hown hK hP hD hS 0 rfl rfl 4 (by decide) (hts _ (List.mem_cons_of_mem _ k_111)) (fun _ h9 => h9) rfl (by decide +kernel) (rfl) (rfl) (Nat.le_of_ble_eq_true rfl) d_Be_plan_2 (fun H locs hP hD hS => ?_)
  have hP : va_P D vwCl [(hb_, .inr (1, [.ref bo, .ref hz, .int (nI side), .int (nI kf), .int (nI tq), .ref r1, .ref r2, .ref r3, .ref r4])), (bo, .inr (2, [.ref hz, .ref h0])), (h0, .inr (3, [.int (nI side), .ref a1, .ref a2, .ref a3, .ref a4, .int (pI sm)])), (hz, .inr (5, [.ref t1, .ref t2, .ref t3, .ref t4, .int (nI cn)])), (t1, .inl (cI, 8, .inl (fun j => nI (th j)))), (t2, .inl (cI, 8, .inl (fun j => nI (wi j)))), (t3, .inl (cI, 8, .inl (fun j => nI (wo j)))), (t4, .inl (cI, 8, .inl (fun j => nI (wn j)))), (a3, .inl (cI, ((side + 1) * (side + 1)), .inl (fun j => nI (F3 j)))), (a4, .inl (cI, ((side + 1) * (side + 1)), .inl (fun j => nI (F4 j)))), (r1, .inl (cJ, (side + 1), .inr (.inl (fun j => lI (RR j))))), (r2, .inl (cI, side, .inl (fun j => nI (TR j)))), (r3, .inl (cJ, (side + 1), .inr (.inl (fun j => lI (RC j))))), (r4, .inl (cI, side, .inl (fun j => iI (SC j))))] H := hP
  have hD : va_D A [(hb_, .inr (1, [.ref bo, .ref hz, .int (nI side), .int (nI kf), .int (nI tq), .ref r1, .ref r2, .ref r3, .ref r4])), (bo, .inr (2, [.ref hz, .ref h0])), (h0, .inr (3, [.int (nI side), .ref a1, .ref a2, .ref a3, .ref a4, .int (pI sm)])), (hz, .inr (5, [.ref t1, .ref t2, .ref t3, .ref t4, .int (nI cn)])), (t1, .inl (cI, 8, .inl (fun j => nI (th j)))), (t2, .inl (cI, 8, .inl (fun j => nI (wi j)))), (t3, .inl (cI, 8, .inl (fun j => nI (wo j)))), (t4, .inl (cI, 8, .inl (fun j => nI (wn j)))), (a3, .inl (cI, ((side + 1) * (side + 1)), .inl (fun j => nI (F3 j)))), (a4, .inl (cI, ((side + 1) * (side + 1)), .inl (fun j => nI (F4 j)))), (r1, .inl (cJ, (side + 1), .inr (.inl (fun j => lI (RR j))))), (r2, .inl (cI, side, .inl (fun j => nI (TR j)))), (r3, .inl (cJ, (side + 1), .inr (.inl (fun j => lI (RC j))))), (r4, .inl (cI, side, .inl (fun j => iI (SC j))))] := hD
  refine lv_aload_n hx hb d_Be_plan_5 rfl (lv_at hl 0 rfl) ?_
  refine va_get (D := D) (ci := 1) (v := .int (nI side)) (C := R_Be) (T := T_Be) (N := 9) hx hb hts (fun w h => List.mem_cons_of_mem _ (iw_Be w h)) hown hK hP 0 rfl rfl 2 (by decide) (hts _ (List.mem_cons_of_mem _ k_109)) (fun _ h9 => h9) rfl d_Be_plan_6 ?_
  refine lv_iconst (v := nI 1) hx hb d_Be_plan_9 (by decide +kernel) ?_
  refine lv_isub hx hb d_Be_plan_10 ?_
  refine ka_i (y := iI (((side : Nat) : Int) - ((1 : Nat) : Int))) (by rw [iI_of side, iI_of 1]; exact iI_sub _ _) ?_
  refine lv_istore_n (lv' := [(2, .int (iI (((side : Nat) : Int) - ((1 : Nat) : Int)))), (0, .ref hb_), (1, .int (nI tq))]) hx hb d_Be_plan_11 rfl hl (by decide) rfl (fun ls hl => ?_)
  have hPB := planT_bd (kf := kf) (TR := TR) hRR0 (sbT_bd (side := side) (kf := kf) (th := th) (wo := wo) (wn := wn) (fb := fb) (fl := fl) (cn := cn) (tn := tq) hw1 (fun i hi => ho i (by omega)) s2)
  have lp : ∀ (n : Nat) (d : Nat) (z : Int) (RC : Nat → Int) (SC : Nat → Int), (d + n = side) → (z = (side : Int) - 1 - (d : Int)) → (RC side = 0) → ∀ (H : Heap) (locs : List Loc), va_P D vwCl [(hb_, .inr (1, [.ref bo, .ref hz, .int (nI side), .int (nI kf), .int (nI tq), .ref r1, .ref r2, .ref r3, .ref r4])), (bo, .inr (2, [.ref hz, .ref h0])), (h0, .inr (3, [.int (nI side), .ref a1, .ref a2, .ref a3, .ref a4, .int (pI sm)])), (hz, .inr (5, [.ref t1, .ref t2, .ref t3, .ref t4, .int (nI cn)])), (t1, .inl (cI, 8, .inl (fun j => nI (th j)))), (t2, .inl (cI, 8, .inl (fun j => nI (wi j)))), (t3, .inl (cI, 8, .inl (fun j => nI (wo j)))), (t4, .inl (cI, 8, .inl (fun j => nI (wn j)))), (a3, .inl (cI, ((side + 1) * (side + 1)), .inl (fun j => nI (F3 j)))), (a4, .inl (cI, ((side + 1) * (side + 1)), .inl (fun j => nI (F4 j)))), (r1, .inl (cJ, (side + 1), .inr (.inl (fun j => lI (((planT side kf (sbT side kf th wi wo wn fb fl cn tq) RR TR d).1) j))))), (r2, .inl (cI, side, .inl (fun j => nI (((planT side kf (sbT side kf th wi wo wn fb fl cn tq) RR TR d).2) j)))), (r3, .inl (cJ, (side + 1), .inr (.inl (fun j => lI (RC j))))), (r4, .inl (cI, side, .inl (fun j => iI (SC j))))] H → va_D A [(hb_, .inr (1, [.ref bo, .ref hz, .int (nI side), .int (nI kf), .int (nI tq), .ref r1, .ref r2, .ref r3, .ref r4])), (bo, .inr (2, [.ref hz, .ref h0])), (h0, .inr (3, [.int (nI side), .ref a1, .ref a2, .ref a3, .ref a4, .int (pI sm)])), (hz, .inr (5, [.ref t1, .ref t2, .ref t3, .ref t4, .int (nI cn)])), (t1, .inl (cI, 8, .inl (fun j => nI (th j)))), (t2, .inl (cI, 8, .inl (fun j => nI (wi j)))), (t3, .inl (cI, 8, .inl (fun j => nI (wo j)))), (t4, .inl (cI, 8, .inl (fun j => nI (wn j)))), (a3, .inl (cI, ((side + 1) * (side + 1)), .inl (fun j => nI (F3 j)))), (a4, .inl (cI, ((side + 1) * (side + 1)), .inl (fun j => nI (F4 j)))), (r1, .inl (cJ, (side + 1), .inr (.inl (fun j => lI (((planT side kf (sbT side kf th wi wo wn fb fl cn tq) RR TR d).1) j))))), (r2, .inl (cI, side, .inl (fun j => nI (((planT side kf (sbT side kf th wi wo wn fb fl cn tq) RR TR d).2) j)))), (r3, .inl (cJ, (side + 1), .inr (.inl (fun j => lI (RC j))))), (r4, .inl (cI, side, .inl (fun j => iI (SC j))))] → va_S A s.heap H locs → ∀ ls : Array Slot, lv_has ls 3 [(2, .int (iI z)), (0, .ref hb_), (1, .int (nI tq))] → W p l e (headSpec w_Be_plan ({ frames := 5, cells := 0, slots := 0, locals := 133 })).room s m ([.ref hb_, .int (nI tq)]).toArray below meth c H locs 0 0 (MQ below (va_Ql (fun (r : Int64) (u : (Nat → Int) × (Nat → Nat) × (Nat → Int) × (Nat → Int)) => r = lI ((plan0 side kf th wi wo wn fb fl cn tq).1 0) ∧ (∀ j, j ≤ side → u.1 j = (plan0 side kf th wi wo wn fb fl cn tq).1 j) ∧ (∀ j, j < side → u.2.1 j = (plan0 side kf th wi wo wn fb fl cn tq).2 j) ∧ u.2.2.1 side = 0) (fun (u : (Nat → Int) × (Nat → Nat) × (Nat → Int) × (Nat → Int)) t => kE D vwCl A [(hb_, .inr (1, [.ref bo, .ref hz, .int (nI side), .int (nI kf), .int (nI tq), .ref r1, .ref r2, .ref r3, .ref r4])), (bo, .inr (2, [.ref hz, .ref h0])), (h0, .inr (3, [.int (nI side), .ref a1, .ref a2, .ref a3, .ref a4, .int (pI sm)])), (hz, .inr (5, [.ref t1, .ref t2, .ref t3, .ref t4, .int (nI cn)])), (t1, .inl (cI, 8, .inl (fun j => nI (th j)))), (t2, .inl (cI, 8, .inl (fun j => nI (wi j)))), (t3, .inl (cI, 8, .inl (fun j => nI (wo j)))), (t4, .inl (cI, 8, .inl (fun j => nI (wn j)))), (a3, .inl (cI, ((side + 1) * (side + 1)), .inl (fun j => nI (F3 j)))), (a4, .inl (cI, ((side + 1) * (side + 1)), .inl (fun j => nI (F4 j)))), (r1, .inl (cJ, (side + 1), .inr (.inl (fun j => lI (u.1 j))))), (r2, .inl (cI, side, .inl (fun j => nI (u.2.1 j)))), (r3, .inl (cJ, (side + 1), .inr (.inl (fun j => lI (u.2.2.1 j))))), (r4, .inl (cI, side, .inl (fun j => iI (u.2.2.2 j))))] t) A) ([.ref hb_, .int (nI tq)]).toArray s 0 0 A) (F0 m 12 ls []) := by
    intro n
    induction n with
    | zero =>
      intro d z RC SC hi ez hC H locs hP hD hS ls hl
      refine lv_iload_n hx hb d_Be_plan_12 rfl (lv_at hl 0 rfl) ?_
      refine kb_lt (tgt := 27) (iI_t (by omega) (by omega)) hx hb d_Be_plan_13 (by decide) (fun c_13 => ?_) (fun c_13 => ?_)
      · have ed : side = d := by omega
        subst ed
        refine lv_aload_n hx hb d_Be_plan_27 rfl (lv_at hl 1 rfl) ?_
        refine va_get (D := D) (ci := 1) (v := .ref r1) (C := R_Be) (T := T_Be) (N := 9) hx hb hts (fun w h => List.mem_cons_of_mem _ (iw_Be w h)) hown hK hP 0 rfl rfl 5 (by decide) (hts _ (List.mem_cons_of_mem _ k_112)) (fun _ h9 => h9) rfl d_Be_plan_28 ?_
        refine lv_iconst (v := nI 0) hx hb d_Be_plan_31 (by decide +kernel) ?_
        refine ka_lald (k := 0) (n := (side + 1)) (f := fun j => lI (((planT side kf (sbT side kf th wi wo wn fb fl cn tq) RR TR side).1) j)) (nI_t (by omega)) (by omega) hx hb hK hP 10 1 rfl rfl d_Be_plan_32 ?_
        have qs := planT_same (kf := kf) (sb := sbT side kf th wi wo wn fb fl cn tq) (RR := RR) (TR := TR) (RR' := fun _ => 0) (TR' := fun _ => 0) hRR0 side (Nat.le_refl _)
        exact kretl (u := ((planT side kf (sbT side kf th wi wo wn fb fl cn tq) RR TR side).1, (planT side kf (sbT side kf th wi wo wn fb fl cn tq) RR TR side).2, RC, SC)) hx hb hr hP hD hS hlocks rfl (⟨congrArg lI (qs.1 0 (by omega) (by omega)), fun j hj => qs.1 j (by omega) hj, fun j hj => qs.2 j (by omega) hj, hC⟩) d_Be_plan_33
      · exfalso; omega
    | succ n ih =>
      intro d z RC SC hi ez hC H locs hP hD hS ls hl
      refine lv_iload_n hx hb d_Be_plan_12 rfl (lv_at hl 0 rfl) ?_
      refine kb_lt (tgt := 27) (iI_t (by omega) (by omega)) hx hb d_Be_plan_13 (by decide) (fun c_13 => ?_) (fun c_13 => ?_)
      · exfalso; omega
      · refine lv_aload_n hx hb d_Be_plan_16 rfl (lv_at hl 1 rfl) ?_
        refine lv_iload_n hx hb d_Be_plan_17 rfl (lv_at hl 0 rfl) ?_
        refine ka_i (y := nI (side - 1 - d)) (iI_eqn (by omega)) ?_
        refine kcallv (wc := [(hb_, .inr (1, [.ref bo, .ref hz, .int (nI side), .int (nI kf), .int (nI tq), .ref r1, .ref r2, .ref r3, .ref r4])), (bo, .inr (2, [.ref hz, .ref h0])), (h0, .inr (3, [.int (nI side), .ref a1, .ref a2, .ref a3, .ref a4, .int (pI sm)])), (hz, .inr (5, [.ref t1, .ref t2, .ref t3, .ref t4, .int (nI cn)])), (t1, .inl (cI, 8, .inl (fun j => nI (th j)))), (t2, .inl (cI, 8, .inl (fun j => nI (wi j)))), (t3, .inl (cI, 8, .inl (fun j => nI (wo j)))), (t4, .inl (cI, 8, .inl (fun j => nI (wn j)))), (a3, .inl (cI, ((side + 1) * (side + 1)), .inl (fun j => nI (F3 j)))), (a4, .inl (cI, ((side + 1) * (side + 1)), .inl (fun j => nI (F4 j)))), (r1, .inl (cJ, (side + 1), .inr (.inl (fun j => lI (((planT side kf (sbT side kf th wi wo wn fb fl cn tq) RR TR d).1) j))))), (r2, .inl (cI, side, .inl (fun j => nI (((planT side kf (sbT side kf th wi wo wn fb fl cn tq) RR TR d).2) j)))), (r3, .inl (cJ, (side + 1), .inr (.inl (fun j => lI (RC j))))), (r4, .inl (cI, side, .inl (fun j => iI (SC j))))]) (wr := []) [0, 1, 2, 3, 4, 5, 6, 7, 8, 9, 10, 11, 12, 13] [] (va_runV (As := [.int (nI (side - 1 - d))]) (rest := []) ⟨hx, hb, hml, hown, hts⟩ (c_planRow l D cI cJ cZ H.size hb_ bo hz side kf tq r1 r2 r3 r4 h0 a1 a2 a3 a4 sm t1 t2 t3 t4 cn th wi wo wn F3 F4 fb fl ((planT side kf (sbT side kf th wi wo wn fb fl cn tq) RR TR d).1) ((planT side kf (sbT side kf th wi wo wn fb fl cn tq) RR TR d).2) RC SC (side - 1 - d) s1 s2 k4 tq1 n8 ht hw hw1 ho hn m3 m4 hfb hfl (by omega) hC (fun j h3 h4 => (hPB d (by omega)).1 j (by omega) h4)) ⟨callB_of 1 hts (gd kc_Be_planRow) rfl rfl rfl (hts _ (List.mem_cons_of_mem _ k_6)) (hts _ (List.mem_cons_of_mem _ k_216)) (by decide +kernel) ⟨Nat.le_of_ble_eq_true rfl, Nat.le_of_ble_eq_true rfl⟩, hts _ (List.mem_cons_of_mem _ k_218), hts _ (List.mem_cons_of_mem _ ks_1)⟩ ⟨kB_blind, va_recv hK hP (ci := 1) (q0 := 0) rfl rfl, kB_at hP hD hK hZ [0, 1, 2, 3, 4, 5, 6, 7, 8, 9, 10, 11, 12, 13] rfl (by decide) rfl⟩ rfl rfl hl.1 rfl (lv_room (Nat.le_of_ble_eq_true rfl)) d_Be_plan_18 ⟨Nat.zero_le _, Nat.zero_le _⟩) hP hD hS hA rfl rfl (by decide) (by decide) (fun u H locs hw_18 hP hD hS => ?_)
        have hP : va_P D vwCl [(hb_, .inr (1, [.ref bo, .ref hz, .int (nI side), .int (nI kf), .int (nI tq), .ref r1, .ref r2, .ref r3, .ref r4])), (bo, .inr (2, [.ref hz, .ref h0])), (h0, .inr (3, [.int (nI side), .ref a1, .ref a2, .ref a3, .ref a4, .int (pI sm)])), (hz, .inr (5, [.ref t1, .ref t2, .ref t3, .ref t4, .int (nI cn)])), (t1, .inl (cI, 8, .inl (fun j => nI (th j)))), (t2, .inl (cI, 8, .inl (fun j => nI (wi j)))), (t3, .inl (cI, 8, .inl (fun j => nI (wo j)))), (t4, .inl (cI, 8, .inl (fun j => nI (wn j)))), (a3, .inl (cI, ((side + 1) * (side + 1)), .inl (fun j => nI (F3 j)))), (a4, .inl (cI, ((side + 1) * (side + 1)), .inl (fun j => nI (F4 j)))), (r1, .inl (cJ, (side + 1), .inr (.inl (fun j => lI ((va_up ((planT side kf (sbT side kf th wi wo wn fb fl cn tq) RR TR d).1) (side - 1 - d) (rowFold ((planT side kf (sbT side kf th wi wo wn fb fl cn tq) RR TR d).1) side kf (side - 1 - d) (sbR side kf th wi (okC side fb th wi wn tq (side - 1 - d)) (vaC side fl th wi wo tq (side - 1 - d)) cn) (side - (side - 1 - d))).1) j))))), (r2, .inl (cI, side, .inl (fun j => nI ((va_up ((planT side kf (sbT side kf th wi wo wn fb fl cn tq) RR TR d).2) (side - 1 - d) (rowFold ((planT side kf (sbT side kf th wi wo wn fb fl cn tq) RR TR d).1) side kf (side - 1 - d) (sbR side kf th wi (okC side fb th wi wn tq (side - 1 - d)) (vaC side fl th wi wo tq (side - 1 - d)) cn) (side - (side - 1 - d))).2) j)))), (r3, .inl (cJ, (side + 1), .inr (.inl (fun j => lI (u.1 j))))), (r4, .inl (cI, side, .inl (fun j => iI (u.2 j))))] H := hP
        have hD : va_D A [(hb_, .inr (1, [.ref bo, .ref hz, .int (nI side), .int (nI kf), .int (nI tq), .ref r1, .ref r2, .ref r3, .ref r4])), (bo, .inr (2, [.ref hz, .ref h0])), (h0, .inr (3, [.int (nI side), .ref a1, .ref a2, .ref a3, .ref a4, .int (pI sm)])), (hz, .inr (5, [.ref t1, .ref t2, .ref t3, .ref t4, .int (nI cn)])), (t1, .inl (cI, 8, .inl (fun j => nI (th j)))), (t2, .inl (cI, 8, .inl (fun j => nI (wi j)))), (t3, .inl (cI, 8, .inl (fun j => nI (wo j)))), (t4, .inl (cI, 8, .inl (fun j => nI (wn j)))), (a3, .inl (cI, ((side + 1) * (side + 1)), .inl (fun j => nI (F3 j)))), (a4, .inl (cI, ((side + 1) * (side + 1)), .inl (fun j => nI (F4 j)))), (r1, .inl (cJ, (side + 1), .inr (.inl (fun j => lI ((va_up ((planT side kf (sbT side kf th wi wo wn fb fl cn tq) RR TR d).1) (side - 1 - d) (rowFold ((planT side kf (sbT side kf th wi wo wn fb fl cn tq) RR TR d).1) side kf (side - 1 - d) (sbR side kf th wi (okC side fb th wi wn tq (side - 1 - d)) (vaC side fl th wi wo tq (side - 1 - d)) cn) (side - (side - 1 - d))).1) j))))), (r2, .inl (cI, side, .inl (fun j => nI ((va_up ((planT side kf (sbT side kf th wi wo wn fb fl cn tq) RR TR d).2) (side - 1 - d) (rowFold ((planT side kf (sbT side kf th wi wo wn fb fl cn tq) RR TR d).1) side kf (side - 1 - d) (sbR side kf th wi (okC side fb th wi wn tq (side - 1 - d)) (vaC side fl th wi wo tq (side - 1 - d)) cn) (side - (side - 1 - d))).2) j)))), (r3, .inl (cJ, (side + 1), .inr (.inl (fun j => lI (u.1 j))))), (r4, .inl (cI, side, .inl (fun j => iI (u.2 j))))] := hD
        refine lv_iinc (v := iI (z + (-1))) (lv' := [(2, .int (iI (z + (-1)))), (0, .ref hb_), (1, .int (nI tq))]) hx hb d_Be_plan_21 hl (k := 0) rfl (iI_add _ _) (by decide) rfl (fun ls hl => ?_)
        refine lv_goto (tgt := 12) hx hb d_Be_plan_24 (by decide) ?_
        exact ih (d + 1) (z + (-1)) u.1 u.2 (by omega) (by omega) hw_18 _ _ hP hD hS ls (lv_sub hl [0, 1, 2] rfl)
  exact lp side 0 (((side : Nat) : Int) - ((1 : Nat) : Int)) RC SC (by omega) (by omega) hR0 _ _ hP hD hS ls (lv_sub hl [0, 1, 2] rfl)
set_option maxHeartbeats 4000000 in
set_option maxRecDepth 100000 in
theorem c_clear (l : Launch) (D : va_G) (cI cJ cZ : ClassId) (sz : Nat) (hp : Nat) (p1 : Nat) (p2 : Nat) (p3 : Nat) (pt : Nat) (psl : Nat) (pc_ : Nat) (pv : Int) (pce : Nat) (tq : Nat)  : Met l y_Pa_clear w_Pa_clear ({ frames := 0, cells := 0, slots := 0, locals := 0 }) (va_Pc [.ref hp, .int (nI tq)] (kB D vwCl (tyL cI cJ cZ) sz [(hp, .inr (4, [.ref p1, .ref p2, .ref p3, .int (nI pt), .int (nI psl), .int (nI pc_), .int (iI pv), .int (nI pce)]))])) (va_Qv (fun (_ : Unit) => True) (fun (_ : Unit) t => kE D vwCl (va_A [(hp, .inr (4, [.ref p1, .ref p2, .ref p3, .int (nI pt), .int (nI psl), .int (nI pc_), .int (iI pv), .int (nI pce)]))] sz) [(hp, .inr (4, [.ref p1, .ref p2, .ref p3, .int (nI tq), .int (nI 0), .int (nI 0), .int (iI 0), .int (nI 0)]))] t) (va_A [(hp, .inr (4, [.ref p1, .ref p2, .ref p3, .int (nI pt), .int (nI psl), .int (nI pc_), .int (iI pv), .int (nI pce)]))] sz)) 0 0 (va_A [(hp, .inr (4, [.ref p1, .ref p2, .ref p3, .int (nI pt), .int (nI psl), .int (nI pc_), .int (iI pv), .int (nI pce)]))] sz) := by
  refine Met.ofW (cc := b_Pa_clear) (maxL := 2) (ret := none) (by decide) rfl ?_
  intro p e s m args below meth c s₁ B hml hv
  obtain ⟨rfl, hsz, hP, hK, hD0, hZ⟩ := hv
  have hx := B.exec
  have hb := B.bytes
  have hr := B.returns
  have hts := atoms_spec (ws := w_Pa_clear) B.pre
  have hown : s.vm.findClass R_Pa = some m.cls := findClass_of_methodNamed B.named
  have hlocks := B.notSynchronized
  subst hsz
  have hD := hD0.self (sz := s.heap.size)
  generalize hAe : va_A [(hp, .inr (4, [.ref p1, .ref p2, .ref p3, .int (nI pt), .int (nI psl), .int (nI pc_), .int (iI pv), .int (nI pce)]))] s.heap.size = A at hD ⊢
  have hA : ∀ q : Nat, s.heap.size ≤ q → A q := fun q h => by rw [← hAe]; exact Or.inr h
  have hS : va_S A s.heap s.heap [] := va_S.rf
  have hP : va_P D vwCl [(hp, .inr (4, [.ref p1, .ref p2, .ref p3, .int (nI pt), .int (nI psl), .int (nI pc_), .int (iI pv), .int (nI pce)]))] s.heap := hP
  have hl := lv_entry ([.ref hp, .int (nI tq)]) (n := 2) (Nat.le_of_ble_eq_true rfl)
  rw [lg_entry_eq]
  generalize (lg_sl ([.ref hp, .int (nI tq)]) ++ List.replicate (2 - (lg_sl ([.ref hp, .int (nI tq)])).length) Slot.unset).toArray = ls at hl ⊢
  have hl : lv_has ls 2 [(0, .ref hp), (1, .int (nI tq))] := hl
  refine lv_aload_n hx hb d_Pa_clear_0 rfl (lv_at hl 0 rfl) ?_
  refine lv_iload_n hx hb d_Pa_clear_1 rfl (lv_at hl 1 rfl) ?_
  refine va_put (D := D) (ci := 4) (v := .int (nI tq)) (ty := .int) (C := R_Pa) (T := T_Pa) (N := 8) hx hb hts (fun w h => List.mem_cons_of_mem _ (iw_Pa w h)) ty_Pa tyok_Pa nm_Pa hown hK hP hD hS 0 rfl rfl 3 (by decide) (hts _ (List.mem_cons_of_mem _ k_148)) (fun _ h9 => h9) rfl (by decide +kernel) (rfl) (rfl) (Nat.le_of_ble_eq_true rfl) d_Pa_clear_2 (fun H locs hP hD hS => ?_)
  have hP : va_P D vwCl [(hp, .inr (4, [.ref p1, .ref p2, .ref p3, .int (nI tq), .int (nI psl), .int (nI pc_), .int (iI pv), .int (nI pce)]))] H := hP
  have hD : va_D A [(hp, .inr (4, [.ref p1, .ref p2, .ref p3, .int (nI tq), .int (nI psl), .int (nI pc_), .int (iI pv), .int (nI pce)]))] := hD
  refine lv_aload_n hx hb d_Pa_clear_5 rfl (lv_at hl 0 rfl) ?_
  refine lv_iconst (v := nI 0) hx hb d_Pa_clear_6 (by decide +kernel) ?_
  refine va_put (D := D) (ci := 4) (v := .int (nI 0)) (ty := .int) (C := R_Pa) (T := T_Pa) (N := 8) hx hb hts (fun w h => List.mem_cons_of_mem _ (iw_Pa w h)) ty_Pa tyok_Pa nm_Pa hown hK hP hD hS 0 rfl rfl 4 (by decide) (hts _ (List.mem_cons_of_mem _ k_150)) (fun _ h9 => h9) rfl (by decide +kernel) (rfl) (rfl) (Nat.le_of_ble_eq_true rfl) d_Pa_clear_7 (fun H locs hP hD hS => ?_)
  have hP : va_P D vwCl [(hp, .inr (4, [.ref p1, .ref p2, .ref p3, .int (nI tq), .int (nI 0), .int (nI pc_), .int (iI pv), .int (nI pce)]))] H := hP
  have hD : va_D A [(hp, .inr (4, [.ref p1, .ref p2, .ref p3, .int (nI tq), .int (nI 0), .int (nI pc_), .int (iI pv), .int (nI pce)]))] := hD
  refine lv_aload_n hx hb d_Pa_clear_10 rfl (lv_at hl 0 rfl) ?_
  refine lv_iconst (v := nI 0) hx hb d_Pa_clear_11 (by decide +kernel) ?_
  refine va_put (D := D) (ci := 4) (v := .int (nI 0)) (ty := .int) (C := R_Pa) (T := T_Pa) (N := 8) hx hb hts (fun w h => List.mem_cons_of_mem _ (iw_Pa w h)) ty_Pa tyok_Pa nm_Pa hown hK hP hD hS 0 rfl rfl 5 (by decide) (hts _ (List.mem_cons_of_mem _ k_153)) (fun _ h9 => h9) rfl (by decide +kernel) (rfl) (rfl) (Nat.le_of_ble_eq_true rfl) d_Pa_clear_12 (fun H locs hP hD hS => ?_)
  have hP : va_P D vwCl [(hp, .inr (4, [.ref p1, .ref p2, .ref p3, .int (nI tq), .int (nI 0), .int (nI 0), .int (iI pv), .int (nI pce)]))] H := hP
  have hD : va_D A [(hp, .inr (4, [.ref p1, .ref p2, .ref p3, .int (nI tq), .int (nI 0), .int (nI 0), .int (iI pv), .int (nI pce)]))] := hD
  refine lv_aload_n hx hb d_Pa_clear_15 rfl (lv_at hl 0 rfl) ?_
  refine lv_iconst (v := nI 0) hx hb d_Pa_clear_16 (by decide +kernel) ?_
  refine ka_i (y := iI 0) (by decide +kernel) ?_
  refine va_put (D := D) (ci := 4) (v := .int (iI 0)) (ty := .int) (C := R_Pa) (T := T_Pa) (N := 8) hx hb hts (fun w h => List.mem_cons_of_mem _ (iw_Pa w h)) ty_Pa tyok_Pa nm_Pa hown hK hP hD hS 0 rfl rfl 6 (by decide) (hts _ (List.mem_cons_of_mem _ k_155)) (fun _ h9 => h9) rfl (by decide +kernel) (rfl) (rfl) (Nat.le_of_ble_eq_true rfl) d_Pa_clear_17 (fun H locs hP hD hS => ?_)
  have hP : va_P D vwCl [(hp, .inr (4, [.ref p1, .ref p2, .ref p3, .int (nI tq), .int (nI 0), .int (nI 0), .int (iI 0), .int (nI pce)]))] H := hP
  have hD : va_D A [(hp, .inr (4, [.ref p1, .ref p2, .ref p3, .int (nI tq), .int (nI 0), .int (nI 0), .int (iI 0), .int (nI pce)]))] := hD
  refine lv_aload_n hx hb d_Pa_clear_20 rfl (lv_at hl 0 rfl) ?_
  refine lv_iconst (v := nI 0) hx hb d_Pa_clear_21 (by decide +kernel) ?_
  refine va_put (D := D) (ci := 4) (v := .int (nI 0)) (ty := .int) (C := R_Pa) (T := T_Pa) (N := 8) hx hb hts (fun w h => List.mem_cons_of_mem _ (iw_Pa w h)) ty_Pa tyok_Pa nm_Pa hown hK hP hD hS 0 rfl rfl 7 (by decide) (hts _ (List.mem_cons_of_mem _ k_158)) (fun _ h9 => h9) rfl (by decide +kernel) (rfl) (rfl) (Nat.le_of_ble_eq_true rfl) d_Pa_clear_22 (fun H locs hP hD hS => ?_)
  have hP : va_P D vwCl [(hp, .inr (4, [.ref p1, .ref p2, .ref p3, .int (nI tq), .int (nI 0), .int (nI 0), .int (iI 0), .int (nI 0)]))] H := hP
  have hD : va_D A [(hp, .inr (4, [.ref p1, .ref p2, .ref p3, .int (nI tq), .int (nI 0), .int (nI 0), .int (iI 0), .int (nI 0)]))] := hD
  exact kretv (u := ()) hx hb hr hP hD hS hlocks rfl (trivial) d_Pa_clear_25
set_option maxHeartbeats 4000000 in
set_option maxRecDepth 100000 in
theorem c_padd (l : Launch) (D : va_G) (cI cJ cZ : ClassId) (sz : Nat) (hp : Nat) (p1 : Nat) (p2 : Nat) (p3 : Nat) (pt : Nat) (psl : Nat) (pc_ : Nat) (pv : Int) (pce : Nat) (pn : Nat) (g1 : Nat → Nat) (g2 : Nat → Nat) (g3 : Nat → Nat) (i : Nat) (x : Nat) (y : Nat) (hpn : pn ≤ 400) (hct : pc_ < pn) : Met l y_Pa_add w_Pa_add ({ frames := 0, cells := 0, slots := 0, locals := 0 }) (va_Pc [.ref hp, .int (nI i), .int (nI x), .int (nI y)] (kB D vwCl (tyL cI cJ cZ) sz [(hp, .inr (4, [.ref p1, .ref p2, .ref p3, .int (nI pt), .int (nI psl), .int (nI pc_), .int (iI pv), .int (nI pce)])), (p1, .inl (cI, pn, .inl (fun j => nI (g1 j)))), (p2, .inl (cI, pn, .inl (fun j => nI (g2 j)))), (p3, .inl (cI, pn, .inl (fun j => nI (g3 j))))])) (va_Qv (fun (_ : Unit) => True) (fun (_ : Unit) t => kE D vwCl (va_A [(hp, .inr (4, [.ref p1, .ref p2, .ref p3, .int (nI pt), .int (nI psl), .int (nI pc_), .int (iI pv), .int (nI pce)])), (p1, .inl (cI, pn, .inl (fun j => nI (g1 j)))), (p2, .inl (cI, pn, .inl (fun j => nI (g2 j)))), (p3, .inl (cI, pn, .inl (fun j => nI (g3 j))))] sz) [(hp, .inr (4, [.ref p1, .ref p2, .ref p3, .int (nI pt), .int (nI psl), .int (nI (pc_ + 1)), .int (iI pv), .int (nI pce)])), (p1, .inl (cI, pn, .inl (fun j => nI ((va_up g1 pc_ i) j)))), (p2, .inl (cI, pn, .inl (fun j => nI ((va_up g2 pc_ x) j)))), (p3, .inl (cI, pn, .inl (fun j => nI ((va_up g3 pc_ y) j))))] t) (va_A [(hp, .inr (4, [.ref p1, .ref p2, .ref p3, .int (nI pt), .int (nI psl), .int (nI pc_), .int (iI pv), .int (nI pce)])), (p1, .inl (cI, pn, .inl (fun j => nI (g1 j)))), (p2, .inl (cI, pn, .inl (fun j => nI (g2 j)))), (p3, .inl (cI, pn, .inl (fun j => nI (g3 j))))] sz)) 0 0 (va_A [(hp, .inr (4, [.ref p1, .ref p2, .ref p3, .int (nI pt), .int (nI psl), .int (nI pc_), .int (iI pv), .int (nI pce)])), (p1, .inl (cI, pn, .inl (fun j => nI (g1 j)))), (p2, .inl (cI, pn, .inl (fun j => nI (g2 j)))), (p3, .inl (cI, pn, .inl (fun j => nI (g3 j))))] sz) := by
  refine Met.ofW (cc := b_Pa_add) (maxL := 4) (ret := none) (by decide) rfl ?_
  intro p e s m args below meth c s₁ B hml hv
  obtain ⟨rfl, hsz, hP, hK, hD0, hZ⟩ := hv
  have hx := B.exec
  have hb := B.bytes
  have hr := B.returns
  have hts := atoms_spec (ws := w_Pa_add) B.pre
  have hown : s.vm.findClass R_Pa = some m.cls := findClass_of_methodNamed B.named
  have hlocks := B.notSynchronized
  subst hsz
  have hD := hD0.self (sz := s.heap.size)
  generalize hAe : va_A [(hp, .inr (4, [.ref p1, .ref p2, .ref p3, .int (nI pt), .int (nI psl), .int (nI pc_), .int (iI pv), .int (nI pce)])), (p1, .inl (cI, pn, .inl (fun j => nI (g1 j)))), (p2, .inl (cI, pn, .inl (fun j => nI (g2 j)))), (p3, .inl (cI, pn, .inl (fun j => nI (g3 j))))] s.heap.size = A at hD ⊢
  have hA : ∀ q : Nat, s.heap.size ≤ q → A q := fun q h => by rw [← hAe]; exact Or.inr h
  have hS : va_S A s.heap s.heap [] := va_S.rf
  have hP : va_P D vwCl [(hp, .inr (4, [.ref p1, .ref p2, .ref p3, .int (nI pt), .int (nI psl), .int (nI pc_), .int (iI pv), .int (nI pce)])), (p1, .inl (cI, pn, .inl (fun j => nI (g1 j)))), (p2, .inl (cI, pn, .inl (fun j => nI (g2 j)))), (p3, .inl (cI, pn, .inl (fun j => nI (g3 j))))] s.heap := hP
  have hl := lv_entry ([.ref hp, .int (nI i), .int (nI x), .int (nI y)]) (n := 4) (Nat.le_of_ble_eq_true rfl)
  rw [lg_entry_eq]
  generalize (lg_sl ([.ref hp, .int (nI i), .int (nI x), .int (nI y)]) ++ List.replicate (4 - (lg_sl ([.ref hp, .int (nI i), .int (nI x), .int (nI y)])).length) Slot.unset).toArray = ls at hl ⊢
  have hl : lv_has ls 4 [(0, .ref hp), (1, .int (nI i)), (2, .int (nI x)), (3, .int (nI y))] := hl
  refine lv_aload_n hx hb d_Pa_add_0 rfl (lv_at hl 0 rfl) ?_
  refine va_get (D := D) (ci := 4) (v := .int (nI pc_)) (C := R_Pa) (T := T_Pa) (N := 8) hx hb hts (fun w h => List.mem_cons_of_mem _ (iw_Pa w h)) hown hK hP 0 rfl rfl 5 (by decide) (hts _ (List.mem_cons_of_mem _ k_153)) (fun _ h9 => h9) rfl d_Pa_add_1 ?_
  refine lv_aload_n hx hb d_Pa_add_4 rfl (lv_at hl 0 rfl) ?_
  refine va_get (D := D) (ci := 4) (v := .ref p1) (C := R_Pa) (T := T_Pa) (N := 8) hx hb hts (fun w h => List.mem_cons_of_mem _ (iw_Pa w h)) hown hK hP 0 rfl rfl 0 (by decide) (hts _ (List.mem_cons_of_mem _ k_142)) (fun _ h9 => h9) rfl d_Pa_add_5 ?_
  refine va_alen (v := nI pn) hx hb hK hP 1 0 rfl rfl rfl d_Pa_add_8 ?_
  refine kb_clt (tgt := 13) (nI_t (by omega)) (nI_t (by omega)) hx hb d_Pa_add_9 (by decide) (fun c_9 => ?_) (fun c_9 => ?_)
  · refine lv_aload_n hx hb d_Pa_add_13 rfl (lv_at hl 0 rfl) ?_
    refine va_get (D := D) (ci := 4) (v := .ref p1) (C := R_Pa) (T := T_Pa) (N := 8) hx hb hts (fun w h => List.mem_cons_of_mem _ (iw_Pa w h)) hown hK hP 0 rfl rfl 0 (by decide) (hts _ (List.mem_cons_of_mem _ k_142)) (fun _ h9 => h9) rfl d_Pa_add_14 ?_
    refine lv_aload_n hx hb d_Pa_add_17 rfl (lv_at hl 0 rfl) ?_
    refine va_get (D := D) (ci := 4) (v := .int (nI pc_)) (C := R_Pa) (T := T_Pa) (N := 8) hx hb hts (fun w h => List.mem_cons_of_mem _ (iw_Pa w h)) hown hK hP 0 rfl rfl 5 (by decide) (hts _ (List.mem_cons_of_mem _ k_153)) (fun _ h9 => h9) rfl d_Pa_add_18 ?_
    refine lv_iload_n hx hb d_Pa_add_21 rfl (lv_at hl 1 rfl) ?_
    refine ka_iastN (F := g1) (v := i) (k := pc_) (n := pn) (nI_t (by omega)) (by omega) hx hb hK hP hD hS 1 0 rfl rfl d_Pa_add_22 (fun H locs hP hD hS => ?_)
    have hP : va_P D vwCl [(hp, .inr (4, [.ref p1, .ref p2, .ref p3, .int (nI pt), .int (nI psl), .int (nI pc_), .int (iI pv), .int (nI pce)])), (p1, .inl (cI, pn, .inl (fun j => nI ((va_up g1 pc_ i) j)))), (p2, .inl (cI, pn, .inl (fun j => nI (g2 j)))), (p3, .inl (cI, pn, .inl (fun j => nI (g3 j))))] H := hP
    have hD : va_D A [(hp, .inr (4, [.ref p1, .ref p2, .ref p3, .int (nI pt), .int (nI psl), .int (nI pc_), .int (iI pv), .int (nI pce)])), (p1, .inl (cI, pn, .inl (fun j => nI ((va_up g1 pc_ i) j)))), (p2, .inl (cI, pn, .inl (fun j => nI (g2 j)))), (p3, .inl (cI, pn, .inl (fun j => nI (g3 j))))] := hD
    refine lv_aload_n hx hb d_Pa_add_23 rfl (lv_at hl 0 rfl) ?_
    refine va_get (D := D) (ci := 4) (v := .ref p2) (C := R_Pa) (T := T_Pa) (N := 8) hx hb hts (fun w h => List.mem_cons_of_mem _ (iw_Pa w h)) hown hK hP 0 rfl rfl 1 (by decide) (hts _ (List.mem_cons_of_mem _ k_144)) (fun _ h9 => h9) rfl d_Pa_add_24 ?_
    refine lv_aload_n hx hb d_Pa_add_27 rfl (lv_at hl 0 rfl) ?_
    refine va_get (D := D) (ci := 4) (v := .int (nI pc_)) (C := R_Pa) (T := T_Pa) (N := 8) hx hb hts (fun w h => List.mem_cons_of_mem _ (iw_Pa w h)) hown hK hP 0 rfl rfl 5 (by decide) (hts _ (List.mem_cons_of_mem _ k_153)) (fun _ h9 => h9) rfl d_Pa_add_28 ?_
    refine lv_iload_n hx hb d_Pa_add_31 rfl (lv_at hl 2 rfl) ?_
    refine ka_iastN (F := g2) (v := x) (k := pc_) (n := pn) (nI_t (by omega)) (by omega) hx hb hK hP hD hS 2 0 rfl rfl d_Pa_add_32 (fun H locs hP hD hS => ?_)
    have hP : va_P D vwCl [(hp, .inr (4, [.ref p1, .ref p2, .ref p3, .int (nI pt), .int (nI psl), .int (nI pc_), .int (iI pv), .int (nI pce)])), (p1, .inl (cI, pn, .inl (fun j => nI ((va_up g1 pc_ i) j)))), (p2, .inl (cI, pn, .inl (fun j => nI ((va_up g2 pc_ x) j)))), (p3, .inl (cI, pn, .inl (fun j => nI (g3 j))))] H := hP
    have hD : va_D A [(hp, .inr (4, [.ref p1, .ref p2, .ref p3, .int (nI pt), .int (nI psl), .int (nI pc_), .int (iI pv), .int (nI pce)])), (p1, .inl (cI, pn, .inl (fun j => nI ((va_up g1 pc_ i) j)))), (p2, .inl (cI, pn, .inl (fun j => nI ((va_up g2 pc_ x) j)))), (p3, .inl (cI, pn, .inl (fun j => nI (g3 j))))] := hD
    refine lv_aload_n hx hb d_Pa_add_33 rfl (lv_at hl 0 rfl) ?_
    refine va_get (D := D) (ci := 4) (v := .ref p3) (C := R_Pa) (T := T_Pa) (N := 8) hx hb hts (fun w h => List.mem_cons_of_mem _ (iw_Pa w h)) hown hK hP 0 rfl rfl 2 (by decide) (hts _ (List.mem_cons_of_mem _ k_146)) (fun _ h9 => h9) rfl d_Pa_add_34 ?_
    refine lv_aload_n hx hb d_Pa_add_37 rfl (lv_at hl 0 rfl) ?_
    refine va_get (D := D) (ci := 4) (v := .int (nI pc_)) (C := R_Pa) (T := T_Pa) (N := 8) hx hb hts (fun w h => List.mem_cons_of_mem _ (iw_Pa w h)) hown hK hP 0 rfl rfl 5 (by decide) (hts _ (List.mem_cons_of_mem _ k_153)) (fun _ h9 => h9) rfl d_Pa_add_38 ?_
    refine lv_iload_n hx hb d_Pa_add_41 rfl (lv_at hl 3 rfl) ?_
    refine ka_iastN (F := g3) (v := y) (k := pc_) (n := pn) (nI_t (by omega)) (by omega) hx hb hK hP hD hS 3 0 rfl rfl d_Pa_add_42 (fun H locs hP hD hS => ?_)
    have hP : va_P D vwCl [(hp, .inr (4, [.ref p1, .ref p2, .ref p3, .int (nI pt), .int (nI psl), .int (nI pc_), .int (iI pv), .int (nI pce)])), (p1, .inl (cI, pn, .inl (fun j => nI ((va_up g1 pc_ i) j)))), (p2, .inl (cI, pn, .inl (fun j => nI ((va_up g2 pc_ x) j)))), (p3, .inl (cI, pn, .inl (fun j => nI ((va_up g3 pc_ y) j))))] H := hP
    have hD : va_D A [(hp, .inr (4, [.ref p1, .ref p2, .ref p3, .int (nI pt), .int (nI psl), .int (nI pc_), .int (iI pv), .int (nI pce)])), (p1, .inl (cI, pn, .inl (fun j => nI ((va_up g1 pc_ i) j)))), (p2, .inl (cI, pn, .inl (fun j => nI ((va_up g2 pc_ x) j)))), (p3, .inl (cI, pn, .inl (fun j => nI ((va_up g3 pc_ y) j))))] := hD
    refine lv_aload_n hx hb d_Pa_add_43 rfl (lv_at hl 0 rfl) ?_
    refine lv_dup hx hb d_Pa_add_44 rfl ?_
    refine va_get (D := D) (ci := 4) (v := .int (nI pc_)) (C := R_Pa) (T := T_Pa) (N := 8) hx hb hts (fun w h => List.mem_cons_of_mem _ (iw_Pa w h)) hown hK hP 0 rfl rfl 5 (by decide) (hts _ (List.mem_cons_of_mem _ k_153)) (fun _ h9 => h9) rfl d_Pa_add_45 ?_
    refine lv_iconst (v := nI 1) hx hb d_Pa_add_48 (by decide +kernel) ?_
    refine lv_iadd hx hb d_Pa_add_49 ?_
    refine ka_i (y := nI (pc_ + 1)) (nI_add _ _) ?_
    refine va_put (D := D) (ci := 4) (v := .int (nI (pc_ + 1))) (ty := .int) (C := R_Pa) (T := T_Pa) (N := 8) hx hb hts (fun w h => List.mem_cons_of_mem _ (iw_Pa w h)) ty_Pa tyok_Pa nm_Pa hown hK hP hD hS 0 rfl rfl 5 (by decide) (hts _ (List.mem_cons_of_mem _ k_153)) (fun _ h9 => h9) rfl (by decide +kernel) (rfl) (rfl) (Nat.le_of_ble_eq_true rfl) d_Pa_add_50 (fun H locs hP hD hS => ?_)
    have hP : va_P D vwCl [(hp, .inr (4, [.ref p1, .ref p2, .ref p3, .int (nI pt), .int (nI psl), .int (nI (pc_ + 1)), .int (iI pv), .int (nI pce)])), (p1, .inl (cI, pn, .inl (fun j => nI ((va_up g1 pc_ i) j)))), (p2, .inl (cI, pn, .inl (fun j => nI ((va_up g2 pc_ x) j)))), (p3, .inl (cI, pn, .inl (fun j => nI ((va_up g3 pc_ y) j))))] H := hP
    have hD : va_D A [(hp, .inr (4, [.ref p1, .ref p2, .ref p3, .int (nI pt), .int (nI psl), .int (nI (pc_ + 1)), .int (iI pv), .int (nI pce)])), (p1, .inl (cI, pn, .inl (fun j => nI ((va_up g1 pc_ i) j)))), (p2, .inl (cI, pn, .inl (fun j => nI ((va_up g2 pc_ x) j)))), (p3, .inl (cI, pn, .inl (fun j => nI ((va_up g3 pc_ y) j))))] := hD
    exact kretv (u := ()) hx hb hr hP hD hS hlocks rfl (trivial) d_Pa_add_53
  · exfalso; omega
set_option maxHeartbeats 4000000 in
set_option maxRecDepth 100000 in
theorem c_sadd (l : Launch) (D : va_G) (cI cJ cZ : ClassId) (sz : Nat) (hz : Nat) (t1 : Nat) (t2 : Nat) (t3 : Nat) (t4 : Nat) (cn : Nat) (th : Nat → Nat) (wi : Nat → Nat) (wo : Nat → Nat) (wn : Nat → Nat) (q1 : Nat) (q2 : Nat) (q3 : Nat) (q4 : Nat) (hcn : cn < 8) : Met l y_Si_add w_Si_add ({ frames := 0, cells := 0, slots := 0, locals := 0 }) (va_Pc [.ref hz, .int (nI q1), .int (nI q2), .int (nI q3), .int (nI q4)] (kB D vwCl (tyL cI cJ cZ) sz [(hz, .inr (5, [.ref t1, .ref t2, .ref t3, .ref t4, .int (nI cn)])), (t1, .inl (cI, 8, .inl (fun j => nI (th j)))), (t2, .inl (cI, 8, .inl (fun j => nI (wi j)))), (t3, .inl (cI, 8, .inl (fun j => nI (wo j)))), (t4, .inl (cI, 8, .inl (fun j => nI (wn j))))])) (va_Qi (fun (r : Int32) (_ : Unit) => r = nI cn) (fun (_ : Unit) t => kE D vwCl (va_A [(hz, .inr (5, [.ref t1, .ref t2, .ref t3, .ref t4, .int (nI cn)])), (t1, .inl (cI, 8, .inl (fun j => nI (th j)))), (t2, .inl (cI, 8, .inl (fun j => nI (wi j)))), (t3, .inl (cI, 8, .inl (fun j => nI (wo j)))), (t4, .inl (cI, 8, .inl (fun j => nI (wn j))))] sz) [(hz, .inr (5, [.ref t1, .ref t2, .ref t3, .ref t4, .int (nI (cn + 1))])), (t1, .inl (cI, 8, .inl (fun j => nI ((va_up th cn q1) j)))), (t2, .inl (cI, 8, .inl (fun j => nI ((va_up wi cn q2) j)))), (t3, .inl (cI, 8, .inl (fun j => nI ((va_up wo cn q3) j)))), (t4, .inl (cI, 8, .inl (fun j => nI ((va_up wn cn q4) j))))] t) (va_A [(hz, .inr (5, [.ref t1, .ref t2, .ref t3, .ref t4, .int (nI cn)])), (t1, .inl (cI, 8, .inl (fun j => nI (th j)))), (t2, .inl (cI, 8, .inl (fun j => nI (wi j)))), (t3, .inl (cI, 8, .inl (fun j => nI (wo j)))), (t4, .inl (cI, 8, .inl (fun j => nI (wn j))))] sz)) 0 0 (va_A [(hz, .inr (5, [.ref t1, .ref t2, .ref t3, .ref t4, .int (nI cn)])), (t1, .inl (cI, 8, .inl (fun j => nI (th j)))), (t2, .inl (cI, 8, .inl (fun j => nI (wi j)))), (t3, .inl (cI, 8, .inl (fun j => nI (wo j)))), (t4, .inl (cI, 8, .inl (fun j => nI (wn j))))] sz) := by
  refine Met.ofW (cc := b_Si_add) (maxL := 5) (ret := (some (.int))) (by decide) rfl ?_
  intro p e s m args below meth c s₁ B hml hv
  obtain ⟨rfl, hsz, hP, hK, hD0, hZ⟩ := hv
  have hx := B.exec
  have hb := B.bytes
  have hr := B.returns
  have hts := atoms_spec (ws := w_Si_add) B.pre
  have hown : s.vm.findClass R_Si = some m.cls := findClass_of_methodNamed B.named
  have hlocks := B.notSynchronized
  subst hsz
  have hD := hD0.self (sz := s.heap.size)
  generalize hAe : va_A [(hz, .inr (5, [.ref t1, .ref t2, .ref t3, .ref t4, .int (nI cn)])), (t1, .inl (cI, 8, .inl (fun j => nI (th j)))), (t2, .inl (cI, 8, .inl (fun j => nI (wi j)))), (t3, .inl (cI, 8, .inl (fun j => nI (wo j)))), (t4, .inl (cI, 8, .inl (fun j => nI (wn j))))] s.heap.size = A at hD ⊢
  have hA : ∀ q : Nat, s.heap.size ≤ q → A q := fun q h => by rw [← hAe]; exact Or.inr h
  have hS : va_S A s.heap s.heap [] := va_S.rf
  have hP : va_P D vwCl [(hz, .inr (5, [.ref t1, .ref t2, .ref t3, .ref t4, .int (nI cn)])), (t1, .inl (cI, 8, .inl (fun j => nI (th j)))), (t2, .inl (cI, 8, .inl (fun j => nI (wi j)))), (t3, .inl (cI, 8, .inl (fun j => nI (wo j)))), (t4, .inl (cI, 8, .inl (fun j => nI (wn j))))] s.heap := hP
  have hl := lv_entry ([.ref hz, .int (nI q1), .int (nI q2), .int (nI q3), .int (nI q4)]) (n := 5) (Nat.le_of_ble_eq_true rfl)
  rw [lg_entry_eq]
  generalize (lg_sl ([.ref hz, .int (nI q1), .int (nI q2), .int (nI q3), .int (nI q4)]) ++ List.replicate (5 - (lg_sl ([.ref hz, .int (nI q1), .int (nI q2), .int (nI q3), .int (nI q4)])).length) Slot.unset).toArray = ls at hl ⊢
  have hl : lv_has ls 5 [(0, .ref hz), (1, .int (nI q1)), (2, .int (nI q2)), (3, .int (nI q3)), (4, .int (nI q4))] := hl
  refine lv_aload_n hx hb d_Si_add_0 rfl (lv_at hl 0 rfl) ?_
  refine va_get (D := D) (ci := 5) (v := .int (nI cn)) (C := R_Si) (T := T_Si) (N := 5) hx hb hts (fun w h => List.mem_cons_of_mem _ (iw_Si w h)) hown hK hP 0 rfl rfl 4 (by decide) (hts _ (List.mem_cons_of_mem _ k_73)) (fun _ h9 => h9) rfl d_Si_add_1 ?_
  refine lv_bipush (v := nI 8) hx hb d_Si_add_4 (by decide +kernel) ?_
  refine kb_clt (tgt := 11) (nI_t (by omega)) (nI_t (by omega)) hx hb d_Si_add_6 (by decide) (fun c_6 => ?_) (fun c_6 => ?_)
  · refine lv_aload_n hx hb d_Si_add_11 rfl (lv_at hl 0 rfl) ?_
    refine va_get (D := D) (ci := 5) (v := .ref t1) (C := R_Si) (T := T_Si) (N := 5) hx hb hts (fun w h => List.mem_cons_of_mem _ (iw_Si w h)) hown hK hP 0 rfl rfl 0 (by decide) (hts _ (List.mem_cons_of_mem _ k_65)) (fun _ h9 => h9) rfl d_Si_add_12 ?_
    refine lv_aload_n hx hb d_Si_add_15 rfl (lv_at hl 0 rfl) ?_
    refine va_get (D := D) (ci := 5) (v := .int (nI cn)) (C := R_Si) (T := T_Si) (N := 5) hx hb hts (fun w h => List.mem_cons_of_mem _ (iw_Si w h)) hown hK hP 0 rfl rfl 4 (by decide) (hts _ (List.mem_cons_of_mem _ k_73)) (fun _ h9 => h9) rfl d_Si_add_16 ?_
    refine lv_iload_n hx hb d_Si_add_19 rfl (lv_at hl 1 rfl) ?_
    refine ka_iastN (F := th) (v := q1) (k := cn) (n := 8) (nI_t (by omega)) (by omega) hx hb hK hP hD hS 1 0 rfl rfl d_Si_add_20 (fun H locs hP hD hS => ?_)
    have hP : va_P D vwCl [(hz, .inr (5, [.ref t1, .ref t2, .ref t3, .ref t4, .int (nI cn)])), (t1, .inl (cI, 8, .inl (fun j => nI ((va_up th cn q1) j)))), (t2, .inl (cI, 8, .inl (fun j => nI (wi j)))), (t3, .inl (cI, 8, .inl (fun j => nI (wo j)))), (t4, .inl (cI, 8, .inl (fun j => nI (wn j))))] H := hP
    have hD : va_D A [(hz, .inr (5, [.ref t1, .ref t2, .ref t3, .ref t4, .int (nI cn)])), (t1, .inl (cI, 8, .inl (fun j => nI ((va_up th cn q1) j)))), (t2, .inl (cI, 8, .inl (fun j => nI (wi j)))), (t3, .inl (cI, 8, .inl (fun j => nI (wo j)))), (t4, .inl (cI, 8, .inl (fun j => nI (wn j))))] := hD
    refine lv_aload_n hx hb d_Si_add_21 rfl (lv_at hl 0 rfl) ?_
    refine va_get (D := D) (ci := 5) (v := .ref t2) (C := R_Si) (T := T_Si) (N := 5) hx hb hts (fun w h => List.mem_cons_of_mem _ (iw_Si w h)) hown hK hP 0 rfl rfl 1 (by decide) (hts _ (List.mem_cons_of_mem _ k_67)) (fun _ h9 => h9) rfl d_Si_add_22 ?_
    refine lv_aload_n hx hb d_Si_add_25 rfl (lv_at hl 0 rfl) ?_
    refine va_get (D := D) (ci := 5) (v := .int (nI cn)) (C := R_Si) (T := T_Si) (N := 5) hx hb hts (fun w h => List.mem_cons_of_mem _ (iw_Si w h)) hown hK hP 0 rfl rfl 4 (by decide) (hts _ (List.mem_cons_of_mem _ k_73)) (fun _ h9 => h9) rfl d_Si_add_26 ?_
    refine lv_iload_n hx hb d_Si_add_29 rfl (lv_at hl 2 rfl) ?_
    refine ka_iastN (F := wi) (v := q2) (k := cn) (n := 8) (nI_t (by omega)) (by omega) hx hb hK hP hD hS 2 0 rfl rfl d_Si_add_30 (fun H locs hP hD hS => ?_)
    have hP : va_P D vwCl [(hz, .inr (5, [.ref t1, .ref t2, .ref t3, .ref t4, .int (nI cn)])), (t1, .inl (cI, 8, .inl (fun j => nI ((va_up th cn q1) j)))), (t2, .inl (cI, 8, .inl (fun j => nI ((va_up wi cn q2) j)))), (t3, .inl (cI, 8, .inl (fun j => nI (wo j)))), (t4, .inl (cI, 8, .inl (fun j => nI (wn j))))] H := hP
    have hD : va_D A [(hz, .inr (5, [.ref t1, .ref t2, .ref t3, .ref t4, .int (nI cn)])), (t1, .inl (cI, 8, .inl (fun j => nI ((va_up th cn q1) j)))), (t2, .inl (cI, 8, .inl (fun j => nI ((va_up wi cn q2) j)))), (t3, .inl (cI, 8, .inl (fun j => nI (wo j)))), (t4, .inl (cI, 8, .inl (fun j => nI (wn j))))] := hD
    refine lv_aload_n hx hb d_Si_add_31 rfl (lv_at hl 0 rfl) ?_
    refine va_get (D := D) (ci := 5) (v := .ref t3) (C := R_Si) (T := T_Si) (N := 5) hx hb hts (fun w h => List.mem_cons_of_mem _ (iw_Si w h)) hown hK hP 0 rfl rfl 2 (by decide) (hts _ (List.mem_cons_of_mem _ k_69)) (fun _ h9 => h9) rfl d_Si_add_32 ?_
    refine lv_aload_n hx hb d_Si_add_35 rfl (lv_at hl 0 rfl) ?_
    refine va_get (D := D) (ci := 5) (v := .int (nI cn)) (C := R_Si) (T := T_Si) (N := 5) hx hb hts (fun w h => List.mem_cons_of_mem _ (iw_Si w h)) hown hK hP 0 rfl rfl 4 (by decide) (hts _ (List.mem_cons_of_mem _ k_73)) (fun _ h9 => h9) rfl d_Si_add_36 ?_
    refine lv_iload_n hx hb d_Si_add_39 rfl (lv_at hl 3 rfl) ?_
    refine ka_iastN (F := wo) (v := q3) (k := cn) (n := 8) (nI_t (by omega)) (by omega) hx hb hK hP hD hS 3 0 rfl rfl d_Si_add_40 (fun H locs hP hD hS => ?_)
    have hP : va_P D vwCl [(hz, .inr (5, [.ref t1, .ref t2, .ref t3, .ref t4, .int (nI cn)])), (t1, .inl (cI, 8, .inl (fun j => nI ((va_up th cn q1) j)))), (t2, .inl (cI, 8, .inl (fun j => nI ((va_up wi cn q2) j)))), (t3, .inl (cI, 8, .inl (fun j => nI ((va_up wo cn q3) j)))), (t4, .inl (cI, 8, .inl (fun j => nI (wn j))))] H := hP
    have hD : va_D A [(hz, .inr (5, [.ref t1, .ref t2, .ref t3, .ref t4, .int (nI cn)])), (t1, .inl (cI, 8, .inl (fun j => nI ((va_up th cn q1) j)))), (t2, .inl (cI, 8, .inl (fun j => nI ((va_up wi cn q2) j)))), (t3, .inl (cI, 8, .inl (fun j => nI ((va_up wo cn q3) j)))), (t4, .inl (cI, 8, .inl (fun j => nI (wn j))))] := hD
    refine lv_aload_n hx hb d_Si_add_41 rfl (lv_at hl 0 rfl) ?_
    refine va_get (D := D) (ci := 5) (v := .ref t4) (C := R_Si) (T := T_Si) (N := 5) hx hb hts (fun w h => List.mem_cons_of_mem _ (iw_Si w h)) hown hK hP 0 rfl rfl 3 (by decide) (hts _ (List.mem_cons_of_mem _ k_71)) (fun _ h9 => h9) rfl d_Si_add_42 ?_
    refine lv_aload_n hx hb d_Si_add_45 rfl (lv_at hl 0 rfl) ?_
    refine va_get (D := D) (ci := 5) (v := .int (nI cn)) (C := R_Si) (T := T_Si) (N := 5) hx hb hts (fun w h => List.mem_cons_of_mem _ (iw_Si w h)) hown hK hP 0 rfl rfl 4 (by decide) (hts _ (List.mem_cons_of_mem _ k_73)) (fun _ h9 => h9) rfl d_Si_add_46 ?_
    refine lv_iload hx hb d_Si_add_49 (lv_at hl 4 rfl) ?_
    refine ka_iastN (F := wn) (v := q4) (k := cn) (n := 8) (nI_t (by omega)) (by omega) hx hb hK hP hD hS 4 0 rfl rfl d_Si_add_51 (fun H locs hP hD hS => ?_)
    have hP : va_P D vwCl [(hz, .inr (5, [.ref t1, .ref t2, .ref t3, .ref t4, .int (nI cn)])), (t1, .inl (cI, 8, .inl (fun j => nI ((va_up th cn q1) j)))), (t2, .inl (cI, 8, .inl (fun j => nI ((va_up wi cn q2) j)))), (t3, .inl (cI, 8, .inl (fun j => nI ((va_up wo cn q3) j)))), (t4, .inl (cI, 8, .inl (fun j => nI ((va_up wn cn q4) j))))] H := hP
    have hD : va_D A [(hz, .inr (5, [.ref t1, .ref t2, .ref t3, .ref t4, .int (nI cn)])), (t1, .inl (cI, 8, .inl (fun j => nI ((va_up th cn q1) j)))), (t2, .inl (cI, 8, .inl (fun j => nI ((va_up wi cn q2) j)))), (t3, .inl (cI, 8, .inl (fun j => nI ((va_up wo cn q3) j)))), (t4, .inl (cI, 8, .inl (fun j => nI ((va_up wn cn q4) j))))] := hD
    refine lv_aload_n hx hb d_Si_add_52 rfl (lv_at hl 0 rfl) ?_
    refine lv_dup hx hb d_Si_add_53 rfl ?_
    refine va_get (D := D) (ci := 5) (v := .int (nI cn)) (C := R_Si) (T := T_Si) (N := 5) hx hb hts (fun w h => List.mem_cons_of_mem _ (iw_Si w h)) hown hK hP 0 rfl rfl 4 (by decide) (hts _ (List.mem_cons_of_mem _ k_73)) (fun _ h9 => h9) rfl d_Si_add_54 ?_
    refine lv_iconst (v := nI 1) hx hb d_Si_add_57 (by decide +kernel) ?_
    refine lv_iadd hx hb d_Si_add_58 ?_
    refine ka_i (y := nI (cn + 1)) (nI_add _ _) ?_
    refine va_put (D := D) (ci := 5) (v := .int (nI (cn + 1))) (ty := .int) (C := R_Si) (T := T_Si) (N := 5) hx hb hts (fun w h => List.mem_cons_of_mem _ (iw_Si w h)) ty_Si tyok_Si nm_Si hown hK hP hD hS 0 rfl rfl 4 (by decide) (hts _ (List.mem_cons_of_mem _ k_73)) (fun _ h9 => h9) rfl (by decide +kernel) (rfl) (rfl) (Nat.le_of_ble_eq_true rfl) d_Si_add_59 (fun H locs hP hD hS => ?_)
    have hP : va_P D vwCl [(hz, .inr (5, [.ref t1, .ref t2, .ref t3, .ref t4, .int (nI (cn + 1))])), (t1, .inl (cI, 8, .inl (fun j => nI ((va_up th cn q1) j)))), (t2, .inl (cI, 8, .inl (fun j => nI ((va_up wi cn q2) j)))), (t3, .inl (cI, 8, .inl (fun j => nI ((va_up wo cn q3) j)))), (t4, .inl (cI, 8, .inl (fun j => nI ((va_up wn cn q4) j))))] H := hP
    have hD : va_D A [(hz, .inr (5, [.ref t1, .ref t2, .ref t3, .ref t4, .int (nI (cn + 1))])), (t1, .inl (cI, 8, .inl (fun j => nI ((va_up th cn q1) j)))), (t2, .inl (cI, 8, .inl (fun j => nI ((va_up wi cn q2) j)))), (t3, .inl (cI, 8, .inl (fun j => nI ((va_up wo cn q3) j)))), (t4, .inl (cI, 8, .inl (fun j => nI ((va_up wn cn q4) j))))] := hD
    refine lv_aload_n hx hb d_Si_add_62 rfl (lv_at hl 0 rfl) ?_
    refine va_get (D := D) (ci := 5) (v := .int (nI (cn + 1))) (C := R_Si) (T := T_Si) (N := 5) hx hb hts (fun w h => List.mem_cons_of_mem _ (iw_Si w h)) hown hK hP 0 rfl rfl 4 (by decide) (hts _ (List.mem_cons_of_mem _ k_73)) (fun _ h9 => h9) rfl d_Si_add_63 ?_
    refine lv_iconst (v := nI 1) hx hb d_Si_add_66 (by decide +kernel) ?_
    refine lv_isub hx hb d_Si_add_67 ?_
    refine ka_i (y := nI ((cn + 1) - 1)) (pk_sub (by omega)) ?_
    refine ka_i (y := nI cn) (congrArg nI (by omega)) ?_
    exact kreti (u := ()) hx hb hr hP hD hS hlocks rfl (rfl) d_Si_add_68
  · exfalso; omega
