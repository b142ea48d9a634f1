theorem d_Bo_fits_0 : decode b_Bo_fits 0 = .ok (.aload_n 0, 1) := by decide +kernel
theorem d_Bo_fits_1 : decode b_Bo_fits 1 = .ok (.getfield 9, 3) := by decide +kernel
theorem d_Bo_fits_4 : decode b_Bo_fits 4 = .ok (.aload_n 0, 1) := by decide +kernel
theorem d_Bo_fits_5 : decode b_Bo_fits 5 = .ok (.getfield 9, 3) := by decide +kernel
theorem d_Bo_fits_8 : decode b_Bo_fits 8 = .ok (.getfield 19, 3) := by decide +kernel
theorem d_Bo_fits_11 : decode b_Bo_fits 11 = .ok (.iload_n 2, 1) := by decide +kernel
theorem d_Bo_fits_12 : decode b_Bo_fits 12 = .ok (.iload_n 3, 1) := by decide +kernel
theorem d_Bo_fits_13 : decode b_Bo_fits 13 = .ok (.aload_n 0, 1) := by decide +kernel
theorem d_Bo_fits_14 : decode b_Bo_fits 14 = .ok (.getfield 15, 3) := by decide +kernel
theorem d_Bo_fits_17 : decode b_Bo_fits 17 = .ok (.iload_n 1, 1) := by decide +kernel
theorem d_Bo_fits_18 : decode b_Bo_fits 18 = .ok (.iload 4, 2) := by decide +kernel
theorem d_Bo_fits_20 : decode b_Bo_fits 20 = .ok (.invokevirtual 25, 3) := by decide +kernel
theorem d_Bo_fits_23 : decode b_Bo_fits 23 = .ok (.aload_n 0, 1) := by decide +kernel
theorem d_Bo_fits_24 : decode b_Bo_fits 24 = .ok (.getfield 15, 3) := by decide +kernel
theorem d_Bo_fits_27 : decode b_Bo_fits 27 = .ok (.iload_n 1, 1) := by decide +kernel
theorem d_Bo_fits_28 : decode b_Bo_fits 28 = .ok (.iload 4, 2) := by decide +kernel
theorem d_Bo_fits_30 : decode b_Bo_fits 30 = .ok (.invokevirtual 31, 3) := by decide +kernel
theorem d_Bo_fits_33 : decode b_Bo_fits 33 = .ok (.invokevirtual 34, 3) := by decide +kernel
theorem d_Bo_fits_36 : decode b_Bo_fits 36 = .ok (.istore 5, 2) := by decide +kernel
theorem d_Bo_fits_38 : decode b_Bo_fits 38 = .ok (.iload 5, 2) := by decide +kernel
theorem d_Bo_fits_40 : decode b_Bo_fits 40 = .ok (.iconst (-1), 1) := by decide +kernel
theorem d_Bo_fits_41 : decode b_Bo_fits 41 = .ok (.if_icmp .eq 21, 3) := by decide +kernel
theorem d_Bo_fits_44 : decode b_Bo_fits 44 = .ok (.iload 5, 2) := by decide +kernel
theorem d_Bo_fits_46 : decode b_Bo_fits 46 = .ok (.aload_n 0, 1) := by decide +kernel
theorem d_Bo_fits_47 : decode b_Bo_fits 47 = .ok (.getfield 15, 3) := by decide +kernel
theorem d_Bo_fits_50 : decode b_Bo_fits 50 = .ok (.getfield 38, 3) := by decide +kernel
theorem d_Bo_fits_53 : decode b_Bo_fits 53 = .ok (.iload_n 1, 1) := by decide +kernel
theorem d_Bo_fits_54 : decode b_Bo_fits 54 = .ok (.iaload, 1) := by decide +kernel
theorem d_Bo_fits_55 : decode b_Bo_fits 55 = .ok (.if_icmp .gt 7, 3) := by decide +kernel
theorem d_Bo_fits_58 : decode b_Bo_fits 58 = .ok (.iconst 1, 1) := by decide +kernel
theorem d_Bo_fits_59 : decode b_Bo_fits 59 = .ok (.goto 4, 3) := by decide +kernel
theorem d_Bo_fits_62 : decode b_Bo_fits 62 = .ok (.iconst 0, 1) := by decide +kernel
theorem d_Bo_fits_63 : decode b_Bo_fits 63 = .ok (.ireturn, 1) := by decide +kernel
theorem d_Bo_bareAt_0 : decode b_Bo_bareAt 0 = .ok (.aload_n 0, 1) := by decide +kernel
theorem d_Bo_bareAt_1 : decode b_Bo_bareAt 1 = .ok (.getfield 9, 3) := by decide +kernel
theorem d_Bo_bareAt_4 : decode b_Bo_bareAt 4 = .ok (.aload_n 0, 1) := by decide +kernel
theorem d_Bo_bareAt_5 : decode b_Bo_bareAt 5 = .ok (.getfield 9, 3) := by decide +kernel
theorem d_Bo_bareAt_8 : decode b_Bo_bareAt 8 = .ok (.getfield 19, 3) := by decide +kernel
theorem d_Bo_bareAt_11 : decode b_Bo_bareAt 11 = .ok (.iload_n 2, 1) := by decide +kernel
theorem d_Bo_bareAt_12 : decode b_Bo_bareAt 12 = .ok (.iload_n 3, 1) := by decide +kernel
theorem d_Bo_bareAt_13 : decode b_Bo_bareAt 13 = .ok (.aload_n 0, 1) := by decide +kernel
theorem d_Bo_bareAt_14 : decode b_Bo_bareAt 14 = .ok (.getfield 15, 3) := by decide +kernel
theorem d_Bo_bareAt_17 : decode b_Bo_bareAt 17 = .ok (.iload_n 1, 1) := by decide +kernel
theorem d_Bo_bareAt_18 : decode b_Bo_bareAt 18 = .ok (.iload 4, 2) := by decide +kernel
theorem d_Bo_bareAt_20 : decode b_Bo_bareAt 20 = .ok (.invokevirtual 25, 3) := by decide +kernel
theorem d_Bo_bareAt_23 : decode b_Bo_bareAt 23 = .ok (.aload_n 0, 1) := by decide +kernel
theorem d_Bo_bareAt_24 : decode b_Bo_bareAt 24 = .ok (.getfield 15, 3) := by decide +kernel
theorem d_Bo_bareAt_27 : decode b_Bo_bareAt 27 = .ok (.iload_n 1, 1) := by decide +kernel
theorem d_Bo_bareAt_28 : decode b_Bo_bareAt 28 = .ok (.iload 4, 2) := by decide +kernel
theorem d_Bo_bareAt_30 : decode b_Bo_bareAt 30 = .ok (.invokevirtual 31, 3) := by decide +kernel
theorem d_Bo_bareAt_33 : decode b_Bo_bareAt 33 = .ok (.invokevirtual 34, 3) := by decide +kernel
theorem d_Bo_bareAt_36 : decode b_Bo_bareAt 36 = .ok (.ireturn, 1) := by decide +kernel
theorem d_Bo_valueAt_0 : decode b_Bo_valueAt 0 = .ok (.aload_n 0, 1) := by decide +kernel
theorem d_Bo_valueAt_1 : decode b_Bo_valueAt 1 = .ok (.getfield 9, 3) := by decide +kernel
theorem d_Bo_valueAt_4 : decode b_Bo_valueAt 4 = .ok (.aload_n 0, 1) := by decide +kernel
theorem d_Bo_valueAt_5 : decode b_Bo_valueAt 5 = .ok (.getfield 9, 3) := by decide +kernel
theorem d_Bo_valueAt_8 : decode b_Bo_valueAt 8 = .ok (.getfield 41, 3) := by decide +kernel
theorem d_Bo_valueAt_11 : decode b_Bo_valueAt 11 = .ok (.iload_n 2, 1) := by decide +kernel
theorem d_Bo_valueAt_12 : decode b_Bo_valueAt 12 = .ok (.iload_n 3, 1) := by decide +kernel
theorem d_Bo_valueAt_13 : decode b_Bo_valueAt 13 = .ok (.aload_n 0, 1) := by decide +kernel
theorem d_Bo_valueAt_14 : decode b_Bo_valueAt 14 = .ok (.getfield 15, 3) := by decide +kernel
theorem d_Bo_valueAt_17 : decode b_Bo_valueAt 17 = .ok (.iload_n 1, 1) := by decide +kernel
theorem d_Bo_valueAt_18 : decode b_Bo_valueAt 18 = .ok (.iload 4, 2) := by decide +kernel
theorem d_Bo_valueAt_20 : decode b_Bo_valueAt 20 = .ok (.invokevirtual 25, 3) := by decide +kernel
theorem d_Bo_valueAt_23 : decode b_Bo_valueAt 23 = .ok (.aload_n 0, 1) := by decide +kernel
theorem d_Bo_valueAt_24 : decode b_Bo_valueAt 24 = .ok (.getfield 15, 3) := by decide +kernel
theorem d_Bo_valueAt_27 : decode b_Bo_valueAt 27 = .ok (.iload_n 1, 1) := by decide +kernel
theorem d_Bo_valueAt_28 : decode b_Bo_valueAt 28 = .ok (.iload 4, 2) := by decide +kernel
theorem d_Bo_valueAt_30 : decode b_Bo_valueAt 30 = .ok (.invokevirtual 31, 3) := by decide +kernel
theorem d_Bo_valueAt_33 : decode b_Bo_valueAt 33 = .ok (.invokevirtual 34, 3) := by decide +kernel
theorem d_Bo_valueAt_36 : decode b_Bo_valueAt 36 = .ok (.istore 5, 2) := by decide +kernel
theorem d_Bo_valueAt_38 : decode b_Bo_valueAt 38 = .ok (.iconst 0, 1) := by decide +kernel
theorem d_Bo_valueAt_39 : decode b_Bo_valueAt 39 = .ok (.aload_n 0, 1) := by decide +kernel
theorem d_Bo_valueAt_40 : decode b_Bo_valueAt 40 = .ok (.getfield 15, 3) := by decide +kernel
theorem d_Bo_valueAt_43 : decode b_Bo_valueAt 43 = .ok (.getfield 44, 3) := by decide +kernel
theorem d_Bo_valueAt_46 : decode b_Bo_valueAt 46 = .ok (.iload_n 1, 1) := by decide +kernel
theorem d_Bo_valueAt_47 : decode b_Bo_valueAt 47 = .ok (.iaload, 1) := by decide +kernel
theorem d_Bo_valueAt_48 : decode b_Bo_valueAt 48 = .ok (.iload 5, 2) := by decide +kernel
theorem d_Bo_valueAt_50 : decode b_Bo_valueAt 50 = .ok (.isub, 1) := by decide +kernel
theorem d_Bo_valueAt_51 : decode b_Bo_valueAt 51 = .ok (.invokestatic 47, 3) := by decide +kernel
theorem d_Bo_valueAt_54 : decode b_Bo_valueAt 54 = .ok (.ireturn, 1) := by decide +kernel
theorem d_Lo_woodCells_0 : decode b_Lo_woodCells 0 = .ok (.aload_n 0, 1) := by decide +kernel
theorem d_Lo_woodCells_1 : decode b_Lo_woodCells 1 = .ok (.getfield 9, 3) := by decide +kernel
theorem d_Lo_woodCells_4 : decode b_Lo_woodCells 4 = .ok (.aload_n 0, 1) := by decide +kernel
theorem d_Lo_woodCells_5 : decode b_Lo_woodCells 5 = .ok (.getfield 9, 3) := by decide +kernel
theorem d_Lo_woodCells_8 : decode b_Lo_woodCells 8 = .ok (.imul, 1) := by decide +kernel
theorem d_Lo_woodCells_9 : decode b_Lo_woodCells 9 = .ok (.aload_n 0, 1) := by decide +kernel
theorem d_Lo_woodCells_10 : decode b_Lo_woodCells 10 = .ok (.aload_n 0, 1) := by decide +kernel
theorem d_Lo_woodCells_11 : decode b_Lo_woodCells 11 = .ok (.getfield 23, 3) := by decide +kernel
theorem d_Lo_woodCells_14 : decode b_Lo_woodCells 14 = .ok (.iconst 0, 1) := by decide +kernel
theorem d_Lo_woodCells_15 : decode b_Lo_woodCells 15 = .ok (.iconst 0, 1) := by decide +kernel
theorem d_Lo_woodCells_16 : decode b_Lo_woodCells 16 = .ok (.aload_n 0, 1) := by decide +kernel
theorem d_Lo_woodCells_17 : decode b_Lo_woodCells 17 = .ok (.getfield 9, 3) := by decide +kernel
theorem d_Lo_woodCells_20 : decode b_Lo_woodCells 20 = .ok (.aload_n 0, 1) := by decide +kernel
theorem d_Lo_woodCells_21 : decode b_Lo_woodCells 21 = .ok (.getfield 9, 3) := by decide +kernel
theorem d_Lo_woodCells_24 : decode b_Lo_woodCells 24 = .ok (.invokevirtual 37, 3) := by decide +kernel
theorem d_Lo_woodCells_27 : decode b_Lo_woodCells 27 = .ok (.isub, 1) := by decide +kernel
theorem d_Lo_woodCells_28 : decode b_Lo_woodCells 28 = .ok (.ireturn, 1) := by decide +kernel
theorem d_SG_areApart_0 : decode b_SG_areApart 0 = .ok (.iload_n 1, 1) := by decide +kernel
theorem d_SG_areApart_1 : decode b_SG_areApart 1 = .ok (.iload_n 2, 1) := by decide +kernel
theorem d_SG_areApart_2 : decode b_SG_areApart 2 = .ok (.iadd, 1) := by decide +kernel
theorem d_SG_areApart_3 : decode b_SG_areApart 3 = .ok (.aload_n 0, 1) := by decide +kernel
theorem d_SG_areApart_4 : decode b_SG_areApart 4 = .ok (.getfield 18, 3) := by decide +kernel
theorem d_SG_areApart_7 : decode b_SG_areApart 7 = .ok (.iadd, 1) := by decide +kernel
theorem d_SG_areApart_8 : decode b_SG_areApart 8 = .ok (.iload_n 3, 1) := by decide +kernel
theorem d_SG_areApart_9 : decode b_SG_areApart 9 = .ok (.if_icmp .le 16, 3) := by decide +kernel
theorem d_SG_areApart_12 : decode b_SG_areApart 12 = .ok (.iload_n 3, 1) := by decide +kernel
theorem d_SG_areApart_13 : decode b_SG_areApart 13 = .ok (.iload 4, 2) := by decide +kernel
theorem d_SG_areApart_15 : decode b_SG_areApart 15 = .ok (.iadd, 1) := by decide +kernel
theorem d_SG_areApart_16 : decode b_SG_areApart 16 = .ok (.aload_n 0, 1) := by decide +kernel
theorem d_SG_areApart_17 : decode b_SG_areApart 17 = .ok (.getfield 18, 3) := by decide +kernel
theorem d_SG_areApart_20 : decode b_SG_areApart 20 = .ok (.iadd, 1) := by decide +kernel
theorem d_SG_areApart_21 : decode b_SG_areApart 21 = .ok (.iload_n 1, 1) := by decide +kernel
theorem d_SG_areApart_22 : decode b_SG_areApart 22 = .ok (.if_icmp .gt 7, 3) := by decide +kernel
theorem d_SG_areApart_25 : decode b_SG_areApart 25 = .ok (.iconst 1, 1) := by decide +kernel
theorem d_SG_areApart_26 : decode b_SG_areApart 26 = .ok (.goto 4, 3) := by decide +kernel
theorem d_SG_areApart_29 : decode b_SG_areApart 29 = .ok (.iconst 0, 1) := by decide +kernel
theorem d_SG_areApart_30 : decode b_SG_areApart 30 = .ok (.ireturn, 1) := by decide +kernel
theorem d_Si_haveThickness_0 : decode b_Si_haveThickness 0 = .ok (.iconst 0, 1) := by decide +kernel
theorem d_Si_haveThickness_1 : decode b_Si_haveThickness 1 = .ok (.istore_n 2, 1) := by decide +kernel
theorem d_Si_haveThickness_2 : decode b_Si_haveThickness 2 = .ok (.iload_n 2, 1) := by decide +kernel
theorem d_Si_haveThickness_3 : decode b_Si_haveThickness 3 = .ok (.aload_n 0, 1) := by decide +kernel
theorem d_Si_haveThickness_4 : decode b_Si_haveThickness 4 = .ok (.getfield 24, 3) := by decide +kernel
theorem d_Si_haveThickness_7 : decode b_Si_haveThickness 7 = .ok (.if_icmp .ge 21, 3) := by decide +kernel
theorem d_Si_haveThickness_10 : decode b_Si_haveThickness 10 = .ok (.aload_n 0, 1) := by decide +kernel
theorem d_Si_haveThickness_11 : decode b_Si_haveThickness 11 = .ok (.getfield 9, 3) := by decide +kernel
theorem d_Si_haveThickness_14 : decode b_Si_haveThickness 14 = .ok (.iload_n 2, 1) := by decide +kernel
theorem d_Si_haveThickness_15 : decode b_Si_haveThickness 15 = .ok (.iaload, 1) := by decide +kernel
theorem d_Si_haveThickness_16 : decode b_Si_haveThickness 16 = .ok (.iload_n 1, 1) := by decide +kernel
theorem d_Si_haveThickness_17 : decode b_Si_haveThickness 17 = .ok (.if_icmp .ne 5, 3) := by decide +kernel
theorem d_Si_haveThickness_20 : decode b_Si_haveThickness 20 = .ok (.iconst 1, 1) := by decide +kernel
theorem d_Si_haveThickness_21 : decode b_Si_haveThickness 21 = .ok (.ireturn, 1) := by decide +kernel
theorem d_Si_haveThickness_22 : decode b_Si_haveThickness 22 = .ok (.iinc 2 1, 3) := by decide +kernel
theorem d_Si_haveThickness_25 : decode b_Si_haveThickness 25 = .ok (.goto (-23), 3) := by decide +kernel
theorem d_Si_haveThickness_28 : decode b_Si_haveThickness 28 = .ok (.iconst 0, 1) := by decide +kernel
theorem d_Si_haveThickness_29 : decode b_Si_haveThickness 29 = .ok (.ireturn, 1) := by decide +kernel
set_option maxHeartbeats 4000000 in
set_option maxRecDepth 100000 in
theorem c_fits (l : Launch) (D : va_G) (cI cJ cZ : ClassId) (bo : Nat) (h0 : Nat) (side : Nat) (a1 : Nat) (a2 : Nat) (a3 : Nat) (a4 : Nat) (sm : Prop) (hz : Nat) (t1 : Nat) (t2 : Nat) (t3 : Nat) (t4 : Nat) (cn : Nat) (th : Nat → Nat) (wi : Nat → Nat) (wn : Nat → Nat) (F : Nat → Nat) (f : Nat → Nat → Nat) (i : Nat) (x : Int32) (y : Int32) (zx : Int) (zy : Int) (tn : Int32) (tz : Int) (s2 : side ≤ 20) (i8 : i < 8) (ht : ∀ k, k < 8 → th k ≤ 20) (hw : ∀ k, k < 8 → wi k ≤ 20) (ex : x.toInt = zx) (ey : y.toInt = zy) (et : tn.toInt = tz) (hF : ∀ X Y, X ≤ side → Y ≤ side → F (Y * (side + 1) + X) = psm f X Y) (hf : ∀ i j, i < side → j < side → f i j ≤ 10000) (hn : ∀ k, k < 8 → wn k ≤ 400) : kRead l y_Bo_fits w_Bo_fits ({ frames := 1, cells := 0, slots := 0, locals := 27 }) D vwCl (tyL cI cJ cZ) [(bo, .inr (2, [.ref hz, .ref h0])), (h0, .inr (3, [.int (nI side), .ref a1, .ref a2, .ref a3, .ref a4, .int (pI sm)])), (hz, .inr (5, [.ref t1, .ref t2, .ref t3, .ref t4, .int (nI cn)])), (t1, .inl (cI, 8, .inl (fun j => nI (th j)))), (t2, .inl (cI, 8, .inl (fun j => nI (wi j)))), (t4, .inl (cI, 8, .inl (fun j => nI (wn j)))), (a3, .inl (cI, ((side + 1) * (side + 1)), .inl (fun j => nI (F j))))] [.ref bo, .int (nI i), .int x, .int y, .int tn] (.int (pI (0 ≤ sumZ f side zx zy (if tz = 0 then wi i else th i) (if tz = 0 then th i else wi i) ∧ sumZ f side zx zy (if tz = 0 then wi i else th i) (if tz = 0 then th i else wi i) ≤ (wn i : Int)))) := by
  refine Met.ofW (cc := b_Bo_fits) (maxL := 6) (ret := (some (.boolean))) (by decide) rfl ?_
  intro p e s m args below meth c s₁ B hml hv
  obtain ⟨rfl, hP, hK, hZ⟩ := hv
  have hx := B.exec
  have hb := B.bytes
  have hr := B.returns
  have hts := atoms_spec (ws := w_Bo_fits) B.pre
  have hown : s.vm.findClass R_Bo = some m.cls := findClass_of_methodNamed B.named
  have hlocks := B.notSynchronized
  have hP : va_P D vwCl [(bo, .inr (2, [.ref hz, .ref h0])), (h0, .inr (3, [.int (nI side), .ref a1, .ref a2, .ref a3, .ref a4, .int (pI sm)])), (hz, .inr (5, [.ref t1, .ref t2, .ref t3, .ref t4, .int (nI cn)])), (t1, .inl (cI, 8, .inl (fun j => nI (th j)))), (t2, .inl (cI, 8, .inl (fun j => nI (wi j)))), (t4, .inl (cI, 8, .inl (fun j => nI (wn j)))), (a3, .inl (cI, ((side + 1) * (side + 1)), .inl (fun j => nI (F j))))] s.heap := hP
  have hl := lv_entry ([.ref bo, .int (nI i), .int x, .int y, .int tn]) (n := 6) (Nat.le_of_ble_eq_true rfl)
  rw [lg_entry_eq]
  generalize (lg_sl ([.ref bo, .int (nI i), .int x, .int y, .int tn]) ++ List.replicate (6 - (lg_sl ([.ref bo, .int (nI i), .int x, .int y, .int tn])).length) Slot.unset).toArray = ls at hl ⊢
  have hl : lv_has ls 6 [(0, .ref bo), (1, .int (nI i)), (2, .int x), (3, .int y), (4, .int tn)] := hl
  subst ex; subst ey; subst et
  have hAX : (if tn.toInt = 0 then wi i else th i) ≤ 20 := by
    have h1 := ht i i8
    have h2 := hw i i8
    split <;> omega
  have hAY : (if tn.toInt = 0 then th i else wi i) ≤ 20 := by
    have h1 := ht i i8
    have h2 := hw i i8
    split <;> omega
  have k1 := sumZ_lo f side x.toInt y.toInt (if tn.toInt = 0 then wi i else th i) (if tn.toInt = 0 then th i else wi i)
  have k2 := sumZ_hi (f := f) (side := side) x.toInt y.toInt (if tn.toInt = 0 then wi i else th i) (if tn.toInt = 0 then th i else wi i) s2 hf
  refine lv_aload_n hx hb d_Bo_fits_0 rfl (lv_at hl 0 rfl) ?_
  refine va_get (D := D) (ci := 2) (v := .ref h0) (C := R_Bo) (T := T_Bo) (N := 2) hx hb hts (fun w h => List.mem_cons_of_mem _ (iw_Bo w h)) hown hK hP 0 rfl rfl 1 (by decide) (hts _ (List.mem_cons_of_mem _ k_95)) (fun _ h9 => h9) rfl d_Bo_fits_1 ?_
  refine lv_aload_n hx hb d_Bo_fits_4 rfl (lv_at hl 0 rfl) ?_
  refine va_get (D := D) (ci := 2) (v := .ref h0) (C := R_Bo) (T := T_Bo) (N := 2) hx hb hts (fun w h => List.mem_cons_of_mem _ (iw_Bo w h)) hown hK hP 0 rfl rfl 1 (by decide) (hts _ (List.mem_cons_of_mem _ k_95)) (fun _ h9 => h9) rfl d_Bo_fits_5 ?_
  refine va_get (D := D) (ci := 3) (v := .ref a3) (C := R_Lo) (T := T_Lo) (N := 6) hx hb hts (fun w h => List.mem_cons_of_mem _ (iw_Lo w h)) hown hK hP 1 rfl rfl 3 (by decide) (hts _ (List.mem_cons_of_mem _ k_40)) (fun _ h9 => h9) rfl d_Bo_fits_8 ?_
  refine lv_iload_n hx hb d_Bo_fits_11 rfl (lv_at hl 2 rfl) ?_
  refine lv_iload_n hx hb d_Bo_fits_12 rfl (lv_at hl 3 rfl) ?_
  refine lv_aload_n hx hb d_Bo_fits_13 rfl (lv_at hl 0 rfl) ?_
  refine va_get (D := D) (ci := 2) (v := .ref hz) (C := R_Bo) (T := T_Bo) (N := 2) hx hb hts (fun w h => List.mem_cons_of_mem _ (iw_Bo w h)) hown hK hP 0 rfl rfl 0 (by decide) (hts _ (List.mem_cons_of_mem _ k_93)) (fun _ h9 => h9) rfl d_Bo_fits_14 ?_
  refine lv_iload_n hx hb d_Bo_fits_17 rfl (lv_at hl 1 rfl) ?_
  refine lv_iload hx hb d_Bo_fits_18 (lv_at hl 4 rfl) ?_
  refine kcallR (r := .int (nI (if tn.toInt = 0 then wi i else th i))) (va_runV (As := [.int (nI i), .int tn]) (rest := [.int y, .int x, .ref a3, .ref h0]) ⟨hx, hb, hml, hown, hts⟩ (c_alongX l D cI cJ cZ hz t1 t2 t3 t4 cn th wi i tn tn.toInt i8 rfl) ⟨callB_of 2 hts (gd kc_Si_alongX) rfl rfl rfl (hts _ (List.mem_cons_of_mem _ k_4)) (hts _ (List.mem_cons_of_mem _ k_244)) (by decide +kernel) ⟨Nat.le_of_ble_eq_true rfl, Nat.le_of_ble_eq_true rfl⟩, hts _ (List.mem_cons_of_mem _ k_245), hts _ (List.mem_cons_of_mem _ k_246)⟩ ⟨kR_blind, va_recv hK hP (ci := 5) (q0 := 2) rfl rfl, kR_at hP hK hZ [2, 3, 4] rfl⟩ rfl rfl hl.1 rfl (lv_room (Nat.le_of_ble_eq_true rfl)) d_Bo_fits_20 ⟨Nat.zero_le _, Nat.zero_le _⟩) ?_
  refine lv_aload_n hx hb d_Bo_fits_23 rfl (lv_at hl 0 rfl) ?_
  refine va_get (D := D) (ci := 2) (v := .ref hz) (C := R_Bo) (T := T_Bo) (N := 2) hx hb hts (fun w h => List.mem_cons_of_mem _ (iw_Bo w h)) hown hK hP 0 rfl rfl 0 (by decide) (hts _ (List.mem_cons_of_mem _ k_93)) (fun _ h9 => h9) rfl d_Bo_fits_24 ?_
  refine lv_iload_n hx hb d_Bo_fits_27 rfl (lv_at hl 1 rfl) ?_
  refine lv_iload hx hb d_Bo_fits_28 (lv_at hl 4 rfl) ?_
  refine kcallR (r := .int (nI (if tn.toInt = 0 then th i else wi i))) (va_runV (As := [.int (nI i), .int tn]) (rest := [.int (nI (if tn.toInt = 0 then wi i else th i)), .int y, .int x, .ref a3, .ref h0]) ⟨hx, hb, hml, hown, hts⟩ (c_alongY l D cI cJ cZ hz t1 t2 t3 t4 cn th wi i tn tn.toInt i8 rfl) ⟨callB_of 2 hts (gd kc_Si_alongY) rfl rfl rfl (hts _ (List.mem_cons_of_mem _ k_4)) (hts _ (List.mem_cons_of_mem _ k_248)) (by decide +kernel) ⟨Nat.le_of_ble_eq_true rfl, Nat.le_of_ble_eq_true rfl⟩, hts _ (List.mem_cons_of_mem _ k_249), hts _ (List.mem_cons_of_mem _ k_250)⟩ ⟨kR_blind, va_recv hK hP (ci := 5) (q0 := 2) rfl rfl, kR_at hP hK hZ [2, 3, 4] rfl⟩ rfl rfl hl.1 rfl (lv_room (Nat.le_of_ble_eq_true rfl)) d_Bo_fits_30 ⟨Nat.zero_le _, Nat.zero_le _⟩) ?_
  refine kcallR (r := .int (iI (sumZ f side x.toInt y.toInt (if tn.toInt = 0 then wi i else th i) (if tn.toInt = 0 then th i else wi i)))) (va_runV (As := [.ref a3, .int x, .int y, .int (nI (if tn.toInt = 0 then wi i else th i)), .int (nI (if tn.toInt = 0 then th i else wi i))]) (rest := []) ⟨hx, hb, hml, hown, hts⟩ (c_sumIn l D cI cJ cZ h0 side a1 a2 a3 a4 sm a3 F f x y x.toInt y.toInt (if tn.toInt = 0 then wi i else th i) (if tn.toInt = 0 then th i else wi i) s2 hAX hAY rfl rfl hF hf) ⟨callB_of 5 hts (gd kc_Lo_sumIn) rfl rfl rfl (hts _ (List.mem_cons_of_mem _ k_3)) (hts _ (List.mem_cons_of_mem _ k_252)) (by decide +kernel) ⟨Nat.le_of_ble_eq_true rfl, Nat.le_of_ble_eq_true rfl⟩, hts _ (List.mem_cons_of_mem _ k_253), hts _ (List.mem_cons_of_mem _ k_254)⟩ ⟨kR_blind, va_recv hK hP (ci := 3) (q0 := 1) rfl rfl, kR_at hP hK hZ [1, 6] rfl⟩ rfl rfl hl.1 rfl (lv_room (Nat.le_of_ble_eq_true rfl)) d_Bo_fits_33 ⟨Nat.zero_le _, Nat.zero_le _⟩) ?_
  have k3 := hn i i8
  refine lv_istore (lv' := [(5, .int (iI (sumZ f side x.toInt y.toInt (if tn.toInt = 0 then wi i else th i) (if tn.toInt = 0 then th i else wi i)))), (0, .ref bo), (1, .int (nI i)), (2, .int x), (3, .int y), (4, .int tn)]) hx hb d_Bo_fits_36 hl (by decide) rfl (fun ls hl => ?_)
  refine lv_iload hx hb d_Bo_fits_38 (lv_at hl 0 rfl) ?_
  refine lv_iconst (v := iI (-1)) hx hb d_Bo_fits_40 (by decide +kernel) ?_
  refine kb_ceq (tgt := 62) (iI_t (by omega) (by omega)) (iI_t (by omega) (by omega)) hx hb d_Bo_fits_41 (by decide) (fun c_41 => ?_) (fun c_41 => ?_)
  · refine lv_iconst (v := nI 0) hx hb d_Bo_fits_62 (by decide +kernel) ?_
    refine ka_i (y := pI (0 ≤ sumZ f side x.toInt y.toInt (if tn.toInt = 0 then wi i else th i) (if tn.toInt = 0 then th i else wi i) ∧ sumZ f side x.toInt y.toInt (if tn.toInt = 0 then wi i else th i) (if tn.toInt = 0 then th i else wi i) ≤ (wn i : Int))) (pI_z (fun h => by omega)) ?_
    exact krdz (pI_narrow _) hx hb hr hlocks d_Bo_fits_63
  · refine lv_iload hx hb d_Bo_fits_44 (lv_at hl 0 rfl) ?_
    refine lv_aload_n hx hb d_Bo_fits_46 rfl (lv_at hl 1 rfl) ?_
    refine va_get (D := D) (ci := 2) (v := .ref hz) (C := R_Bo) (T := T_Bo) (N := 2) hx hb hts (fun w h => List.mem_cons_of_mem _ (iw_Bo w h)) hown hK hP 0 rfl rfl 0 (by decide) (hts _ (List.mem_cons_of_mem _ k_93)) (fun _ h9 => h9) rfl d_Bo_fits_47 ?_
    refine va_get (D := D) (ci := 5) (v := .ref t4) (C := R_Si) (T := T_Si) (N := 5) hx hb hts (fun w h => List.mem_cons_of_mem _ (iw_Si w h)) hown hK hP 2 rfl rfl 3 (by decide) (hts _ (List.mem_cons_of_mem _ k_72)) (fun _ h9 => h9) rfl d_Bo_fits_50 ?_
    refine lv_iload_n hx hb d_Bo_fits_53 rfl (lv_at hl 2 rfl) ?_
    refine ka_iald (k := i) (n := 8) (f := fun j => nI (wn j)) (nI_t (by omega)) (by omega) hx hb hK hP 5 0 rfl rfl d_Bo_fits_54 ?_
    refine kb_cgt (tgt := 62) (iI_t (by omega) (by omega)) (nI_t (by omega)) hx hb d_Bo_fits_55 (by decide) (fun c_55 => ?_) (fun c_55 => ?_)
    · refine lv_iconst (v := nI 0) hx hb d_Bo_fits_62 (by decide +kernel) ?_
      refine ka_i (y := pI (0 ≤ sumZ f side x.toInt y.toInt (if tn.toInt = 0 then wi i else th i) (if tn.toInt = 0 then th i else wi i) ∧ sumZ f side x.toInt y.toInt (if tn.toInt = 0 then wi i else th i) (if tn.toInt = 0 then th i else wi i) ≤ (wn i : Int))) (pI_z (fun h => by omega)) ?_
      exact krdz (pI_narrow _) hx hb hr hlocks d_Bo_fits_63
    · refine lv_iconst (v := nI 1) hx hb d_Bo_fits_58 (by decide +kernel) ?_
      refine lv_goto (tgt := 63) hx hb d_Bo_fits_59 (by decide) ?_
      refine ka_i (y := pI (0 ≤ sumZ f side x.toInt y.toInt (if tn.toInt = 0 then wi i else th i) (if tn.toInt = 0 then th i else wi i) ∧ sumZ f side x.toInt y.toInt (if tn.toInt = 0 then wi i else th i) (if tn.toInt = 0 then th i else wi i) ≤ (wn i : Int))) (pI_1 (by omega)) ?_
      exact krdz (pI_narrow _) hx hb hr hlocks d_Bo_fits_63
set_option maxHeartbeats 4000000 in
set_option maxRecDepth 100000 in
theorem c_bareAt (l : Launch) (D : va_G) (cI cJ cZ : ClassId) (bo : Nat) (h0 : Nat) (side : Nat) (a1 : Nat) (a2 : Nat) (a3 : Nat) (a4 : Nat) (sm : Prop) (hz : Nat) (t1 : Nat) (t2 : Nat) (t3 : Nat) (t4 : Nat) (cn : Nat) (th : Nat → Nat) (wi : Nat → Nat) (F : Nat → Nat) (f : Nat → Nat → Nat) (i : Nat) (x : Int32) (y : Int32) (zx : Int) (zy : Int) (tn : Int32) (tz : Int) (s2 : side ≤ 20) (i8 : i < 8) (ht : ∀ k, k < 8 → th k ≤ 20) (hw : ∀ k, k < 8 → wi k ≤ 20) (ex : x.toInt = zx) (ey : y.toInt = zy) (et : tn.toInt = tz) (hF : ∀ X Y, X ≤ side → Y ≤ side → F (Y * (side + 1) + X) = psm f X Y) (hf : ∀ i j, i < side → j < side → f i j ≤ 10000) : kRead l y_Bo_bareAt w_Bo_bareAt ({ frames := 1, cells := 0, slots := 0, locals := 27 }) D vwCl (tyL cI cJ cZ) [(bo, .inr (2, [.ref hz, .ref h0])), (h0, .inr (3, [.int (nI side), .ref a1, .ref a2, .ref a3, .ref a4, .int (pI sm)])), (hz, .inr (5, [.ref t1, .ref t2, .ref t3, .ref t4, .int (nI cn)])), (t1, .inl (cI, 8, .inl (fun j => nI (th j)))), (t2, .inl (cI, 8, .inl (fun j => nI (wi j)))), (a3, .inl (cI, ((side + 1) * (side + 1)), .inl (fun j => nI (F j))))] [.ref bo, .int (nI i), .int x, .int y, .int tn] (.int (iI (sumZ f side zx zy (if tz = 0 then wi i else th i) (if tz = 0 then th i else wi i)))) := by
  refine Met.ofW (cc := b_Bo_bareAt) (maxL := 5) (ret := (some (.int))) (by decide) rfl ?_
  intro p e s m args below meth c s₁ B hml hv
  obtain ⟨rfl, hP, hK, hZ⟩ := hv
  have hx := B.exec
  have hb := B.bytes
  have hr := B.returns
  have hts := atoms_spec (ws := w_Bo_bareAt) B.pre
  have hown : s.vm.findClass R_Bo = some m.cls := findClass_of_methodNamed B.named
  have hlocks := B.notSynchronized
  have hP : va_P D vwCl [(bo, .inr (2, [.ref hz, .ref h0])), (h0, .inr (3, [.int (nI side), .ref a1, .ref a2, .ref a3, .ref a4, .int (pI sm)])), (hz, .inr (5, [.ref t1, .ref t2, .ref t3, .ref t4, .int (nI cn)])), (t1, .inl (cI, 8, .inl (fun j => nI (th j)))), (t2, .inl (cI, 8, .inl (fun j => nI (wi j)))), (a3, .inl (cI, ((side + 1) * (side + 1)), .inl (fun j => nI (F j))))] s.heap := hP
  have hl := lv_entry ([.ref bo, .int (nI i), .int x, .int y, .int tn]) (n := 5) (Nat.le_of_ble_eq_true rfl)
  rw [lg_entry_eq]
  generalize (lg_sl ([.ref bo, .int (nI i), .int x, .int y, .int tn]) ++ List.replicate (5 - (lg_sl ([.ref bo, .int (nI i), .int x, .int y, .int tn])).length) Slot.unset).toArray = ls at hl ⊢
  have hl : lv_has ls 5 [(0, .ref bo), (1, .int (nI i)), (2, .int x), (3, .int y), (4, .int tn)] := hl
  subst ex; subst ey; subst et
  have hAX : (if tn.toInt = 0 then wi i else th i) ≤ 20 := by
    have h1 := ht i i8
    have h2 := hw i i8
    split <;> omega
  have hAY : (if tn.toInt = 0 then th i else wi i) ≤ 20 := by
    have h1 := ht i i8
    have h2 := hw i i8
    split <;> omega
  have k1 := sumZ_lo f side x.toInt y.toInt (if tn.toInt = 0 then wi i else th i) (if tn.toInt = 0 then th i else wi i)
  have k2 := sumZ_hi (f := f) (side := side) x.toInt y.toInt (if tn.toInt = 0 then wi i else th i) (if tn.toInt = 0 then th i else wi i) s2 hf
  refine lv_aload_n hx hb d_Bo_bareAt_0 rfl (lv_at hl 0 rfl) ?_
  refine va_get (D := D) (ci := 2) (v := .ref h0) (C := R_Bo) (T := T_Bo) (N := 2) hx hb hts (fun w h => List.mem_cons_of_mem _ (iw_Bo w h)) hown hK hP 0 rfl rfl 1 (by decide) (hts _ (List.mem_cons_of_mem _ k_95)) (fun _ h9 => h9) rfl d_Bo_bareAt_1 ?_
  refine lv_aload_n hx hb d_Bo_bareAt_4 rfl (lv_at hl 0 rfl) ?_
  refine va_get (D := D) (ci := 2) (v := .ref h0) (C := R_Bo) (T := T_Bo) (N := 2) hx hb hts (fun w h => List.mem_cons_of_mem _ (iw_Bo w h)) hown hK hP 0 rfl rfl 1 (by decide) (hts _ (List.mem_cons_of_mem _ k_95)) (fun _ h9 => h9) rfl d_Bo_bareAt_5 ?_
  refine va_get (D := D) (ci := 3) (v := .ref a3) (C := R_Lo) (T := T_Lo) (N := 6) hx hb hts (fun w h => List.mem_cons_of_mem _ (iw_Lo w h)) hown hK hP 1 rfl rfl 3 (by decide) (hts _ (List.mem_cons_of_mem _ k_40)) (fun _ h9 => h9) rfl d_Bo_bareAt_8 ?_
  refine lv_iload_n hx hb d_Bo_bareAt_11 rfl (lv_at hl 2 rfl) ?_
  refine lv_iload_n hx hb d_Bo_bareAt_12 rfl (lv_at hl 3 rfl) ?_
  refine lv_aload_n hx hb d_Bo_bareAt_13 rfl (lv_at hl 0 rfl) ?_
  refine va_get (D := D) (ci := 2) (v := .ref hz) (C := R_Bo) (T := T_Bo) (N := 2) hx hb hts (fun w h => List.mem_cons_of_mem _ (iw_Bo w h)) hown hK hP 0 rfl rfl 0 (by decide) (hts _ (List.mem_cons_of_mem _ k_93)) (fun _ h9 => h9) rfl d_Bo_bareAt_14 ?_
  refine lv_iload_n hx hb d_Bo_bareAt_17 rfl (lv_at hl 1 rfl) ?_
  refine lv_iload hx hb d_Bo_bareAt_18 (lv_at hl 4 rfl) ?_
  refine kcallR (r := .int (nI (if tn.toInt = 0 then wi i else th i))) (va_runV (As := [.int (nI i), .int tn]) (rest := [.int y, .int x, .ref a3, .ref h0]) ⟨hx, hb, hml, hown, hts⟩ (c_alongX l D cI cJ cZ hz t1 t2 t3 t4 cn th wi i tn tn.toInt i8 rfl) ⟨callB_of 2 hts (gd kc_Si_alongX) rfl rfl rfl (hts _ (List.mem_cons_of_mem _ k_4)) (hts _ (List.mem_cons_of_mem _ k_244)) (by decide +kernel) ⟨Nat.le_of_ble_eq_true rfl, Nat.le_of_ble_eq_true rfl⟩, hts _ (List.mem_cons_of_mem _ k_245), hts _ (List.mem_cons_of_mem _ k_246)⟩ ⟨kR_blind, va_recv hK hP (ci := 5) (q0 := 2) rfl rfl, kR_at hP hK hZ [2, 3, 4] rfl⟩ rfl rfl hl.1 rfl (lv_room (Nat.le_of_ble_eq_true rfl)) d_Bo_bareAt_20 ⟨Nat.zero_le _, Nat.zero_le _⟩) ?_
  refine lv_aload_n hx hb d_Bo_bareAt_23 rfl (lv_at hl 0 rfl) ?_
  refine va_get (D := D) (ci := 2) (v := .ref hz) (C := R_Bo) (T := T_Bo) (N := 2) hx hb hts (fun w h => List.mem_cons_of_mem _ (iw_Bo w h)) hown hK hP 0 rfl rfl 0 (by decide) (hts _ (List.mem_cons_of_mem _ k_93)) (fun _ h9 => h9) rfl d_Bo_bareAt_24 ?_
  refine lv_iload_n hx hb d_Bo_bareAt_27 rfl (lv_at hl 1 rfl) ?_
  refine lv_iload hx hb d_Bo_bareAt_28 (lv_at hl 4 rfl) ?_
  refine kcallR (r := .int (nI (if tn.toInt = 0 then th i else wi i))) (va_runV (As := [.int (nI i), .int tn]) (rest := [.int (nI (if tn.toInt = 0 then wi i else th i)), .int y, .int x, .ref a3, .ref h0]) ⟨hx, hb, hml, hown, hts⟩ (c_alongY l D cI cJ cZ hz t1 t2 t3 t4 cn th wi i tn tn.toInt i8 rfl) ⟨callB_of 2 hts (gd kc_Si_alongY) rfl rfl rfl (hts _ (List.mem_cons_of_mem _ k_4)) (hts _ (List.mem_cons_of_mem _ k_248)) (by decide +kernel) ⟨Nat.le_of_ble_eq_true rfl, Nat.le_of_ble_eq_true rfl⟩, hts _ (List.mem_cons_of_mem _ k_249), hts _ (List.mem_cons_of_mem _ k_250)⟩ ⟨kR_blind, va_recv hK hP (ci := 5) (q0 := 2) rfl rfl, kR_at hP hK hZ [2, 3, 4] rfl⟩ rfl rfl hl.1 rfl (lv_room (Nat.le_of_ble_eq_true rfl)) d_Bo_bareAt_30 ⟨Nat.zero_le _, Nat.zero_le _⟩) ?_
  refine kcallR (r := .int (iI (sumZ f side x.toInt y.toInt (if tn.toInt = 0 then wi i else th i) (if tn.toInt = 0 then th i else wi i)))) (va_runV (As := [.ref a3, .int x, .int y, .int (nI (if tn.toInt = 0 then wi i else th i)), .int (nI (if tn.toInt = 0 then th i else wi i))]) (rest := []) ⟨hx, hb, hml, hown, hts⟩ (c_sumIn l D cI cJ cZ h0 side a1 a2 a3 a4 sm a3 F f x y x.toInt y.toInt (if tn.toInt = 0 then wi i else th i) (if tn.toInt = 0 then th i else wi i) s2 hAX hAY rfl rfl hF hf) ⟨callB_of 5 hts (gd kc_Lo_sumIn) rfl rfl rfl (hts _ (List.mem_cons_of_mem _ k_3)) (hts _ (List.mem_cons_of_mem _ k_252)) (by decide +kernel) ⟨Nat.le_of_ble_eq_true rfl, Nat.le_of_ble_eq_true rfl⟩, hts _ (List.mem_cons_of_mem _ k_253), hts _ (List.mem_cons_of_mem _ k_254)⟩ ⟨kR_blind, va_recv hK hP (ci := 3) (q0 := 1) rfl rfl, kR_at hP hK hZ [1, 5] rfl⟩ rfl rfl hl.1 rfl (lv_room (Nat.le_of_ble_eq_true rfl)) d_Bo_bareAt_33 ⟨Nat.zero_le _, Nat.zero_le _⟩) ?_
  exact krdi hx hb hr hlocks d_Bo_bareAt_36
set_option maxHeartbeats 4000000 in
set_option maxRecDepth 100000 in
theorem c_valueAt (l : Launch) (D : va_G) (cI cJ cZ : ClassId) (bo : Nat) (h0 : Nat) (side : Nat) (a1 : Nat) (a2 : Nat) (a3 : Nat) (a4 : Nat) (sm : Prop) (hz : Nat) (t1 : Nat) (t2 : Nat) (t3 : Nat) (t4 : Nat) (cn : Nat) (th : Nat → Nat) (wi : Nat → Nat) (wo : Nat → Nat) (F : Nat → Nat) (f : Nat → Nat → Nat) (i : Nat) (x : Int32) (y : Int32) (zx : Int) (zy : Int) (tn : Int32) (tz : Int) (s2 : side ≤ 20) (i8 : i < 8) (ht : ∀ k, k < 8 → th k ≤ 20) (hw : ∀ k, k < 8 → wi k ≤ 20) (ex : x.toInt = zx) (ey : y.toInt = zy) (et : tn.toInt = tz) (hF : ∀ X Y, X ≤ side → Y ≤ side → F (Y * (side + 1) + X) = psm f X Y) (hf : ∀ i j, i < side → j < side → f i j ≤ 10000) (ho : ∀ k, k < 8 → wo k ≤ 100000) : kRead l y_Bo_valueAt w_Bo_valueAt ({ frames := 1, cells := 0, slots := 0, locals := 27 }) D vwCl (tyL cI cJ cZ) [(bo, .inr (2, [.ref hz, .ref h0])), (h0, .inr (3, [.int (nI side), .ref a1, .ref a2, .ref a3, .ref a4, .int (pI sm)])), (hz, .inr (5, [.ref t1, .ref t2, .ref t3, .ref t4, .int (nI cn)])), (t1, .inl (cI, 8, .inl (fun j => nI (th j)))), (t2, .inl (cI, 8, .inl (fun j => nI (wi j)))), (t3, .inl (cI, 8, .inl (fun j => nI (wo j)))), (a4, .inl (cI, ((side + 1) * (side + 1)), .inl (fun j => nI (F j))))] [.ref bo, .int (nI i), .int x, .int y, .int tn] (.int (iI (max 0 ((wo i : Int) - sumZ f side zx zy (if tz = 0 then wi i else th i) (if tz = 0 then th i else wi i))))) := by
  refine Met.ofW (cc := b_Bo_valueAt) (maxL := 6) (ret := (some (.int))) (by decide) rfl ?_
  intro p e s m args below meth c s₁ B hml hv
  obtain ⟨rfl, hP, hK, hZ⟩ := hv
  have hx := B.exec
  have hb := B.bytes
  have hr := B.returns
  have hts := atoms_spec (ws := w_Bo_valueAt) B.pre
  have hown : s.vm.findClass R_Bo = some m.cls := findClass_of_methodNamed B.named
  have hlocks := B.notSynchronized
  have hP : va_P D vwCl [(bo, .inr (2, [.ref hz, .ref h0])), (h0, .inr (3, [.int (nI side), .ref a1, .ref a2, .ref a3, .ref a4, .int (pI sm)])), (hz, .inr (5, [.ref t1, .ref t2, .ref t3, .ref t4, .int (nI cn)])), (t1, .inl (cI, 8, .inl (fun j => nI (th j)))), (t2, .inl (cI, 8, .inl (fun j => nI (wi j)))), (t3, .inl (cI, 8, .inl (fun j => nI (wo j)))), (a4, .inl (cI, ((side + 1) * (side + 1)), .inl (fun j => nI (F j))))] s.heap := hP
  have hl := lv_entry ([.ref bo, .int (nI i), .int x, .int y, .int tn]) (n := 6) (Nat.le_of_ble_eq_true rfl)
  rw [lg_entry_eq]
  generalize (lg_sl ([.ref bo, .int (nI i), .int x, .int y, .int tn]) ++ List.replicate (6 - (lg_sl ([.ref bo, .int (nI i), .int x, .int y, .int tn])).length) Slot.unset).toArray = ls at hl ⊢
  have hl : lv_has ls 6 [(0, .ref bo), (1, .int (nI i)), (2, .int x), (3, .int y), (4, .int tn)] := hl
  subst ex; subst ey; subst et
  have hAX : (if tn.toInt = 0 then wi i else th i) ≤ 20 := by
    have h1 := ht i i8
    have h2 := hw i i8
    split <;> omega
  have hAY : (if tn.toInt = 0 then th i else wi i) ≤ 20 := by
    have h1 := ht i i8
    have h2 := hw i i8
    split <;> omega
  have k1 := sumZ_lo f side x.toInt y.toInt (if tn.toInt = 0 then wi i else th i) (if tn.toInt = 0 then th i else wi i)
  have k2 := sumZ_hi (f := f) (side := side) x.toInt y.toInt (if tn.toInt = 0 then wi i else th i) (if tn.toInt = 0 then th i else wi i) s2 hf
  refine lv_aload_n hx hb d_Bo_valueAt_0 rfl (lv_at hl 0 rfl) ?_
  refine va_get (D := D) (ci := 2) (v := .ref h0) (C := R_Bo) (T := T_Bo) (N := 2) hx hb hts (fun w h => List.mem_cons_of_mem _ (iw_Bo w h)) hown hK hP 0 rfl rfl 1 (by decide) (hts _ (List.mem_cons_of_mem _ k_95)) (fun _ h9 => h9) rfl d_Bo_valueAt_1 ?_
  refine lv_aload_n hx hb d_Bo_valueAt_4 rfl (lv_at hl 0 rfl) ?_
  refine va_get (D := D) (ci := 2) (v := .ref h0) (C := R_Bo) (T := T_Bo) (N := 2) hx hb hts (fun w h => List.mem_cons_of_mem _ (iw_Bo w h)) hown hK hP 0 rfl rfl 1 (by decide) (hts _ (List.mem_cons_of_mem _ k_95)) (fun _ h9 => h9) rfl d_Bo_valueAt_5 ?_
  refine va_get (D := D) (ci := 3) (v := .ref a4) (C := R_Lo) (T := T_Lo) (N := 6) hx hb hts (fun w h => List.mem_cons_of_mem _ (iw_Lo w h)) hown hK hP 1 rfl rfl 4 (by decide) (hts _ (List.mem_cons_of_mem _ k_42)) (fun _ h9 => h9) rfl d_Bo_valueAt_8 ?_
  refine lv_iload_n hx hb d_Bo_valueAt_11 rfl (lv_at hl 2 rfl) ?_
  refine lv_iload_n hx hb d_Bo_valueAt_12 rfl (lv_at hl 3 rfl) ?_
  refine lv_aload_n hx hb d_Bo_valueAt_13 rfl (lv_at hl 0 rfl) ?_
  refine va_get (D := D) (ci := 2) (v := .ref hz) (C := R_Bo) (T := T_Bo) (N := 2) hx hb hts (fun w h => List.mem_cons_of_mem _ (iw_Bo w h)) hown hK hP 0 rfl rfl 0 (by decide) (hts _ (List.mem_cons_of_mem _ k_93)) (fun _ h9 => h9) rfl d_Bo_valueAt_14 ?_
  refine lv_iload_n hx hb d_Bo_valueAt_17 rfl (lv_at hl 1 rfl) ?_
  refine lv_iload hx hb d_Bo_valueAt_18 (lv_at hl 4 rfl) ?_
  refine kcallR (r := .int (nI (if tn.toInt = 0 then wi i else th i))) (va_runV (As := [.int (nI i), .int tn]) (rest := [.int y, .int x, .ref a4, .ref h0]) ⟨hx, hb, hml, hown, hts⟩ (c_alongX l D cI cJ cZ hz t1 t2 t3 t4 cn th wi i tn tn.toInt i8 rfl) ⟨callB_of 2 hts (gd kc_Si_alongX) rfl rfl rfl (hts _ (List.mem_cons_of_mem _ k_4)) (hts _ (List.mem_cons_of_mem _ k_244)) (by decide +kernel) ⟨Nat.le_of_ble_eq_true rfl, Nat.le_of_ble_eq_true rfl⟩, hts _ (List.mem_cons_of_mem _ k_245), hts _ (List.mem_cons_of_mem _ k_246)⟩ ⟨kR_blind, va_recv hK hP (ci := 5) (q0 := 2) rfl rfl, kR_at hP hK hZ [2, 3, 4] rfl⟩ rfl rfl hl.1 rfl (lv_room (Nat.le_of_ble_eq_true rfl)) d_Bo_valueAt_20 ⟨Nat.zero_le _, Nat.zero_le _⟩) ?_
  refine lv_aload_n hx hb d_Bo_valueAt_23 rfl (lv_at hl 0 rfl) ?_
  refine va_get (D := D) (ci := 2) (v := .ref hz) (C := R_Bo) (T := T_Bo) (N := 2) hx hb hts (fun w h => List.mem_cons_of_mem _ (iw_Bo w h)) hown hK hP 0 rfl rfl 0 (by decide) (hts _ (List.mem_cons_of_mem _ k_93)) (fun _ h9 => h9) rfl d_Bo_valueAt_24 ?_
  refine lv_iload_n hx hb d_Bo_valueAt_27 rfl (lv_at hl 1 rfl) ?_
  refine lv_iload hx hb d_Bo_valueAt_28 (lv_at hl 4 rfl) ?_
  refine kcallR (r := .int (nI (if tn.toInt = 0 then th i else wi i))) (va_runV (As := [.int (nI i), .int tn]) (rest := [.int (nI (if tn.toInt = 0 then wi i else th i)), .int y, .int x, .ref a4, .ref h0]) ⟨hx, hb, hml, hown, hts⟩ (c_alongY l D cI cJ cZ hz t1 t2 t3 t4 cn th wi i tn tn.toInt i8 rfl) ⟨callB_of 2 hts (gd kc_Si_alongY) rfl rfl rfl (hts _ (List.mem_cons_of_mem _ k_4)) (hts _ (List.mem_cons_of_mem _ k_248)) (by decide +kernel) ⟨Nat.le_of_ble_eq_true rfl, Nat.le_of_ble_eq_true rfl⟩, hts _ (List.mem_cons_of_mem _ k_249), hts _ (List.mem_cons_of_mem _ k_250)⟩ ⟨kR_blind, va_recv hK hP (ci := 5) (q0 := 2) rfl rfl, kR_at hP hK hZ [2, 3, 4] rfl⟩ rfl rfl hl.1 rfl (lv_room (Nat.le_of_ble_eq_true rfl)) d_Bo_valueAt_30 ⟨Nat.zero_le _, Nat.zero_le _⟩) ?_
  refine kcallR (r := .int (iI (sumZ f side x.toInt y.toInt (if tn.toInt = 0 then wi i else th i) (if tn.toInt = 0 then th i else wi i)))) (va_runV (As := [.ref a4, .int x, .int y, .int (nI (if tn.toInt = 0 then wi i else th i)), .int (nI (if tn.toInt = 0 then th i else wi i))]) (rest := []) ⟨hx, hb, hml, hown, hts⟩ (c_sumIn l D cI cJ cZ h0 side a1 a2 a3 a4 sm a4 F f x y x.toInt y.toInt (if tn.toInt = 0 then wi i else th i) (if tn.toInt = 0 then th i else wi i) s2 hAX hAY rfl rfl hF hf) ⟨callB_of 5 hts (gd kc_Lo_sumIn) rfl rfl rfl (hts _ (List.mem_cons_of_mem _ k_3)) (hts _ (List.mem_cons_of_mem _ k_252)) (by decide +kernel) ⟨Nat.le_of_ble_eq_true rfl, Nat.le_of_ble_eq_true rfl⟩, hts _ (List.mem_cons_of_mem _ k_253), hts _ (List.mem_cons_of_mem _ k_254)⟩ ⟨kR_blind, va_recv hK hP (ci := 3) (q0 := 1) rfl rfl, kR_at hP hK hZ [1, 6] rfl⟩ rfl rfl hl.1 rfl (lv_room (Nat.le_of_ble_eq_true rfl)) d_Bo_valueAt_33 ⟨Nat.zero_le _, Nat.zero_le _⟩) ?_
  have k3 := ho i i8
  refine lv_istore (lv' := [(5, .int (iI (sumZ f side x.toInt y.toInt (if tn.toInt = 0 then wi i else th i) (if tn.toInt = 0 then th i else wi i)))), (0, .ref bo), (1, .int (nI i)), (2, .int x), (3, .int y), (4, .int tn)]) hx hb d_Bo_valueAt_36 hl (by decide) rfl (fun ls hl => ?_)
  refine lv_iconst (v := nI 0) hx hb d_Bo_valueAt_38 (by decide +kernel) ?_
  refine lv_aload_n hx hb d_Bo_valueAt_39 rfl (lv_at hl 1 rfl) ?_
  refine va_get (D := D) (ci := 2) (v := .ref hz) (C := R_Bo) (T := T_Bo) (N := 2) hx hb hts (fun w h => List.mem_cons_of_mem _ (iw_Bo w h)) hown hK hP 0 rfl rfl 0 (by decide) (hts _ (List.mem_cons_of_mem _ k_93)) (fun _ h9 => h9) rfl d_Bo_valueAt_40 ?_
  refine va_get (D := D) (ci := 5) (v := .ref t3) (C := R_Si) (T := T_Si) (N := 5) hx hb hts (fun w h => List.mem_cons_of_mem _ (iw_Si w h)) hown hK hP 2 rfl rfl 2 (by decide) (hts _ (List.mem_cons_of_mem _ k_70)) (fun _ h9 => h9) rfl d_Bo_valueAt_43 ?_
  refine lv_iload_n hx hb d_Bo_valueAt_46 rfl (lv_at hl 2 rfl) ?_
  refine ka_iald (k := i) (n := 8) (f := fun j => nI (wo j)) (nI_t (by omega)) (by omega) hx hb hK hP 5 0 rfl rfl d_Bo_valueAt_47 ?_
  refine lv_iload hx hb d_Bo_valueAt_48 (lv_at hl 0 rfl) ?_
  refine lv_isub hx hb d_Bo_valueAt_50 ?_
  refine ka_i (y := iI (((wo i : Nat) : Int) - (sumZ f side x.toInt y.toInt (if tn.toInt = 0 then wi i else th i) (if tn.toInt = 0 then th i else wi i)))) (by rw [iI_of (wo i)]; exact iI_sub _ _) ?_
  refine va_mmax hx hb (hml.trans hl.1.symm) hown (hts _ (List.mem_cons_of_mem _ k_260)) (hts _ (List.mem_cons_of_mem _ k_27)) (hts _ (List.mem_cons_of_mem _ k_2)) (hts _ (List.mem_cons_of_mem _ k_28)) (Nat.le_of_ble_eq_true rfl) (Nat.le_of_ble_eq_true rfl) (Nat.zero_le _) (Nat.zero_le _) d_Bo_valueAt_51 ?_
  refine ka_i (y := iI (max ((0 : Nat) : Int) (((wo i : Nat) : Int) - (sumZ f side x.toInt y.toInt (if tn.toInt = 0 then wi i else th i) (if tn.toInt = 0 then th i else wi i))))) (mmax32 (nI_t (by omega)) (iI_t (by omega) (by omega))) ?_
  refine ka_i (y := iI (max 0 ((wo i : Int) - sumZ f side x.toInt y.toInt (if tn.toInt = 0 then wi i else th i) (if tn.toInt = 0 then th i else wi i)))) (rfl) ?_
  exact krdi hx hb hr hlocks d_Bo_valueAt_54
set_option maxHeartbeats 4000000 in
set_option maxRecDepth 100000 in
theorem c_woodCells (l : Launch) (D : va_G) (cI cJ cZ : ClassId) (h0 : Nat) (side : Nat) (a1 : Nat) (a2 : Nat) (a3 : Nat) (a4 : Nat) (sm : Prop) (F : Nat → Nat) (f : Nat → Nat → Nat) (s2 : side ≤ 20) (hF : ∀ X Y, X ≤ side → Y ≤ side → F (Y * (side + 1) + X) = psm f X Y) (hf : ∀ i j, i < side → j < side → f i j ≤ 10000) : kRead l y_Lo_woodCells w_Lo_woodCells ({ frames := 1, cells := 0, slots := 0, locals := 27 }) D vwCl (tyL cI cJ cZ) [(h0, .inr (3, [.int (nI side), .ref a1, .ref a2, .ref a3, .ref a4, .int (pI sm)])), (a3, .inl (cI, ((side + 1) * (side + 1)), .inl (fun j => nI (F j))))] [.ref h0] (.int (iI (((side * side : Nat) : Int) - (rcs f 0 0 side side : Int)))) := by
  refine Met.ofW (cc := b_Lo_woodCells) (maxL := 1) (ret := (some (.int))) (by decide) rfl ?_
  intro p e s m args below meth c s₁ B hml hv
  obtain ⟨rfl, hP, hK, hZ⟩ := hv
  have hx := B.exec
  have hb := B.bytes
  have hr := B.returns
  have hts := atoms_spec (ws := w_Lo_woodCells) B.pre
  have hown : s.vm.findClass R_Lo = some m.cls := findClass_of_methodNamed B.named
  have hlocks := B.notSynchronized
  have hP : va_P D vwCl [(h0, .inr (3, [.int (nI side), .ref a1, .ref a2, .ref a3, .ref a4, .int (pI sm)])), (a3, .inl (cI, ((side + 1) * (side + 1)), .inl (fun j => nI (F j))))] s.heap := hP
  have hl := lv_entry ([.ref h0]) (n := 1) (Nat.le_of_ble_eq_true rfl)
  rw [lg_entry_eq]
  generalize (lg_sl ([.ref h0]) ++ List.replicate (1 - (lg_sl ([.ref h0])).length) Slot.unset).toArray = ls at hl ⊢
  have hl : lv_has ls 1 [(0, .ref h0)] := hl
  refine lv_aload_n hx hb d_Lo_woodCells_0 rfl (lv_at hl 0 rfl) ?_
  refine va_get (D := D) (ci := 3) (v := .int (nI side)) (C := R_Lo) (T := T_Lo) (N := 6) hx hb hts (fun w h => List.mem_cons_of_mem _ (iw_Lo w h)) hown hK hP 0 rfl rfl 0 (by decide) (hts _ (List.mem_cons_of_mem _ k_35)) (fun _ h9 => h9) rfl d_Lo_woodCells_1 ?_
  refine lv_aload_n hx hb d_Lo_woodCells_4 rfl (lv_at hl 0 rfl) ?_
  refine va_get (D := D) (ci := 3) (v := .int (nI side)) (C := R_Lo) (T := T_Lo) (N := 6) hx hb hts (fun w h => List.mem_cons_of_mem _ (iw_Lo w h)) hown hK hP 0 rfl rfl 0 (by decide) (hts _ (List.mem_cons_of_mem _ k_35)) (fun _ h9 => h9) rfl d_Lo_woodCells_5 ?_
  refine lv_imul hx hb d_Lo_woodCells_8 ?_
  refine ka_i (y := nI (side * side)) (pk_mul _ _) ?_
  refine lv_aload_n hx hb d_Lo_woodCells_9 rfl (lv_at hl 0 rfl) ?_
  refine lv_aload_n hx hb d_Lo_woodCells_10 rfl (lv_at hl 0 rfl) ?_
  refine va_get (D := D) (ci := 3) (v := .ref a3) (C := R_Lo) (T := T_Lo) (N := 6) hx hb hts (fun w h => List.mem_cons_of_mem _ (iw_Lo w h)) hown hK hP 0 rfl rfl 3 (by decide) (hts _ (List.mem_cons_of_mem _ k_39)) (fun _ h9 => h9) rfl d_Lo_woodCells_11 ?_
  refine lv_iconst (v := nI 0) hx hb d_Lo_woodCells_14 (by decide +kernel) ?_
  refine lv_iconst (v := nI 0) hx hb d_Lo_woodCells_15 (by decide +kernel) ?_
  refine lv_aload_n hx hb d_Lo_woodCells_16 rfl (lv_at hl 0 rfl) ?_
  refine va_get (D := D) (ci := 3) (v := .int (nI side)) (C := R_Lo) (T := T_Lo) (N := 6) hx hb hts (fun w h => List.mem_cons_of_mem _ (iw_Lo w h)) hown hK hP 0 rfl rfl 0 (by decide) (hts _ (List.mem_cons_of_mem _ k_35)) (fun _ h9 => h9) rfl d_Lo_woodCells_17 ?_
  refine lv_aload_n hx hb d_Lo_woodCells_20 rfl (lv_at hl 0 rfl) ?_
  refine va_get (D := D) (ci := 3) (v := .int (nI side)) (C := R_Lo) (T := T_Lo) (N := 6) hx hb hts (fun w h => List.mem_cons_of_mem _ (iw_Lo w h)) hown hK hP 0 rfl rfl 0 (by decide) (hts _ (List.mem_cons_of_mem _ k_35)) (fun _ h9 => h9) rfl d_Lo_woodCells_21 ?_
  refine kcallR (r := .int (iI (sumZ f side ((0 : Nat) : Int) ((0 : Nat) : Int) side side))) (va_runV (As := [.ref a3, .int (nI 0), .int (nI 0), .int (nI side), .int (nI side)]) (rest := [.int (nI (side * side))]) ⟨hx, hb, hml, hown, hts⟩ (c_sumIn l D cI cJ cZ h0 side a1 a2 a3 a4 sm a3 F f (nI 0) (nI 0) ((0 : Nat) : Int) ((0 : Nat) : Int) side side (by omega) (by omega) (by omega) (nI_t (by omega)) (nI_t (by omega)) hF hf) ⟨callB_of 5 hts (gd kc_Lo_sumIn) rfl rfl rfl (hts _ (List.mem_cons_of_mem _ k_3)) (hts _ (List.mem_cons_of_mem _ k_298)) (by decide +kernel) ⟨Nat.le_of_ble_eq_true rfl, Nat.le_of_ble_eq_true rfl⟩, hts _ (List.mem_cons_of_mem _ k_253), hts _ (List.mem_cons_of_mem _ k_254)⟩ ⟨kR_blind, va_recv hK hP (ci := 3) (q0 := 0) rfl rfl, kR_at hP hK hZ [0, 1] rfl⟩ rfl rfl hl.1 rfl (lv_room (Nat.le_of_ble_eq_true rfl)) d_Lo_woodCells_24 ⟨Nat.zero_le _, Nat.zero_le _⟩) ?_
  refine ka_i (y := iI (rcs f 0 0 side side : Int)) (congrArg iI (sumZ_in (X := 0) (Y := 0) rfl rfl (by omega) (by omega))) ?_
  refine lv_isub hx hb d_Lo_woodCells_27 ?_
  refine ka_i (y := iI (((side * side : Nat) : Int) - (rcs f 0 0 side side : Int))) (by rw [iI_of (side * side)]; exact iI_sub _ _) ?_
  exact krdi hx hb hr hlocks d_Lo_woodCells_28
set_option maxHeartbeats 4000000 in
set_option maxRecDepth 100000 in
theorem c_areApart (l : Launch) (D : va_G) (cI cJ cZ : ClassId) (hs : Nat) (kf : Nat) (h0 : Nat) (hz : Nat) (bo : Nat) (hb_ : Nat) (hp : Nat) (sw : Prop) (p1 : Nat) (q1 : Nat) (p2 : Nat) (q2 : Nat) (b1 : p1 ≤ 20) (b2 : q1 ≤ 20) (b3 : p2 ≤ 20) (b4 : q2 ≤ 20) (b5 : kf ≤ 4) : kRead l y_SG_areApart w_SG_areApart ({ frames := 0, cells := 0, slots := 0, locals := 0 }) D vwCl (tyL cI cJ cZ) [(hs, .inr (0, [.int (nI kf), .ref h0, .ref hz, .ref bo, .ref hb_, .ref hp, .int (pI sw)]))] [.ref hs, .int (nI p1), .int (nI q1), .int (nI p2), .int (nI q2)] (.int (pI (p1 + q1 + kf ≤ p2 ∨ p2 + q2 + kf ≤ p1))) := by
  refine Met.ofW (cc := b_SG_areApart) (maxL := 5) (ret := (some (.boolean))) (by decide) rfl ?_
  intro p e s m args below meth c s₁ B hml hv
  obtain ⟨rfl, hP, hK, hZ⟩ := hv
  have hx := B.exec
  have hb := B.bytes
  have hr := B.returns
  have hts := atoms_spec (ws := w_SG_areApart) B.pre
  have hown : s.vm.findClass R_SG = some m.cls := findClass_of_methodNamed B.named
  have hlocks := B.notSynchronized
  have hP : va_P D vwCl [(hs, .inr (0, [.int (nI kf), .ref h0, .ref hz, .ref bo, .ref hb_, .ref hp, .int (pI sw)]))] s.heap := hP
  have hl := lv_entry ([.ref hs, .int (nI p1), .int (nI q1), .int (nI p2), .int (nI q2)]) (n := 5) (Nat.le_of_ble_eq_true rfl)
  rw [lg_entry_eq]
  generalize (lg_sl ([.ref hs, .int (nI p1), .int (nI q1), .int (nI p2), .int (nI q2)]) ++ List.replicate (5 - (lg_sl ([.ref hs, .int (nI p1), .int (nI q1), .int (nI p2), .int (nI q2)])).length) Slot.unset).toArray = ls at hl ⊢
  have hl : lv_has ls 5 [(0, .ref hs), (1, .int (nI p1)), (2, .int (nI q1)), (3, .int (nI p2)), (4, .int (nI q2))] := hl
  refine lv_iload_n hx hb d_SG_areApart_0 rfl (lv_at hl 1 rfl) ?_
  refine lv_iload_n hx hb d_SG_areApart_1 rfl (lv_at hl 2 rfl) ?_
  refine lv_iadd hx hb d_SG_areApart_2 ?_
  refine ka_i (y := nI (p1 + q1)) (nI_add _ _) ?_
  refine lv_aload_n hx hb d_SG_areApart_3 rfl (lv_at hl 0 rfl) ?_
  refine va_get (D := D) (ci := 0) (v := .int (nI kf)) (C := R_SG) (T := T_SG) (N := 7) hx hb hts (fun w h => List.mem_cons_of_mem _ (iw_SG w h)) hown hK hP 0 rfl rfl 0 (by decide) (hts _ (List.mem_cons_of_mem _ k_178)) (fun _ h9 => h9) rfl d_SG_areApart_4 ?_
  refine lv_iadd hx hb d_SG_areApart_7 ?_
  refine ka_i (y := nI ((p1 + q1) + kf)) (nI_add _ _) ?_
  refine lv_iload_n hx hb d_SG_areApart_8 rfl (lv_at hl 3 rfl) ?_
  refine kb_cle (tgt := 25) (nI_t (by omega)) (nI_t (by omega)) hx hb d_SG_areApart_9 (by decide) (fun c_9 => ?_) (fun c_9 => ?_)
  · refine lv_iconst (v := nI 1) hx hb d_SG_areApart_25 (by decide +kernel) ?_
    refine lv_goto (tgt := 30) hx hb d_SG_areApart_26 (by decide) ?_
    refine ka_i (y := pI (p1 + q1 + kf ≤ p2 ∨ p2 + q2 + kf ≤ p1)) (pI_1 (by omega)) ?_
    exact krdz (pI_narrow _) hx hb hr hlocks d_SG_areApart_30
  · refine lv_iload_n hx hb d_SG_areApart_12 rfl (lv_at hl 3 rfl) ?_
    refine lv_iload hx hb d_SG_areApart_13 (lv_at hl 4 rfl) ?_
    refine lv_iadd hx hb d_SG_areApart_15 ?_
    refine ka_i (y := nI (p2 + q2)) (nI_add _ _) ?_
    refine lv_aload_n hx hb d_SG_areApart_16 rfl (lv_at hl 0 rfl) ?_
    refine va_get (D := D) (ci := 0) (v := .int (nI kf)) (C := R_SG) (T := T_SG) (N := 7) hx hb hts (fun w h => List.mem_cons_of_mem _ (iw_SG w h)) hown hK hP 0 rfl rfl 0 (by decide) (hts _ (List.mem_cons_of_mem _ k_178)) (fun _ h9 => h9) rfl d_SG_areApart_17 ?_
    refine lv_iadd hx hb d_SG_areApart_20 ?_
    refine ka_i (y := nI ((p2 + q2) + kf)) (nI_add _ _) ?_
    refine lv_iload_n hx hb d_SG_areApart_21 rfl (lv_at hl 1 rfl) ?_
    refine kb_cgt (tgt := 29) (nI_t (by omega)) (nI_t (by omega)) hx hb d_SG_areApart_22 (by decide) (fun c_22 => ?_) (fun c_22 => ?_)
    · refine lv_iconst (v := nI 0) hx hb d_SG_areApart_29 (by decide +kernel) ?_
      refine ka_i (y := pI (p1 + q1 + kf ≤ p2 ∨ p2 + q2 + kf ≤ p1)) (pI_z (fun h => by omega)) ?_
      exact krdz (pI_narrow _) hx hb hr hlocks d_SG_areApart_30
    · refine lv_iconst (v := nI 1) hx hb d_SG_areApart_25 (by decide +kernel) ?_
      refine lv_goto (tgt := 30) hx hb d_SG_areApart_26 (by decide) ?_
      refine ka_i (y := pI (p1 + q1 + kf ≤ p2 ∨ p2 + q2 + kf ≤ p1)) (pI_1 (by omega)) ?_
      exact krdz (pI_narrow _) hx hb hr hlocks d_SG_areApart_30
set_option maxHeartbeats 4000000 in
set_option maxRecDepth 100000 in
theorem c_haveT (l : Launch) (D : va_G) (cI cJ cZ : ClassId) (hz : Nat) (t1 : Nat) (t2 : Nat) (t3 : Nat) (t4 : Nat) (cn : Nat) (th : Nat → Nat) (x : Nat) (n8 : cn ≤ 8) (xb : x ≤ 20) (ht : ∀ k, k < 8 → th k ≤ 20) : kRead l y_Si_haveThickness w_Si_haveThickness ({ frames := 0, cells := 0, slots := 0, locals := 0 }) D vwCl (tyL cI cJ cZ) [(hz, .inr (5, [.ref t1, .ref t2, .ref t3, .ref t4, .int (nI cn)])), (t1, .inl (cI, 8, .inl (fun j => nI (th j))))] [.ref hz, .int (nI x)] (.int (pI (∃ k_, k_ < cn ∧ th k_ = x))) := by
  refine Met.ofW (cc := b_Si_haveThickness) (maxL := 3) (ret := (some (.boolean))) (by decide) rfl ?_
  intro p e s m args below meth c s₁ B hml hv
  obtain ⟨rfl, hP, hK, hZ⟩ := hv
  have hx := B.exec
  have hb := B.bytes
  have hr := B.returns
  have hts := atoms_spec (ws := w_Si_haveThickness) B.pre
  have hown : s.vm.findClass R_Si = some m.cls := findClass_of_methodNamed B.named
  have hlocks := B.notSynchronized
  have hP : va_P D vwCl [(hz, .inr (5, [.ref t1, .ref t2, .ref t3, .ref t4, .int (nI cn)])), (t1, .inl (cI, 8, .inl (fun j => nI (th j))))] s.heap := hP
  have hl := lv_entry ([.ref hz, .int (nI x)]) (n := 3) (Nat.le_of_ble_eq_true rfl)
  rw [lg_entry_eq]
  generalize (lg_sl ([.ref hz, .int (nI x)]) ++ List.replicate (3 - (lg_sl ([.ref hz, .int (nI x)])).length) Slot.unset).toArray = ls at hl ⊢
  have hl : lv_has ls 3 [(0, .ref hz), (1, .int (nI x))] := hl
  refine lv_iconst (v := nI 0) hx hb d_Si_haveThickness_0 (by decide +kernel) ?_
  refine lv_istore_n (lv' := [(2, .int (nI 0)), (0, .ref hz), (1, .int (nI x))]) hx hb d_Si_haveThickness_1 rfl hl (by decide) rfl (fun ls hl => ?_)
  have lp : ∀ (n : Nat) (i : Nat), (i + n = cn) → (∀ k, k < i → ¬ th k = x) → ∀ ls : Array Slot, lv_has ls 3 [(2, .int (nI i)), (0, .ref hz), (1, .int (nI x))] → W p l e (headSpec w_Si_haveThickness ({ frames := 0, cells := 0, slots := 0, locals := 0 })).room s m ([.ref hz, .int (nI x)]).toArray below meth c s.heap [] 0 0 (MQ below (k2_QcV (.int (pI (∃ k_, k_ < cn ∧ th k_ = x)))) ([.ref hz, .int (nI x)]).toArray s 0 0 (fun _ => False)) (F0 m 2 ls []) := by
    intro n
    induction n with
    | zero =>
      intro i hi no ls hl
      refine lv_iload_n hx hb d_Si_haveThickness_2 rfl (lv_at hl 0 rfl) ?_
      refine lv_aload_n hx hb d_Si_haveThickness_3 rfl (lv_at hl 1 rfl) ?_
      refine va_get (D := D) (ci := 5) (v := .int (nI cn)) (C := R_Si) (T := T_Si) (N := 5) hx hb hts (fun w h => List.mem_cons_of_mem _ (iw_Si w h)) hown hK hP 0 rfl rfl 4 (by decide) (hts _ (List.mem_cons_of_mem _ k_73)) (fun _ h9 => h9) rfl d_Si_haveThickness_4 ?_
      refine kb_cge (tgt := 28) (nI_t (by omega)) (nI_t (by omega)) hx hb d_Si_haveThickness_7 (by decide) (fun c_7 => ?_) (fun c_7 => ?_)
      · refine lv_iconst (v := nI 0) hx hb d_Si_haveThickness_28 (by decide +kernel) ?_
        refine ka_i (y := pI (∃ k_, k_ < cn ∧ th k_ = x)) (pI_z (fun ⟨k, hk, e⟩ => no k (by omega) e)) ?_
        exact krdz (pI_narrow _) hx hb hr hlocks d_Si_haveThickness_29
      · exfalso; omega
    | succ n ih =>
      intro i hi no ls hl
      refine lv_iload_n hx hb d_Si_haveThickness_2 rfl (lv_at hl 0 rfl) ?_
      refine lv_aload_n hx hb d_Si_haveThickness_3 rfl (lv_at hl 1 rfl) ?_
      refine va_get (D := D) (ci := 5) (v := .int (nI cn)) (C := R_Si) (T := T_Si) (N := 5) hx hb hts (fun w h => List.mem_cons_of_mem _ (iw_Si w h)) hown hK hP 0 rfl rfl 4 (by decide) (hts _ (List.mem_cons_of_mem _ k_73)) (fun _ h9 => h9) rfl d_Si_haveThickness_4 ?_
      refine kb_cge (tgt := 28) (nI_t (by omega)) (nI_t (by omega)) hx hb d_Si_haveThickness_7 (by decide) (fun c_7 => ?_) (fun c_7 => ?_)
      · exfalso; omega
      · have q := ht i (by omega)
        refine lv_aload_n hx hb d_Si_haveThickness_10 rfl (lv_at hl 1 rfl) ?_
        refine va_get (D := D) (ci := 5) (v := .ref t1) (C := R_Si) (T := T_Si) (N := 5) hx hb hts (fun w h => List.mem_cons_of_mem _ (iw_Si w h)) hown hK hP 0 rfl rfl 0 (by decide) (hts _ (List.mem_cons_of_mem _ k_65)) (fun _ h9 => h9) rfl d_Si_haveThickness_11 ?_
        refine lv_iload_n hx hb d_Si_haveThickness_14 rfl (lv_at hl 0 rfl) ?_
        refine ka_iald (k := i) (n := 8) (f := fun j => nI (th j)) (nI_t (by omega)) (by omega) hx hb hK hP 1 0 rfl rfl d_Si_haveThickness_15 ?_
        refine lv_iload_n hx hb d_Si_haveThickness_16 rfl (lv_at hl 2 rfl) ?_
        refine kb_cne (tgt := 22) (nI_t (by omega)) (nI_t (by omega)) hx hb d_Si_haveThickness_17 (by decide) (fun c_17 => ?_) (fun c_17 => ?_)
        · refine lv_iinc (v := nI (i + 1)) (lv' := [(2, .int (nI (i + 1))), (0, .ref hz), (1, .int (nI x))]) hx hb d_Si_haveThickness_22 hl (k := 0) rfl (nI_add _ 1) (by decide) rfl (fun ls hl => ?_)
          refine lv_goto (tgt := 2) hx hb d_Si_haveThickness_25 (by decide) ?_
          exact ih (i + 1) (by omega) (fun k hk => by
              rcases Nat.lt_or_ge k i with q | q
              · exact no k q
              · have e : k = i := by omega
                subst e
                omega) ls (lv_sub hl [0, 1, 2] rfl)
        · refine lv_iconst (v := nI 1) hx hb d_Si_haveThickness_20 (by decide +kernel) ?_
          refine ka_i (y := pI (∃ k_, k_ < cn ∧ th k_ = x)) (pI_1 (⟨i, by omega, by omega⟩)) ?_
          exact krdz (pI_narrow _) hx hb hr hlocks d_Si_haveThickness_21
  exact lp cn 0 (by omega) (fun k hk => absurd hk (Nat.not_lt_zero k)) ls (lv_sub hl [0, 1, 2] rfl)
