theorem d_Lo_init_0 : decode b_Lo_init 0 = .ok (.aload_n 0, 1) := by decide +kernel
theorem d_Lo_init_1 : decode b_Lo_init 1 = .ok (.invokespecial 3, 3) := by decide +kernel
theorem d_Lo_init_4 : decode b_Lo_init 4 = .ok (.aload_n 0, 1) := by decide +kernel
theorem d_Lo_init_5 : decode b_Lo_init 5 = .ok (.iload_n 1, 1) := by decide +kernel
theorem d_Lo_init_6 : decode b_Lo_init 6 = .ok (.putfield 9, 3) := by decide +kernel
theorem d_Lo_init_9 : decode b_Lo_init 9 = .ok (.aload_n 0, 1) := by decide +kernel
theorem d_Lo_init_10 : decode b_Lo_init 10 = .ok (.iconst 2, 1) := by decide +kernel
theorem d_Lo_init_11 : decode b_Lo_init 11 = .ok (.iload_n 1, 1) := by decide +kernel
theorem d_Lo_init_12 : decode b_Lo_init 12 = .ok (.imul, 1) := by decide +kernel
theorem d_Lo_init_13 : decode b_Lo_init 13 = .ok (.iload_n 1, 1) := by decide +kernel
theorem d_Lo_init_14 : decode b_Lo_init 14 = .ok (.imul, 1) := by decide +kernel
theorem d_Lo_init_15 : decode b_Lo_init 15 = .ok (.newarray .boolean, 2) := by decide +kernel
theorem d_Lo_init_17 : decode b_Lo_init 17 = .ok (.putfield 15, 3) := by decide +kernel
theorem d_Lo_init_20 : decode b_Lo_init 20 = .ok (.aload_n 0, 1) := by decide +kernel
theorem d_Lo_init_21 : decode b_Lo_init 21 = .ok (.iload_n 1, 1) := by decide +kernel
theorem d_Lo_init_22 : decode b_Lo_init 22 = .ok (.iload_n 1, 1) := by decide +kernel
theorem d_Lo_init_23 : decode b_Lo_init 23 = .ok (.imul, 1) := by decide +kernel
theorem d_Lo_init_24 : decode b_Lo_init 24 = .ok (.newarray .int, 2) := by decide +kernel
theorem d_Lo_init_26 : decode b_Lo_init 26 = .ok (.putfield 19, 3) := by decide +kernel
theorem d_Lo_init_29 : decode b_Lo_init 29 = .ok (.aload_n 0, 1) := by decide +kernel
theorem d_Lo_init_30 : decode b_Lo_init 30 = .ok (.iload_n 1, 1) := by decide +kernel
theorem d_Lo_init_31 : decode b_Lo_init 31 = .ok (.iconst 1, 1) := by decide +kernel
theorem d_Lo_init_32 : decode b_Lo_init 32 = .ok (.iadd, 1) := by decide +kernel
theorem d_Lo_init_33 : decode b_Lo_init 33 = .ok (.iload_n 1, 1) := by decide +kernel
theorem d_Lo_init_34 : decode b_Lo_init 34 = .ok (.iconst 1, 1) := by decide +kernel
theorem d_Lo_init_35 : decode b_Lo_init 35 = .ok (.iadd, 1) := by decide +kernel
theorem d_Lo_init_36 : decode b_Lo_init 36 = .ok (.imul, 1) := by decide +kernel
theorem d_Lo_init_37 : decode b_Lo_init 37 = .ok (.newarray .int, 2) := by decide +kernel
theorem d_Lo_init_39 : decode b_Lo_init 39 = .ok (.putfield 23, 3) := by decide +kernel
theorem d_Lo_init_42 : decode b_Lo_init 42 = .ok (.aload_n 0, 1) := by decide +kernel
theorem d_Lo_init_43 : decode b_Lo_init 43 = .ok (.iload_n 1, 1) := by decide +kernel
theorem d_Lo_init_44 : decode b_Lo_init 44 = .ok (.iconst 1, 1) := by decide +kernel
theorem d_Lo_init_45 : decode b_Lo_init 45 = .ok (.iadd, 1) := by decide +kernel
theorem d_Lo_init_46 : decode b_Lo_init 46 = .ok (.iload_n 1, 1) := by decide +kernel
theorem d_Lo_init_47 : decode b_Lo_init 47 = .ok (.iconst 1, 1) := by decide +kernel
theorem d_Lo_init_48 : decode b_Lo_init 48 = .ok (.iadd, 1) := by decide +kernel
theorem d_Lo_init_49 : decode b_Lo_init 49 = .ok (.imul, 1) := by decide +kernel
theorem d_Lo_init_50 : decode b_Lo_init 50 = .ok (.newarray .int, 2) := by decide +kernel
theorem d_Lo_init_52 : decode b_Lo_init 52 = .ok (.putfield 26, 3) := by decide +kernel
theorem d_Lo_init_55 : decode b_Lo_init 55 = .ok (.return_, 1) := by decide +kernel
theorem d_Si_init_0 : decode b_Si_init 0 = .ok (.aload_n 0, 1) := by decide +kernel
theorem d_Si_init_1 : decode b_Si_init 1 = .ok (.invokespecial 3, 3) := by decide +kernel
theorem d_Si_init_4 : decode b_Si_init 4 = .ok (.aload_n 0, 1) := by decide +kernel
theorem d_Si_init_5 : decode b_Si_init 5 = .ok (.bipush 8, 2) := by decide +kernel
theorem d_Si_init_7 : decode b_Si_init 7 = .ok (.newarray .int, 2) := by decide +kernel
theorem d_Si_init_9 : decode b_Si_init 9 = .ok (.putfield 9, 3) := by decide +kernel
theorem d_Si_init_12 : decode b_Si_init 12 = .ok (.aload_n 0, 1) := by decide +kernel
theorem d_Si_init_13 : decode b_Si_init 13 = .ok (.bipush 8, 2) := by decide +kernel
theorem d_Si_init_15 : decode b_Si_init 15 = .ok (.newarray .int, 2) := by decide +kernel
theorem d_Si_init_17 : decode b_Si_init 17 = .ok (.putfield 15, 3) := by decide +kernel
theorem d_Si_init_20 : decode b_Si_init 20 = .ok (.aload_n 0, 1) := by decide +kernel
theorem d_Si_init_21 : decode b_Si_init 21 = .ok (.bipush 8, 2) := by decide +kernel
theorem d_Si_init_23 : decode b_Si_init 23 = .ok (.newarray .int, 2) := by decide +kernel
theorem d_Si_init_25 : decode b_Si_init 25 = .ok (.putfield 18, 3) := by decide +kernel
theorem d_Si_init_28 : decode b_Si_init 28 = .ok (.aload_n 0, 1) := by decide +kernel
theorem d_Si_init_29 : decode b_Si_init 29 = .ok (.bipush 8, 2) := by decide +kernel
theorem d_Si_init_31 : decode b_Si_init 31 = .ok (.newarray .int, 2) := by decide +kernel
theorem d_Si_init_33 : decode b_Si_init 33 = .ok (.putfield 21, 3) := by decide +kernel
theorem d_Si_init_36 : decode b_Si_init 36 = .ok (.return_, 1) := by decide +kernel
theorem d_Bo_init_0 : decode b_Bo_init 0 = .ok (.aload_n 0, 1) := by decide +kernel
theorem d_Bo_init_1 : decode b_Bo_init 1 = .ok (.invokespecial 3, 3) := by decide +kernel
theorem d_Bo_init_4 : decode b_Bo_init 4 = .ok (.aload_n 0, 1) := by decide +kernel
theorem d_Bo_init_5 : decode b_Bo_init 5 = .ok (.aload_n 1, 1) := by decide +kernel
theorem d_Bo_init_6 : decode b_Bo_init 6 = .ok (.putfield 9, 3) := by decide +kernel
theorem d_Bo_init_9 : decode b_Bo_init 9 = .ok (.aload_n 0, 1) := by decide +kernel
theorem d_Bo_init_10 : decode b_Bo_init 10 = .ok (.aload_n 2, 1) := by decide +kernel
theorem d_Bo_init_11 : decode b_Bo_init 11 = .ok (.putfield 15, 3) := by decide +kernel
theorem d_Bo_init_14 : decode b_Bo_init 14 = .ok (.return_, 1) := by decide +kernel
theorem d_Be_init_0 : decode b_Be_init 0 = .ok (.aload_n 0, 1) := by decide +kernel
theorem d_Be_init_1 : decode b_Be_init 1 = .ok (.invokespecial 3, 3) := by decide +kernel
theorem d_Be_init_4 : decode b_Be_init 4 = .ok (.aload_n 0, 1) := by decide +kernel
theorem d_Be_init_5 : decode b_Be_init 5 = .ok (.aload_n 1, 1) := by decide +kernel
theorem d_Be_init_6 : decode b_Be_init 6 = .ok (.putfield 9, 3) := by decide +kernel
theorem d_Be_init_9 : decode b_Be_init 9 = .ok (.aload_n 0, 1) := by decide +kernel
theorem d_Be_init_10 : decode b_Be_init 10 = .ok (.aload_n 1, 1) := by decide +kernel
theorem d_Be_init_11 : decode b_Be_init 11 = .ok (.getfield 15, 3) := by decide +kernel
theorem d_Be_init_14 : decode b_Be_init 14 = .ok (.putfield 21, 3) := by decide +kernel
theorem d_Be_init_17 : decode b_Be_init 17 = .ok (.aload_n 0, 1) := by decide +kernel
theorem d_Be_init_18 : decode b_Be_init 18 = .ok (.iload_n 2, 1) := by decide +kernel
theorem d_Be_init_19 : decode b_Be_init 19 = .ok (.putfield 22, 3) := by decide +kernel
theorem d_Be_init_22 : decode b_Be_init 22 = .ok (.aload_n 0, 1) := by decide +kernel
theorem d_Be_init_23 : decode b_Be_init 23 = .ok (.iload_n 3, 1) := by decide +kernel
theorem d_Be_init_24 : decode b_Be_init 24 = .ok (.putfield 26, 3) := by decide +kernel
theorem d_Be_init_27 : decode b_Be_init 27 = .ok (.aload_n 0, 1) := by decide +kernel
theorem d_Be_init_28 : decode b_Be_init 28 = .ok (.iload_n 2, 1) := by decide +kernel
theorem d_Be_init_29 : decode b_Be_init 29 = .ok (.iconst 1, 1) := by decide +kernel
theorem d_Be_init_30 : decode b_Be_init 30 = .ok (.iadd, 1) := by decide +kernel
theorem d_Be_init_31 : decode b_Be_init 31 = .ok (.newarray .long, 2) := by decide +kernel
theorem d_Be_init_33 : decode b_Be_init 33 = .ok (.putfield 29, 3) := by decide +kernel
theorem d_Be_init_36 : decode b_Be_init 36 = .ok (.aload_n 0, 1) := by decide +kernel
theorem d_Be_init_37 : decode b_Be_init 37 = .ok (.iload_n 2, 1) := by decide +kernel
theorem d_Be_init_38 : decode b_Be_init 38 = .ok (.newarray .int, 2) := by decide +kernel
theorem d_Be_init_40 : decode b_Be_init 40 = .ok (.putfield 33, 3) := by decide +kernel
theorem d_Be_init_43 : decode b_Be_init 43 = .ok (.aload_n 0, 1) := by decide +kernel
theorem d_Be_init_44 : decode b_Be_init 44 = .ok (.iload_n 2, 1) := by decide +kernel
theorem d_Be_init_45 : decode b_Be_init 45 = .ok (.iconst 1, 1) := by decide +kernel
theorem d_Be_init_46 : decode b_Be_init 46 = .ok (.iadd, 1) := by decide +kernel
theorem d_Be_init_47 : decode b_Be_init 47 = .ok (.newarray .long, 2) := by decide +kernel
theorem d_Be_init_49 : decode b_Be_init 49 = .ok (.putfield 37, 3) := by decide +kernel
theorem d_Be_init_52 : decode b_Be_init 52 = .ok (.aload_n 0, 1) := by decide +kernel
theorem d_Be_init_53 : decode b_Be_init 53 = .ok (.iload_n 2, 1) := by decide +kernel
theorem d_Be_init_54 : decode b_Be_init 54 = .ok (.newarray .int, 2) := by decide +kernel
theorem d_Be_init_56 : decode b_Be_init 56 = .ok (.putfield 40, 3) := by decide +kernel
theorem d_Be_init_59 : decode b_Be_init 59 = .ok (.return_, 1) := by decide +kernel
theorem d_Pa_init_0 : decode b_Pa_init 0 = .ok (.aload_n 0, 1) := by decide +kernel
theorem d_Pa_init_1 : decode b_Pa_init 1 = .ok (.invokespecial 1, 3) := by decide +kernel
theorem d_Pa_init_4 : decode b_Pa_init 4 = .ok (.aload_n 0, 1) := by decide +kernel
theorem d_Pa_init_5 : decode b_Pa_init 5 = .ok (.iload_n 1, 1) := by decide +kernel
theorem d_Pa_init_6 : decode b_Pa_init 6 = .ok (.newarray .int, 2) := by decide +kernel
theorem d_Pa_init_8 : decode b_Pa_init 8 = .ok (.putfield 7, 3) := by decide +kernel
theorem d_Pa_init_11 : decode b_Pa_init 11 = .ok (.aload_n 0, 1) := by decide +kernel
theorem d_Pa_init_12 : decode b_Pa_init 12 = .ok (.iload_n 1, 1) := by decide +kernel
theorem d_Pa_init_13 : decode b_Pa_init 13 = .ok (.newarray .int, 2) := by decide +kernel
theorem d_Pa_init_15 : decode b_Pa_init 15 = .ok (.putfield 13, 3) := by decide +kernel
theorem d_Pa_init_18 : decode b_Pa_init 18 = .ok (.aload_n 0, 1) := by decide +kernel
theorem d_Pa_init_19 : decode b_Pa_init 19 = .ok (.iload_n 1, 1) := by decide +kernel
theorem d_Pa_init_20 : decode b_Pa_init 20 = .ok (.newarray .int, 2) := by decide +kernel
theorem d_Pa_init_22 : decode b_Pa_init 22 = .ok (.putfield 16, 3) := by decide +kernel
theorem d_Pa_init_25 : decode b_Pa_init 25 = .ok (.return_, 1) := by decide +kernel
theorem kn_same {D : va_G} {cl : List vw_C} {tys : List (ClassId × FieldType)} {s : State} {cA cB : ClassId} {ty : FieldType} (h : va_K D cl (tys ++ [(cA, ty)]) s) (t0 : Nat) (ht : tys[t0]? = some (cB, ty)) (h3 : ty = .int ∨ ty = .long ∨ ty = .boolean) : cA = cB := by
  have h1 := (h.2 tys.length (cA, ty) (by simp)).2
  have hl : t0 < tys.length := (List.getElem?_eq_some_iff.mp ht).1
  have h2 := (h.2 t0 (cB, ty) (by rw [List.getElem?_append_left hl]; exact ht)).2
  rcases h3 with rfl | rfl | rfl <;> (simp only [va_RA] at h1 h2; exact Option.some.inj (h1.symm.trans h2))
theorem a0_nat (N : Nat) (cA : ClassId) : vp_cell cA (N, .inl (fun j => nI ((fun _ => 0) j))) = arrV cA N (fun _ => defaultValue .int) := by
  rw [vp_cell_i]; exact congrArg (arrV cA _) (funext fun _ => congrArg Value.int nI_0)
theorem a0_int (N : Nat) (cA : ClassId) : vp_cell cA (N, .inl (fun j => iI ((fun _ => 0) j))) = arrV cA N (fun _ => defaultValue .int) := by
  rw [vp_cell_i]; exact congrArg (arrV cA _) (funext fun _ => congrArg Value.int (show iI 0 = 0 by decide +kernel))
theorem a0_prop (N : Nat) (cA : ClassId) : vp_cell cA (N, .inl (fun j => pI ((fun _ => False) j))) = arrV cA N (fun _ => defaultValue .boolean) := by
  rw [vp_cell_i]; exact congrArg (arrV cA _) (funext fun _ => congrArg Value.int (pI_f (fun h => h)))
theorem a0_long (N : Nat) (cA : ClassId) : vp_cell cA (N, .inr (.inl (fun j => lI ((fun _ => 0) j)))) = arrV cA N (fun _ => defaultValue .long) := by
  rw [vp_cell_l]; exact congrArg (arrV cA _) (funext fun _ => congrArg Value.long (show lI 0 = 0 by decide +kernel))
section KN
variable {p : Program} {l : Launch} {e : Env} {R : Room} {s : State} {m : MethodId} {args : Array Value} {below : List Frame} {meth : Method} {c : Code} {H : Heap} {locs : List Loc} {cells slots : Nat} {Q : State → Prop} {pc : Nat} {ls : Array Slot} {rest : List Value} {cc : ByteArray}
variable {D : va_G} {cl : List vw_C} {tys : List (ClassId × FieldType)} {ws : va_W} {A : Nat → Prop} {H0 : Heap}
theorem kn_newa {atype : ArrayType} {ty : FieldType} {cB : ClassId} {n : Int32} {N : Nat} {a0 : vp_A} (hexec : p.tables.exec = Jvm.exec) (hb : c.code = cc) (harr : (Cond.arrayClass (newarray.typeOf atype)).before args s = true) (hty : newarray.typeOf atype = ty) (h3 : ty = .int ∨ ty = .long ∨ ty = .boolean) (t0 : Nat) (ht : tys[t0]? = some (cB, ty)) (hK : va_K D cl tys s) (hP : va_P D cl ws H) (hD : va_D A ws) (hS : va_S A H0 H locs) (hA : ∀ q, H0.size ≤ q → A q)
    (ha : ∀ cA : ClassId, vp_cell cA a0 = arrV cA N (fun _ => defaultValue ty)) (hn : n.toInt = (N : Int)) (hN : N ≤ 100000) (hcells : cells + 1 ≤ R.cells) (hslots : slots + N ≤ R.slots) (hdg : decode cc pc = .ok (.newarray atype, 2))
    (kk : ∀ (q : Nat) (H1 : Heap), va_P D cl (ws ++ [(q, .inl (cB, a0))]) H1 → va_D A (ws ++ [(q, .inl (cB, a0))]) → va_S A H0 H1 locs → W p l e R s m args below meth c H1 locs (cells + 1) (slots + N) Q (F0 m (pc + 2) ls (.ref q :: rest))) : W p l e R s m args below meth c H locs cells slots Q (F0 m pc ls (.int n :: rest)) := by
  have hneg : ¬ n < 0 := fun h => by
    have h9 := (cm_lt32 hn i0_t).mp h
    omega
  have hby : N * componentBytes ty ≤ 536870912 := by
    rcases h3 with rfl | rfl | rfl <;> simp only [componentBytes] <;> omega
  refine va_newa hexec hb harr hty hK hP hD hS hA ha hneg (kN_clamp hn) hby hcells hslots hdg (fun q cA H1 hK1 p1 d1 s1 => ?_)
  rw [kn_same hK1 t0 ht h3] at p1 d1
  exact kk q H1 p1 d1 s1
end KN
set_option maxHeartbeats 4000000 in
set_option maxRecDepth 100000 in
theorem c_Log (l : Launch) (D : va_G) (cI cJ cZ : ClassId) (sz : Nat) (h0 : Nat) (side : Nat) (s2 : side ≤ 20) : Met l y_Lo_init w_Lo_init ({ frames := 1, cells := 4, slots := 2082, locals := 12 }) (va_Pc [.ref h0, .int (nI side)] (kB D vwCl (tyL cI cJ cZ) sz [(h0, .inr (3, [.int (nI 0), .null, .null, .null, .null, .int (pI False)]))])) (va_Qv (fun (u : Nat × Nat × Nat × Nat) => True) (fun (u : Nat × Nat × Nat × Nat) t => kE D vwCl (va_A [(h0, .inr (3, [.int (nI 0), .null, .null, .null, .null, .int (pI False)]))] sz) [(h0, .inr (3, [.int (nI side), .ref u.1, .ref u.2.1, .ref u.2.2.1, .ref u.2.2.2, .int (pI False)])), (u.1, .inl (cZ, ((2 * side) * side), .inl (fun j => pI ((fun _ => False) j)))), (u.2.1, .inl (cI, (side * side), .inl (fun j => nI ((fun _ => 0) j)))), (u.2.2.1, .inl (cI, ((side + 1) * (side + 1)), .inl (fun j => nI ((fun _ => 0) j)))), (u.2.2.2, .inl (cI, ((side + 1) * (side + 1)), .inl (fun j => nI ((fun _ => 0) j))))] t) (va_A [(h0, .inr (3, [.int (nI 0), .null, .null, .null, .null, .int (pI False)]))] sz)) 4 2082 (va_A [(h0, .inr (3, [.int (nI 0), .null, .null, .null, .null, .int (pI False)]))] sz) := by
  refine Met.ofW (cc := b_Lo_init) (maxL := 2) (ret := none) (by decide) rfl ?_
  intro p e s m args below meth c s₁ B hml hv
  obtain ⟨rfl, hsz, hP, hK, hD0, hZ⟩ := hv
  have hx := B.exec
  have hb := B.bytes
  have hr := B.returns
  have hts := atoms_spec (ws := w_Lo_init) B.pre
  have hown : s.vm.findClass R_Lo = some m.cls := findClass_of_methodNamed B.named
  have hlocks := B.notSynchronized
  have hin : meth.name = "<init>" := (name_of_methodNamed B.named B.method).1
  subst hsz
  have hD := hD0.self (sz := s.heap.size)
  generalize hAe : va_A [(h0, .inr (3, [.int (nI 0), .null, .null, .null, .null, .int (pI False)]))] s.heap.size = A at hD ⊢
  have hA : ∀ q : Nat, s.heap.size ≤ q → A q := fun q h => by rw [← hAe]; exact Or.inr h
  have hS : va_S A s.heap s.heap [] := va_S.rf
  have hP : va_P D vwCl [(h0, .inr (3, [.int (nI 0), .null, .null, .null, .null, .int (pI False)]))] s.heap := hP
  have hl := lv_entry ([.ref h0, .int (nI side)]) (n := 2) (Nat.le_of_ble_eq_true rfl)
  rw [lg_entry_eq]
  generalize (lg_sl ([.ref h0, .int (nI side)]) ++ List.replicate (2 - (lg_sl ([.ref h0, .int (nI side)])).length) Slot.unset).toArray = ls at hl ⊢
  have hl : lv_has ls 2 [(0, .ref h0), (1, .int (nI side))] := hl
  have q5 := sq20 s2
  have q6 := sq2 s2
  refine lv_aload_n hx hb d_Lo_init_0 rfl (lv_at hl 0 rfl) ?_
  refine W.objInit hx hb hown (hts _ (List.mem_cons_of_mem _ k_34)) (hts _ (List.mem_cons_of_mem _ k_21)) (hts _ (List.mem_cons_of_mem _ k_22)) rfl (by rw [hml]; exact hl.1) rfl d_Lo_init_1 (Nat.le_of_ble_eq_true rfl) (Nat.le_of_ble_eq_true rfl) ?_
  refine W.eq (g2 := F0 m 4 ls []) rfl ?_
  refine lv_aload_n hx hb d_Lo_init_4 rfl (lv_at hl 0 rfl) ?_
  refine lv_iload_n hx hb d_Lo_init_5 rfl (lv_at hl 1 rfl) ?_
  refine va_putF (D := D) (ci := 3) (v := .int (nI side)) (ty := .int) (C := R_Lo) (T := T_Lo) (N := 6) hx hb hts (fun w h => List.mem_cons_of_mem _ (iw_Lo w h)) ty_Lo tyok_Lo nm_Lo hown hK hP hD hS 0 rfl rfl 0 (by decide) (hts _ (List.mem_cons_of_mem _ k_35)) (fun _ h9 => h9) rfl hin rfl (by decide +kernel) (rfl) (rfl) (Nat.le_of_ble_eq_true rfl) d_Lo_init_6 (fun H locs hP hD hS => ?_)
  have hP : va_P D vwCl [(h0, .inr (3, [.int (nI side), .null, .null, .null, .null, .int (pI False)]))] H := hP
  have hD : va_D A [(h0, .inr (3, [.int (nI side), .null, .null, .null, .null, .int (pI False)]))] := hD
  refine lv_aload_n hx hb d_Lo_init_9 rfl (lv_at hl 0 rfl) ?_
  refine lv_iconst (v := nI 2) hx hb d_Lo_init_10 (by decide +kernel) ?_
  refine lv_iload_n hx hb d_Lo_init_11 rfl (lv_at hl 1 rfl) ?_
  refine lv_imul hx hb d_Lo_init_12 ?_
  refine ka_i (y := nI (2 * side)) (pk_mul _ _) ?_
  refine lv_iload_n hx hb d_Lo_init_13 rfl (lv_at hl 1 rfl) ?_
  refine lv_imul hx hb d_Lo_init_14 ?_
  refine ka_i (y := nI ((2 * side) * side)) (pk_mul _ _) ?_
  refine kn_newa (atype := .boolean) (cB := cZ) (N := ((2 * side) * side)) (a0 := (((2 * side) * side), .inl (fun j => pI ((fun _ => False) j)))) hx hb (hts _ (List.mem_cons_of_mem _ k_57)) rfl (Or.inr (Or.inr rfl)) 2 rfl hK hP hD hS hA (a0_prop _) (nI_t (by omega)) (by omega) (Nat.le_of_ble_eq_true rfl) (Nat.le_trans (show 0 + ((2 * side) * side) ≤ 800 by omega) (Nat.le_of_ble_eq_true rfl)) d_Lo_init_15 (fun q15 H hP hD hS => ?_)
  have hP : va_P D vwCl [(h0, .inr (3, [.int (nI side), .null, .null, .null, .null, .int (pI False)])), (q15, .inl (cZ, ((2 * side) * side), .inl (fun j => pI ((fun _ => False) j))))] H := hP
  have hD : va_D A [(h0, .inr (3, [.int (nI side), .null, .null, .null, .null, .int (pI False)])), (q15, .inl (cZ, ((2 * side) * side), .inl (fun j => pI ((fun _ => False) j))))] := hD
  refine W.widen (k := 1) (n := 800) (by omega) (by omega) ?_
  refine va_putF (D := D) (ci := 3) (v := .ref q15) (ty := .array .boolean) (C := R_Lo) (T := T_Lo) (N := 6) hx hb hts (fun w h => List.mem_cons_of_mem _ (iw_Lo w h)) ty_Lo tyok_Lo nm_Lo hown hK hP hD hS 0 rfl rfl 1 (by decide) (hts _ (List.mem_cons_of_mem _ k_37)) (fun _ h9 => h9) rfl hin rfl (by decide +kernel) (rfl) (rfl) (Nat.le_of_ble_eq_true rfl) d_Lo_init_17 (fun H locs hP hD hS => ?_)
  have hP : va_P D vwCl [(h0, .inr (3, [.int (nI side), .ref q15, .null, .null, .null, .int (pI False)])), (q15, .inl (cZ, ((2 * side) * side), .inl (fun j => pI ((fun _ => False) j))))] H := hP
  have hD : va_D A [(h0, .inr (3, [.int (nI side), .ref q15, .null, .null, .null, .int (pI False)])), (q15, .inl (cZ, ((2 * side) * side), .inl (fun j => pI ((fun _ => False) j))))] := hD
  refine lv_aload_n hx hb d_Lo_init_20 rfl (lv_at hl 0 rfl) ?_
  refine lv_iload_n hx hb d_Lo_init_21 rfl (lv_at hl 1 rfl) ?_
  refine lv_iload_n hx hb d_Lo_init_22 rfl (lv_at hl 1 rfl) ?_
  refine lv_imul hx hb d_Lo_init_23 ?_
  refine ka_i (y := nI (side * side)) (pk_mul _ _) ?_
  refine kn_newa (atype := .int) (cB := cI) (N := (side * side)) (a0 := ((side * side), .inl (fun j => nI ((fun _ => 0) j)))) hx hb (hts _ (List.mem_cons_of_mem _ k_58)) rfl (Or.inl rfl) 0 rfl hK hP hD hS hA (a0_nat _) (nI_t (by omega)) (by omega) (Nat.le_of_ble_eq_true rfl) (Nat.le_trans (show 800 + (side * side) ≤ 1200 by omega) (Nat.le_of_ble_eq_true rfl)) d_Lo_init_24 (fun q24 H hP hD hS => ?_)
  have hP : va_P D vwCl [(h0, .inr (3, [.int (nI side), .ref q15, .null, .null, .null, .int (pI False)])), (q15, .inl (cZ, ((2 * side) * side), .inl (fun j => pI ((fun _ => False) j)))), (q24, .inl (cI, (side * side), .inl (fun j => nI ((fun _ => 0) j))))] H := hP
  have hD : va_D A [(h0, .inr (3, [.int (nI side), .ref q15, .null, .null, .null, .int (pI False)])), (q15, .inl (cZ, ((2 * side) * side), .inl (fun j => pI ((fun _ => False) j)))), (q24, .inl (cI, (side * side), .inl (fun j => nI ((fun _ => 0) j))))] := hD
  refine W.widen (k := 2) (n := 1200) (by omega) (by omega) ?_
  refine va_putF (D := D) (ci := 3) (v := .ref q24) (ty := .array .int) (C := R_Lo) (T := T_Lo) (N := 6) hx hb hts (fun w h => List.mem_cons_of_mem _ (iw_Lo w h)) ty_Lo tyok_Lo nm_Lo hown hK hP hD hS 0 rfl rfl 2 (by decide) (hts _ (List.mem_cons_of_mem _ k_38)) (fun _ h9 => h9) rfl hin rfl (by decide +kernel) (rfl) (rfl) (Nat.le_of_ble_eq_true rfl) d_Lo_init_26 (fun H locs hP hD hS => ?_)
  have hP : va_P D vwCl [(h0, .inr (3, [.int (nI side), .ref q15, .ref q24, .null, .null, .int (pI False)])), (q15, .inl (cZ, ((2 * side) * side), .inl (fun j => pI ((fun _ => False) j)))), (q24, .inl (cI, (side * side), .inl (fun j => nI ((fun _ => 0) j))))] H := hP
  have hD : va_D A [(h0, .inr (3, [.int (nI side), .ref q15, .ref q24, .null, .null, .int (pI False)])), (q15, .inl (cZ, ((2 * side) * side), .inl (fun j => pI ((fun _ => False) j)))), (q24, .inl (cI, (side * side), .inl (fun j => nI ((fun _ => 0) j))))] := hD
  refine lv_aload_n hx hb d_Lo_init_29 rfl (lv_at hl 0 rfl) ?_
  refine lv_iload_n hx hb d_Lo_init_30 rfl (lv_at hl 1 rfl) ?_
  refine lv_iconst (v := nI 1) hx hb d_Lo_init_31 (by decide +kernel) ?_
  refine lv_iadd hx hb d_Lo_init_32 ?_
  refine ka_i (y := nI (side + 1)) (nI_add _ _) ?_
  refine lv_iload_n hx hb d_Lo_init_33 rfl (lv_at hl 1 rfl) ?_
  refine lv_iconst (v := nI 1) hx hb d_Lo_init_34 (by decide +kernel) ?_
  refine lv_iadd hx hb d_Lo_init_35 ?_
  refine ka_i (y := nI (side + 1)) (nI_add _ _) ?_
  refine lv_imul hx hb d_Lo_init_36 ?_
  refine ka_i (y := nI ((side + 1) * (side + 1))) (pk_mul _ _) ?_
  refine kn_newa (atype := .int) (cB := cI) (N := ((side + 1) * (side + 1))) (a0 := (((side + 1) * (side + 1)), .inl (fun j => nI ((fun _ => 0) j)))) hx hb (hts _ (List.mem_cons_of_mem _ k_58)) rfl (Or.inl rfl) 0 rfl hK hP hD hS hA (a0_nat _) (nI_t (by omega)) (by omega) (Nat.le_of_ble_eq_true rfl) (Nat.le_trans (show 1200 + ((side + 1) * (side + 1)) ≤ 1641 by omega) (Nat.le_of_ble_eq_true rfl)) d_Lo_init_37 (fun q37 H hP hD hS => ?_)
  have hP : va_P D vwCl [(h0, .inr (3, [.int (nI side), .ref q15, .ref q24, .null, .null, .int (pI False)])), (q15, .inl (cZ, ((2 * side) * side), .inl (fun j => pI ((fun _ => False) j)))), (q24, .inl (cI, (side * side), .inl (fun j => nI ((fun _ => 0) j)))), (q37, .inl (cI, ((side + 1) * (side + 1)), .inl (fun j => nI ((fun _ => 0) j))))] H := hP
  have hD : va_D A [(h0, .inr (3, [.int (nI side), .ref q15, .ref q24, .null, .null, .int (pI False)])), (q15, .inl (cZ, ((2 * side) * side), .inl (fun j => pI ((fun _ => False) j)))), (q24, .inl (cI, (side * side), .inl (fun j => nI ((fun _ => 0) j)))), (q37, .inl (cI, ((side + 1) * (side + 1)), .inl (fun j => nI ((fun _ => 0) j))))] := hD
  refine W.widen (k := 3) (n := 1641) (by omega) (by omega) ?_
  refine va_putF (D := D) (ci := 3) (v := .ref q37) (ty := .array .int) (C := R_Lo) (T := T_Lo) (N := 6) hx hb hts (fun w h => List.mem_cons_of_mem _ (iw_Lo w h)) ty_Lo tyok_Lo nm_Lo hown hK hP hD hS 0 rfl rfl 3 (by decide) (hts _ (List.mem_cons_of_mem _ k_39)) (fun _ h9 => h9) rfl hin rfl (by decide +kernel) (rfl) (rfl) (Nat.le_of_ble_eq_true rfl) d_Lo_init_39 (fun H locs hP hD hS => ?_)
  have hP : va_P D vwCl [(h0, .inr (3, [.int (nI side), .ref q15, .ref q24, .ref q37, .null, .int (pI False)])), (q15, .inl (cZ, ((2 * side) * side), .inl (fun j => pI ((fun _ => False) j)))), (q24, .inl (cI, (side * side), .inl (fun j => nI ((fun _ => 0) j)))), (q37, .inl (cI, ((side + 1) * (side + 1)), .inl (fun j => nI ((fun _ => 0) j))))] H := hP
  have hD : va_D A [(h0, .inr (3, [.int (nI side), .ref q15, .ref q24, .ref q37, .null, .int (pI False)])), (q15, .inl (cZ, ((2 * side) * side), .inl (fun j => pI ((fun _ => False) j)))), (q24, .inl (cI, (side * side), .inl (fun j => nI ((fun _ => 0) j)))), (q37, .inl (cI, ((side + 1) * (side + 1)), .inl (fun j => nI ((fun _ => 0) j))))] := hD
  refine lv_aload_n hx hb d_Lo_init_42 rfl (lv_at hl 0 rfl) ?_
  refine lv_iload_n hx hb d_Lo_init_43 rfl (lv_at hl 1 rfl) ?_
  refine lv_iconst (v := nI 1) hx hb d_Lo_init_44 (by decide +kernel) ?_
  refine lv_iadd hx hb d_Lo_init_45 ?_
  refine ka_i (y := nI (side + 1)) (nI_add _ _) ?_
  refine lv_iload_n hx hb d_Lo_init_46 rfl (lv_at hl 1 rfl) ?_
  refine lv_iconst (v := nI 1) hx hb d_Lo_init_47 (by decide +kernel) ?_
  refine lv_iadd hx hb d_Lo_init_48 ?_
  refine ka_i (y := nI (side + 1)) (nI_add _ _) ?_
  refine lv_imul hx hb d_Lo_init_49 ?_
  refine ka_i (y := nI ((side + 1) * (side + 1))) (pk_mul _ _) ?_
  refine kn_newa (atype := .int) (cB := cI) (N := ((side + 1) * (side + 1))) (a0 := (((side + 1) * (side + 1)), .inl (fun j => nI ((fun _ => 0) j)))) hx hb (hts _ (List.mem_cons_of_mem _ k_58)) rfl (Or.inl rfl) 0 rfl hK hP hD hS hA (a0_nat _) (nI_t (by omega)) (by omega) (Nat.le_of_ble_eq_true rfl) (Nat.le_trans (show 1641 + ((side + 1) * (side + 1)) ≤ 2082 by omega) (Nat.le_of_ble_eq_true rfl)) d_Lo_init_50 (fun q50 H hP hD hS => ?_)
  have hP : va_P D vwCl [(h0, .inr (3, [.int (nI side), .ref q15, .ref q24, .ref q37, .null, .int (pI False)])), (q15, .inl (cZ, ((2 * side) * side), .inl (fun j => pI ((fun _ => False) j)))), (q24, .inl (cI, (side * side), .inl (fun j => nI ((fun _ => 0) j)))), (q37, .inl (cI, ((side + 1) * (side + 1)), .inl (fun j => nI ((fun _ => 0) j)))), (q50, .inl (cI, ((side + 1) * (side + 1)), .inl (fun j => nI ((fun _ => 0) j))))] H := hP
  have hD : va_D A [(h0, .inr (3, [.int (nI side), .ref q15, .ref q24, .ref q37, .null, .int (pI False)])), (q15, .inl (cZ, ((2 * side) * side), .inl (fun j => pI ((fun _ => False) j)))), (q24, .inl (cI, (side * side), .inl (fun j => nI ((fun _ => 0) j)))), (q37, .inl (cI, ((side + 1) * (side + 1)), .inl (fun j => nI ((fun _ => 0) j)))), (q50, .inl (cI, ((side + 1) * (side + 1)), .inl (fun j => nI ((fun _ => 0) j))))] := hD
  refine W.widen (k := 4) (n := 2082) (by omega) (by omega) ?_
  refine va_putF (D := D) (ci := 3) (v := .ref q50) (ty := .array .int) (C := R_Lo) (T := T_Lo) (N := 6) hx hb hts (fun w h => List.mem_cons_of_mem _ (iw_Lo w h)) ty_Lo tyok_Lo nm_Lo hown hK hP hD hS 0 rfl rfl 4 (by decide) (hts _ (List.mem_cons_of_mem _ k_41)) (fun _ h9 => h9) rfl hin rfl (by decide +kernel) (rfl) (rfl) (Nat.le_of_ble_eq_true rfl) d_Lo_init_52 (fun H locs hP hD hS => ?_)
  have hP : va_P D vwCl [(h0, .inr (3, [.int (nI side), .ref q15, .ref q24, .ref q37, .ref q50, .int (pI False)])), (q15, .inl (cZ, ((2 * side) * side), .inl (fun j => pI ((fun _ => False) j)))), (q24, .inl (cI, (side * side), .inl (fun j => nI ((fun _ => 0) j)))), (q37, .inl (cI, ((side + 1) * (side + 1)), .inl (fun j => nI ((fun _ => 0) j)))), (q50, .inl (cI, ((side + 1) * (side + 1)), .inl (fun j => nI ((fun _ => 0) j))))] H := hP
  have hD : va_D A [(h0, .inr (3, [.int (nI side), .ref q15, .ref q24, .ref q37, .ref q50, .int (pI False)])), (q15, .inl (cZ, ((2 * side) * side), .inl (fun j => pI ((fun _ => False) j)))), (q24, .inl (cI, (side * side), .inl (fun j => nI ((fun _ => 0) j)))), (q37, .inl (cI, ((side + 1) * (side + 1)), .inl (fun j => nI ((fun _ => 0) j)))), (q50, .inl (cI, ((side + 1) * (side + 1)), .inl (fun j => nI ((fun _ => 0) j))))] := hD
  have hP := hP.sub (ws' := [(h0, .inr (3, [.int (nI side), .ref q15, .ref q24, .ref q37, .ref q50, .int (pI False)])), (q15, .inl (cZ, ((2 * side) * side), .inl (fun j => pI ((fun _ => False) j)))), (q24, .inl (cI, (side * side), .inl (fun j => nI ((fun _ => 0) j)))), (q37, .inl (cI, ((side + 1) * (side + 1)), .inl (fun j => nI ((fun _ => 0) j)))), (q50, .inl (cI, ((side + 1) * (side + 1)), .inl (fun j => nI ((fun _ => 0) j))))]) [0, 1, 2, 3, 4] rfl
  have hD := hD.sub (ws' := [(h0, .inr (3, [.int (nI side), .ref q15, .ref q24, .ref q37, .ref q50, .int (pI False)])), (q15, .inl (cZ, ((2 * side) * side), .inl (fun j => pI ((fun _ => False) j)))), (q24, .inl (cI, (side * side), .inl (fun j => nI ((fun _ => 0) j)))), (q37, .inl (cI, ((side + 1) * (side + 1)), .inl (fun j => nI ((fun _ => 0) j)))), (q50, .inl (cI, ((side + 1) * (side + 1)), .inl (fun j => nI ((fun _ => 0) j))))]) [0, 1, 2, 3, 4] (by decide) rfl
  exact kretv (u := (q15, q24, q37, q50)) hx hb hr hP hD hS hlocks rfl (trivial) d_Lo_init_55
set_option maxHeartbeats 4000000 in
set_option maxRecDepth 100000 in
theorem c_Sizes (l : Launch) (D : va_G) (cI cJ cZ : ClassId) (sz : Nat) (hz : Nat)  : Met l y_Si_init w_Si_init ({ frames := 1, cells := 4, slots := 32, locals := 12 }) (va_Pc [.ref hz] (kB D vwCl (tyL cI cJ cZ) sz [(hz, .inr (5, [.null, .null, .null, .null, .int (nI 0)]))])) (va_Qv (fun (u : Nat × Nat × Nat × Nat) => True) (fun (u : Nat × Nat × Nat × Nat) t => kE D vwCl (va_A [(hz, .inr (5, [.null, .null, .null, .null, .int (nI 0)]))] sz) [(hz, .inr (5, [.ref u.1, .ref u.2.1, .ref u.2.2.1, .ref u.2.2.2, .int (nI 0)])), (u.1, .inl (cI, 8, .inl (fun j => nI ((fun _ => 0) j)))), (u.2.1, .inl (cI, 8, .inl (fun j => nI ((fun _ => 0) j)))), (u.2.2.1, .inl (cI, 8, .inl (fun j => nI ((fun _ => 0) j)))), (u.2.2.2, .inl (cI, 8, .inl (fun j => nI ((fun _ => 0) j))))] t) (va_A [(hz, .inr (5, [.null, .null, .null, .null, .int (nI 0)]))] sz)) 4 32 (va_A [(hz, .inr (5, [.null, .null, .null, .null, .int (nI 0)]))] sz) := by
  refine Met.ofW (cc := b_Si_init) (maxL := 1) (ret := none) (by decide) rfl ?_
  intro p e s m args below meth c s₁ B hml hv
  obtain ⟨rfl, hsz, hP, hK, hD0, hZ⟩ := hv
  have hx := B.exec
  have hb := B.bytes
  have hr := B.returns
  have hts := atoms_spec (ws := w_Si_init) B.pre
  have hown : s.vm.findClass R_Si = some m.cls := findClass_of_methodNamed B.named
  have hlocks := B.notSynchronized
  have hin : meth.name = "<init>" := (name_of_methodNamed B.named B.method).1
  subst hsz
  have hD := hD0.self (sz := s.heap.size)
  generalize hAe : va_A [(hz, .inr (5, [.null, .null, .null, .null, .int (nI 0)]))] s.heap.size = A at hD ⊢
  have hA : ∀ q : Nat, s.heap.size ≤ q → A q := fun q h => by rw [← hAe]; exact Or.inr h
  have hS : va_S A s.heap s.heap [] := va_S.rf
  have hP : va_P D vwCl [(hz, .inr (5, [.null, .null, .null, .null, .int (nI 0)]))] s.heap := hP
  have hl := lv_entry ([.ref hz]) (n := 1) (Nat.le_of_ble_eq_true rfl)
  rw [lg_entry_eq]
  generalize (lg_sl ([.ref hz]) ++ List.replicate (1 - (lg_sl ([.ref hz])).length) Slot.unset).toArray = ls at hl ⊢
  have hl : lv_has ls 1 [(0, .ref hz)] := hl
  refine lv_aload_n hx hb d_Si_init_0 rfl (lv_at hl 0 rfl) ?_
  refine W.objInit hx hb hown (hts _ (List.mem_cons_of_mem _ k_64)) (hts _ (List.mem_cons_of_mem _ k_21)) (hts _ (List.mem_cons_of_mem _ k_22)) rfl (by rw [hml]; exact hl.1) rfl d_Si_init_1 (Nat.le_of_ble_eq_true rfl) (Nat.le_of_ble_eq_true rfl) ?_
  refine W.eq (g2 := F0 m 4 ls []) rfl ?_
  refine lv_aload_n hx hb d_Si_init_4 rfl (lv_at hl 0 rfl) ?_
  refine lv_bipush (v := nI 8) hx hb d_Si_init_5 (by decide +kernel) ?_
  refine kn_newa (atype := .int) (cB := cI) (N := 8) (a0 := (8, .inl (fun j => nI ((fun _ => 0) j)))) hx hb (hts _ (List.mem_cons_of_mem _ k_58)) rfl (Or.inl rfl) 0 rfl hK hP hD hS hA (a0_nat _) (nI_t (by omega)) (by omega) (Nat.le_of_ble_eq_true rfl) (Nat.le_trans (show 0 + 8 ≤ 8 by omega) (Nat.le_of_ble_eq_true rfl)) d_Si_init_7 (fun q7 H hP hD hS => ?_)
  have hP : va_P D vwCl [(hz, .inr (5, [.null, .null, .null, .null, .int (nI 0)])), (q7, .inl (cI, 8, .inl (fun j => nI ((fun _ => 0) j))))] H := hP
  have hD : va_D A [(hz, .inr (5, [.null, .null, .null, .null, .int (nI 0)])), (q7, .inl (cI, 8, .inl (fun j => nI ((fun _ => 0) j))))] := hD
  refine W.widen (k := 1) (n := 8) (by omega) (by omega) ?_
  refine va_putF (D := D) (ci := 5) (v := .ref q7) (ty := .array .int) (C := R_Si) (T := T_Si) (N := 5) hx hb hts (fun w h => List.mem_cons_of_mem _ (iw_Si w h)) ty_Si tyok_Si nm_Si hown hK hP hD hS 0 rfl rfl 0 (by decide) (hts _ (List.mem_cons_of_mem _ k_65)) (fun _ h9 => h9) rfl hin rfl (by decide +kernel) (rfl) (rfl) (Nat.le_of_ble_eq_true rfl) d_Si_init_9 (fun H locs hP hD hS => ?_)
  have hP : va_P D vwCl [(hz, .inr (5, [.ref q7, .null, .null, .null, .int (nI 0)])), (q7, .inl (cI, 8, .inl (fun j => nI ((fun _ => 0) j))))] H := hP
  have hD : va_D A [(hz, .inr (5, [.ref q7, .null, .null, .null, .int (nI 0)])), (q7, .inl (cI, 8, .inl (fun j => nI ((fun _ => 0) j))))] := hD
  refine lv_aload_n hx hb d_Si_init_12 rfl (lv_at hl 0 rfl) ?_
  refine lv_bipush (v := nI 8) hx hb d_Si_init_13 (by decide +kernel) ?_
  refine kn_newa (atype := .int) (cB := cI) (N := 8) (a0 := (8, .inl (fun j => nI ((fun _ => 0) j)))) hx hb (hts _ (List.mem_cons_of_mem _ k_58)) rfl (Or.inl rfl) 0 rfl hK hP hD hS hA (a0_nat _) (nI_t (by omega)) (by omega) (Nat.le_of_ble_eq_true rfl) (Nat.le_trans (show 8 + 8 ≤ 16 by omega) (Nat.le_of_ble_eq_true rfl)) d_Si_init_15 (fun q15 H hP hD hS => ?_)
  have hP : va_P D vwCl [(hz, .inr (5, [.ref q7, .null, .null, .null, .int (nI 0)])), (q7, .inl (cI, 8, .inl (fun j => nI ((fun _ => 0) j)))), (q15, .inl (cI, 8, .inl (fun j => nI ((fun _ => 0) j))))] H := hP
  have hD : va_D A [(hz, .inr (5, [.ref q7, .null, .null, .null, .int (nI 0)])), (q7, .inl (cI, 8, .inl (fun j => nI ((fun _ => 0) j)))), (q15, .inl (cI, 8, .inl (fun j => nI ((fun _ => 0) j))))] := hD
  refine W.widen (k := 2) (n := 16) (by omega) (by omega) ?_
  refine va_putF (D := D) (ci := 5) (v := .ref q15) (ty := .array .int) (C := R_Si) (T := T_Si) (N := 5) hx hb hts (fun w h => List.mem_cons_of_mem _ (iw_Si w h)) ty_Si tyok_Si nm_Si hown hK hP hD hS 0 rfl rfl 1 (by decide) (hts _ (List.mem_cons_of_mem _ k_67)) (fun _ h9 => h9) rfl hin rfl (by decide +kernel) (rfl) (rfl) (Nat.le_of_ble_eq_true rfl) d_Si_init_17 (fun H locs hP hD hS => ?_)
  have hP : va_P D vwCl [(hz, .inr (5, [.ref q7, .ref q15, .null, .null, .int (nI 0)])), (q7, .inl (cI, 8, .inl (fun j => nI ((fun _ => 0) j)))), (q15, .inl (cI, 8, .inl (fun j => nI ((fun _ => 0) j))))] H := hP
  have hD : va_D A [(hz, .inr (5, [.ref q7, .ref q15, .null, .null, .int (nI 0)])), (q7, .inl (cI, 8, .inl (fun j => nI ((fun _ => 0) j)))), (q15, .inl (cI, 8, .inl (fun j => nI ((fun _ => 0) j))))] := hD
  refine lv_aload_n hx hb d_Si_init_20 rfl (lv_at hl 0 rfl) ?_
  refine lv_bipush (v := nI 8) hx hb d_Si_init_21 (by decide +kernel) ?_
  refine kn_newa (atype := .int) (cB := cI) (N := 8) (a0 := (8, .inl (fun j => nI ((fun _ => 0) j)))) hx hb (hts _ (List.mem_cons_of_mem _ k_58)) rfl (Or.inl rfl) 0 rfl hK hP hD hS hA (a0_nat _) (nI_t (by omega)) (by omega) (Nat.le_of_ble_eq_true rfl) (Nat.le_trans (show 16 + 8 ≤ 24 by omega) (Nat.le_of_ble_eq_true rfl)) d_Si_init_23 (fun q23 H hP hD hS => ?_)
  have hP : va_P D vwCl [(hz, .inr (5, [.ref q7, .ref q15, .null, .null, .int (nI 0)])), (q7, .inl (cI, 8, .inl (fun j => nI ((fun _ => 0) j)))), (q15, .inl (cI, 8, .inl (fun j => nI ((fun _ => 0) j)))), (q23, .inl (cI, 8, .inl (fun j => nI ((fun _ => 0) j))))] H := hP
  have hD : va_D A [(hz, .inr (5, [.ref q7, .ref q15, .null, .null, .int (nI 0)])), (q7, .inl (cI, 8, .inl (fun j => nI ((fun _ => 0) j)))), (q15, .inl (cI, 8, .inl (fun j => nI ((fun _ => 0) j)))), (q23, .inl (cI, 8, .inl (fun j => nI ((fun _ => 0) j))))] := hD
  refine W.widen (k := 3) (n := 24) (by omega) (by omega) ?_
  refine va_putF (D := D) (ci := 5) (v := .ref q23) (ty := .array .int) (C := R_Si) (T := T_Si) (N := 5) hx hb hts (fun w h => List.mem_cons_of_mem _ (iw_Si w h)) ty_Si tyok_Si nm_Si hown hK hP hD hS 0 rfl rfl 2 (by decide) (hts _ (List.mem_cons_of_mem _ k_69)) (fun _ h9 => h9) rfl hin rfl (by decide +kernel) (rfl) (rfl) (Nat.le_of_ble_eq_true rfl) d_Si_init_25 (fun H locs hP hD hS => ?_)
  have hP : va_P D vwCl [(hz, .inr (5, [.ref q7, .ref q15, .ref q23, .null, .int (nI 0)])), (q7, .inl (cI, 8, .inl (fun j => nI ((fun _ => 0) j)))), (q15, .inl (cI, 8, .inl (fun j => nI ((fun _ => 0) j)))), (q23, .inl (cI, 8, .inl (fun j => nI ((fun _ => 0) j))))] H := hP
  have hD : va_D A [(hz, .inr (5, [.ref q7, .ref q15, .ref q23, .null, .int (nI 0)])), (q7, .inl (cI, 8, .inl (fun j => nI ((fun _ => 0) j)))), (q15, .inl (cI, 8, .inl (fun j => nI ((fun _ => 0) j)))), (q23, .inl (cI, 8, .inl (fun j => nI ((fun _ => 0) j))))] := hD
  refine lv_aload_n hx hb d_Si_init_28 rfl (lv_at hl 0 rfl) ?_
  refine lv_bipush (v := nI 8) hx hb d_Si_init_29 (by decide +kernel) ?_
  refine kn_newa (atype := .int) (cB := cI) (N := 8) (a0 := (8, .inl (fun j => nI ((fun _ => 0) j)))) hx hb (hts _ (List.mem_cons_of_mem _ k_58)) rfl (Or.inl rfl) 0 rfl hK hP hD hS hA (a0_nat _) (nI_t (by omega)) (by omega) (Nat.le_of_ble_eq_true rfl) (Nat.le_trans (show 24 + 8 ≤ 32 by omega) (Nat.le_of_ble_eq_true rfl)) d_Si_init_31 (fun q31 H hP hD hS => ?_)
  have hP : va_P D vwCl [(hz, .inr (5, [.ref q7, .ref q15, .ref q23, .null, .int (nI 0)])), (q7, .inl (cI, 8, .inl (fun j => nI ((fun _ => 0) j)))), (q15, .inl (cI, 8, .inl (fun j => nI ((fun _ => 0) j)))), (q23, .inl (cI, 8, .inl (fun j => nI ((fun _ => 0) j)))), (q31, .inl (cI, 8, .inl (fun j => nI ((fun _ => 0) j))))] H := hP
  have hD : va_D A [(hz, .inr (5, [.ref q7, .ref q15, .ref q23, .null, .int (nI 0)])), (q7, .inl (cI, 8, .inl (fun j => nI ((fun _ => 0) j)))), (q15, .inl (cI, 8, .inl (fun j => nI ((fun _ => 0) j)))), (q23, .inl (cI, 8, .inl (fun j => nI ((fun _ => 0) j)))), (q31, .inl (cI, 8, .inl (fun j => nI ((fun _ => 0) j))))] := hD
  refine W.widen (k := 4) (n := 32) (by omega) (by omega) ?_
  refine va_putF (D := D) (ci := 5) (v := .ref q31) (ty := .array .int) (C := R_Si) (T := T_Si) (N := 5) hx hb hts (fun w h => List.mem_cons_of_mem _ (iw_Si w h)) ty_Si tyok_Si nm_Si hown hK hP hD hS 0 rfl rfl 3 (by decide) (hts _ (List.mem_cons_of_mem _ k_71)) (fun _ h9 => h9) rfl hin rfl (by decide +kernel) (rfl) (rfl) (Nat.le_of_ble_eq_true rfl) d_Si_init_33 (fun H locs hP hD hS => ?_)
  have hP : va_P D vwCl [(hz, .inr (5, [.ref q7, .ref q15, .ref q23, .ref q31, .int (nI 0)])), (q7, .inl (cI, 8, .inl (fun j => nI ((fun _ => 0) j)))), (q15, .inl (cI, 8, .inl (fun j => nI ((fun _ => 0) j)))), (q23, .inl (cI, 8, .inl (fun j => nI ((fun _ => 0) j)))), (q31, .inl (cI, 8, .inl (fun j => nI ((fun _ => 0) j))))] H := hP
  have hD : va_D A [(hz, .inr (5, [.ref q7, .ref q15, .ref q23, .ref q31, .int (nI 0)])), (q7, .inl (cI, 8, .inl (fun j => nI ((fun _ => 0) j)))), (q15, .inl (cI, 8, .inl (fun j => nI ((fun _ => 0) j)))), (q23, .inl (cI, 8, .inl (fun j => nI ((fun _ => 0) j)))), (q31, .inl (cI, 8, .inl (fun j => nI ((fun _ => 0) j))))] := hD
  have hP := hP.sub (ws' := [(hz, .inr (5, [.ref q7, .ref q15, .ref q23, .ref q31, .int (nI 0)])), (q7, .inl (cI, 8, .inl (fun j => nI ((fun _ => 0) j)))), (q15, .inl (cI, 8, .inl (fun j => nI ((fun _ => 0) j)))), (q23, .inl (cI, 8, .inl (fun j => nI ((fun _ => 0) j)))), (q31, .inl (cI, 8, .inl (fun j => nI ((fun _ => 0) j))))]) [0, 1, 2, 3, 4] rfl
  have hD := hD.sub (ws' := [(hz, .inr (5, [.ref q7, .ref q15, .ref q23, .ref q31, .int (nI 0)])), (q7, .inl (cI, 8, .inl (fun j => nI ((fun _ => 0) j)))), (q15, .inl (cI, 8, .inl (fun j => nI ((fun _ => 0) j)))), (q23, .inl (cI, 8, .inl (fun j => nI ((fun _ => 0) j)))), (q31, .inl (cI, 8, .inl (fun j => nI ((fun _ => 0) j))))]) [0, 1, 2, 3, 4] (by decide) rfl
  exact kretv (u := (q7, q15, q23, q31)) hx hb hr hP hD hS hlocks rfl (trivial) d_Si_init_36
set_option maxHeartbeats 4000000 in
set_option maxRecDepth 100000 in
theorem c_Boards (l : Launch) (D : va_G) (cI cJ cZ : ClassId) (sz : Nat) (bo : Nat) (h0 : Nat) (hz : Nat)  : Met l y_Bo_init w_Bo_init ({ frames := 1, cells := 0, slots := 0, locals := 12 }) (va_Pc [.ref bo, .ref h0, .ref hz] (kB D vwCl (tyL cI cJ cZ) sz [(bo, .inr (2, [.null, .null]))])) (va_Qv (fun (_ : Unit) => True) (fun (_ : Unit) t => kE D vwCl (va_A [(bo, .inr (2, [.null, .null]))] sz) [(bo, .inr (2, [.ref hz, .ref h0]))] t) (va_A [(bo, .inr (2, [.null, .null]))] sz)) 0 0 (va_A [(bo, .inr (2, [.null, .null]))] sz) := by
  refine Met.ofW (cc := b_Bo_init) (maxL := 3) (ret := none) (by decide) rfl ?_
  intro p e s m args below meth c s₁ B hml hv
  obtain ⟨rfl, hsz, hP, hK, hD0, hZ⟩ := hv
  have hx := B.exec
  have hb := B.bytes
  have hr := B.returns
  have hts := atoms_spec (ws := w_Bo_init) B.pre
  have hown : s.vm.findClass R_Bo = some m.cls := findClass_of_methodNamed B.named
  have hlocks := B.notSynchronized
  have hin : meth.name = "<init>" := (name_of_methodNamed B.named B.method).1
  subst hsz
  have hD := hD0.self (sz := s.heap.size)
  generalize hAe : va_A [(bo, .inr (2, [.null, .null]))] s.heap.size = A at hD ⊢
  have hA : ∀ q : Nat, s.heap.size ≤ q → A q := fun q h => by rw [← hAe]; exact Or.inr h
  have hS : va_S A s.heap s.heap [] := va_S.rf
  have hP : va_P D vwCl [(bo, .inr (2, [.null, .null]))] s.heap := hP
  have hl := lv_entry ([.ref bo, .ref h0, .ref hz]) (n := 3) (Nat.le_of_ble_eq_true rfl)
  rw [lg_entry_eq]
  generalize (lg_sl ([.ref bo, .ref h0, .ref hz]) ++ List.replicate (3 - (lg_sl ([.ref bo, .ref h0, .ref hz])).length) Slot.unset).toArray = ls at hl ⊢
  have hl : lv_has ls 3 [(0, .ref bo), (1, .ref h0), (2, .ref hz)] := hl
  refine lv_aload_n hx hb d_Bo_init_0 rfl (lv_at hl 0 rfl) ?_
  refine W.objInit hx hb hown (hts _ (List.mem_cons_of_mem _ k_92)) (hts _ (List.mem_cons_of_mem _ k_21)) (hts _ (List.mem_cons_of_mem _ k_22)) rfl (by rw [hml]; exact hl.1) rfl d_Bo_init_1 (Nat.le_of_ble_eq_true rfl) (Nat.le_of_ble_eq_true rfl) ?_
  refine W.eq (g2 := F0 m 4 ls []) rfl ?_
  refine lv_aload_n hx hb d_Bo_init_4 rfl (lv_at hl 0 rfl) ?_
  refine lv_aload_n hx hb d_Bo_init_5 rfl (lv_at hl 1 rfl) ?_
  refine va_putF (D := D) (ci := 2) (v := .ref h0) (ty := .object "SawGrids$Log") (C := R_Bo) (T := T_Bo) (N := 2) hx hb hts (fun w h => List.mem_cons_of_mem _ (iw_Bo w h)) ty_Bo tyok_Bo nm_Bo hown hK hP hD hS 0 rfl rfl 1 (by decide) (hts _ (List.mem_cons_of_mem _ k_95)) (fun _ h9 => h9) rfl hin rfl (by decide +kernel) (rfl) (rfl) (Nat.le_of_ble_eq_true rfl) d_Bo_init_6 (fun H locs hP hD hS => ?_)
  have hP : va_P D vwCl [(bo, .inr (2, [.null, .ref h0]))] H := hP
  have hD : va_D A [(bo, .inr (2, [.null, .ref h0]))] := hD
  refine lv_aload_n hx hb d_Bo_init_9 rfl (lv_at hl 0 rfl) ?_
  refine lv_aload_n hx hb d_Bo_init_10 rfl (lv_at hl 2 rfl) ?_
  refine va_putF (D := D) (ci := 2) (v := .ref hz) (ty := .object "SawGrids$Sizes") (C := R_Bo) (T := T_Bo) (N := 2) hx hb hts (fun w h => List.mem_cons_of_mem _ (iw_Bo w h)) ty_Bo tyok_Bo nm_Bo hown hK hP hD hS 0 rfl rfl 0 (by decide) (hts _ (List.mem_cons_of_mem _ k_93)) (fun _ h9 => h9) rfl hin rfl (by decide +kernel) (rfl) (rfl) (Nat.le_of_ble_eq_true rfl) d_Bo_init_11 (fun H locs hP hD hS => ?_)
  have hP : va_P D vwCl [(bo, .inr (2, [.ref hz, .ref h0]))] H := hP
  have hD : va_D A [(bo, .inr (2, [.ref hz, .ref h0]))] := hD
  exact kretv (u := ()) hx hb hr hP hD hS hlocks rfl (trivial) d_Bo_init_14
set_option maxHeartbeats 4000000 in
set_option maxRecDepth 100000 in
theorem c_Bench (l : Launch) (D : va_G) (cI cJ cZ : ClassId) (sz : Nat) (hb_ : Nat) (bo : Nat) (hz : Nat) (h0 : Nat) (side : Nat) (kf : Nat) (s2 : side ≤ 20) : Met l y_Be_init w_Be_init ({ frames := 1, cells := 4, slots := 82, locals := 12 }) (va_Pc [.ref hb_, .ref bo, .int (nI side), .int (nI kf)] (kB D vwCl (tyL cI cJ cZ) sz [(hb_, .inr (1, [.null, .null, .int (nI 0), .int (nI 0), .int (nI 0), .null, .null, .null, .null])), (bo, .inr (2, [.ref hz, .ref h0]))])) (va_Qv (fun (u : Nat × Nat × Nat × Nat) => True) (fun (u : Nat × Nat × Nat × Nat) t => kE D vwCl (va_A [(hb_, .inr (1, [.null, .null, .int (nI 0), .int (nI 0), .int (nI 0), .null, .null, .null, .null])), (bo, .inr (2, [.ref hz, .ref h0]))] sz) [(hb_, .inr (1, [.ref bo, .ref hz, .int (nI side), .int (nI kf), .int (nI 0), .ref u.1, .ref u.2.1, .ref u.2.2.1, .ref u.2.2.2])), (bo, .inr (2, [.ref hz, .ref h0])), (u.1, .inl (cJ, (side + 1), .inr (.inl (fun j => lI ((fun _ => 0) j))))), (u.2.1, .inl (cI, side, .inl (fun j => nI ((fun _ => 0) j)))), (u.2.2.1, .inl (cJ, (side + 1), .inr (.inl (fun j => lI ((fun _ => 0) j))))), (u.2.2.2, .inl (cI, side, .inl (fun j => iI ((fun _ => 0) j))))] t) (va_A [(hb_, .inr (1, [.null, .null, .int (nI 0), .int (nI 0), .int (nI 0), .null, .null, .null, .null])), (bo, .inr (2, [.ref hz, .ref h0]))] sz)) 4 82 (va_A [(hb_, .inr (1, [.null, .null, .int (nI 0), .int (nI 0), .int (nI 0), .null, .null, .null, .null])), (bo, .inr (2, [.ref hz, .ref h0]))] sz) := by
  refine Met.ofW (cc := b_Be_init) (maxL := 4) (ret := none) (by decide) rfl ?_
  intro p e s m args below meth c s₁ B hml hv
  obtain ⟨rfl, hsz, hP, hK, hD0, hZ⟩ := hv
  have hx := B.exec
  have hb := B.bytes
  have hr := B.returns
  have hts := atoms_spec (ws := w_Be_init) B.pre
  have hown : s.vm.findClass R_Be = some m.cls := findClass_of_methodNamed B.named
  have hlocks := B.notSynchronized
  have hin : meth.name = "<init>" := (name_of_methodNamed B.named B.method).1
  subst hsz
  have hD := hD0.self (sz := s.heap.size)
  generalize hAe : va_A [(hb_, .inr (1, [.null, .null, .int (nI 0), .int (nI 0), .int (nI 0), .null, .null, .null, .null])), (bo, .inr (2, [.ref hz, .ref h0]))] s.heap.size = A at hD ⊢
  have hA : ∀ q : Nat, s.heap.size ≤ q → A q := fun q h => by rw [← hAe]; exact Or.inr h
  have hS : va_S A s.heap s.heap [] := va_S.rf
  have hP : va_P D vwCl [(hb_, .inr (1, [.null, .null, .int (nI 0), .int (nI 0), .int (nI 0), .null, .null, .null, .null])), (bo, .inr (2, [.ref hz, .ref h0]))] s.heap := hP
  have hl := lv_entry ([.ref hb_, .ref bo, .int (nI side), .int (nI kf)]) (n := 4) (Nat.le_of_ble_eq_true rfl)
  rw [lg_entry_eq]
  generalize (lg_sl ([.ref hb_, .ref bo, .int (nI side), .int (nI kf)]) ++ List.replicate (4 - (lg_sl ([.ref hb_, .ref bo, .int (nI side), .int (nI kf)])).length) Slot.unset).toArray = ls at hl ⊢
  have hl : lv_has ls 4 [(0, .ref hb_), (1, .ref bo), (2, .int (nI side)), (3, .int (nI kf))] := hl
  refine lv_aload_n hx hb d_Be_init_0 rfl (lv_at hl 0 rfl) ?_
  refine W.objInit hx hb hown (hts _ (List.mem_cons_of_mem _ k_106)) (hts _ (List.mem_cons_of_mem _ k_21)) (hts _ (List.mem_cons_of_mem _ k_22)) rfl (by rw [hml]; exact hl.1) rfl d_Be_init_1 (Nat.le_of_ble_eq_true rfl) (Nat.le_of_ble_eq_true rfl) ?_
  refine W.eq (g2 := F0 m 4 ls []) rfl ?_
  refine lv_aload_n hx hb d_Be_init_4 rfl (lv_at hl 0 rfl) ?_
  refine lv_aload_n hx hb d_Be_init_5 rfl (lv_at hl 1 rfl) ?_
  refine va_putF (D := D) (ci := 1) (v := .ref bo) (ty := .object "SawGrids$Boards") (C := R_Be) (T := T_Be) (N := 9) hx hb hts (fun w h => List.mem_cons_of_mem _ (iw_Be w h)) ty_Be tyok_Be nm_Be hown hK hP hD hS 0 rfl rfl 0 (by decide) (hts _ (List.mem_cons_of_mem _ k_107)) (fun _ h9 => h9) rfl hin rfl (by decide +kernel) (rfl) (rfl) (Nat.le_of_ble_eq_true rfl) d_Be_init_6 (fun H locs hP hD hS => ?_)
  have hP : va_P D vwCl [(hb_, .inr (1, [.ref bo, .null, .int (nI 0), .int (nI 0), .int (nI 0), .null, .null, .null, .null])), (bo, .inr (2, [.ref hz, .ref h0]))] H := hP
  have hD : va_D A [(hb_, .inr (1, [.ref bo, .null, .int (nI 0), .int (nI 0), .int (nI 0), .null, .null, .null, .null])), (bo, .inr (2, [.ref hz, .ref h0]))] := hD
  refine lv_aload_n hx hb d_Be_init_9 rfl (lv_at hl 0 rfl) ?_
  refine lv_aload_n hx hb d_Be_init_10 rfl (lv_at hl 1 rfl) ?_
  refine va_get (D := D) (ci := 2) (v := .ref hz) (C := R_Bo) (T := T_Bo) (N := 2) hx hb hts (fun w h => List.mem_cons_of_mem _ (iw_Bo w h)) hown hK hP 1 rfl rfl 0 (by decide) (hts _ (List.mem_cons_of_mem _ k_94)) (fun _ h9 => h9) rfl d_Be_init_11 ?_
  refine va_putF (D := D) (ci := 1) (v := .ref hz) (ty := .object "SawGrids$Sizes") (C := R_Be) (T := T_Be) (N := 9) hx hb hts (fun w h => List.mem_cons_of_mem _ (iw_Be w h)) ty_Be tyok_Be nm_Be hown hK hP hD hS 0 rfl rfl 1 (by decide) (hts _ (List.mem_cons_of_mem _ k_108)) (fun _ h9 => h9) rfl hin rfl (by decide +kernel) (rfl) (rfl) (Nat.le_of_ble_eq_true rfl) d_Be_init_14 (fun H locs hP hD hS => ?_)
  have hP : va_P D vwCl [(hb_, .inr (1, [.ref bo, .ref hz, .int (nI 0), .int (nI 0), .int (nI 0), .null, .null, .null, .null])), (bo, .inr (2, [.ref hz, .ref h0]))] H := hP
  have hD : va_D A [(hb_, .inr (1, [.ref bo, .ref hz, .int (nI 0), .int (nI 0), .int (nI 0), .null, .null, .null, .null])), (bo, .inr (2, [.ref hz, .ref h0]))] := hD
  refine lv_aload_n hx hb d_Be_init_17 rfl (lv_at hl 0 rfl) ?_
  refine lv_iload_n hx hb d_Be_init_18 rfl (lv_at hl 2 rfl) ?_
  refine va_putF (D := D) (ci := 1) (v := .int (nI side)) (ty := .int) (C := R_Be) (T := T_Be) (N := 9) hx hb hts (fun w h => List.mem_cons_of_mem _ (iw_Be w h)) ty_Be tyok_Be nm_Be hown hK hP hD hS 0 rfl rfl 2 (by decide) (hts _ (List.mem_cons_of_mem _ k_109)) (fun _ h9 => h9) rfl hin rfl (by decide +kernel) (rfl) (rfl) (Nat.le_of_ble_eq_true rfl) d_Be_init_19 (fun H locs hP hD hS => ?_)
  have hP : va_P D vwCl [(hb_, .inr (1, [.ref bo, .ref hz, .int (nI side), .int (nI 0), .int (nI 0), .null, .null, .null, .null])), (bo, .inr (2, [.ref hz, .ref h0]))] H := hP
  have hD : va_D A [(hb_, .inr (1, [.ref bo, .ref hz, .int (nI side), .int (nI 0), .int (nI 0), .null, .null, .null, .null])), (bo, .inr (2, [.ref hz, .ref h0]))] := hD
  refine lv_aload_n hx hb d_Be_init_22 rfl (lv_at hl 0 rfl) ?_
  refine lv_iload_n hx hb d_Be_init_23 rfl (lv_at hl 3 rfl) ?_
  refine va_putF (D := D) (ci := 1) (v := .int (nI kf)) (ty := .int) (C := R_Be) (T := T_Be) (N := 9) hx hb hts (fun w h => List.mem_cons_of_mem _ (iw_Be w h)) ty_Be tyok_Be nm_Be hown hK hP hD hS 0 rfl rfl 3 (by decide) (hts _ (List.mem_cons_of_mem _ k_110)) (fun _ h9 => h9) rfl hin rfl (by decide +kernel) (rfl) (rfl) (Nat.le_of_ble_eq_true rfl) d_Be_init_24 (fun H locs hP hD hS => ?_)
  have hP : va_P D vwCl [(hb_, .inr (1, [.ref bo, .ref hz, .int (nI side), .int (nI kf), .int (nI 0), .null, .null, .null, .null])), (bo, .inr (2, [.ref hz, .ref h0]))] H := hP
  have hD : va_D A [(hb_, .inr (1, [.ref bo, .ref hz, .int (nI side), .int (nI kf), .int (nI 0), .null, .null, .null, .null])), (bo, .inr (2, [.ref hz, .ref h0]))] := hD
  refine lv_aload_n hx hb d_Be_init_27 rfl (lv_at hl 0 rfl) ?_
  refine lv_iload_n hx hb d_Be_init_28 rfl (lv_at hl 2 rfl) ?_
  refine lv_iconst (v := nI 1) hx hb d_Be_init_29 (by decide +kernel) ?_
  refine lv_iadd hx hb d_Be_init_30 ?_
  refine ka_i (y := nI (side + 1)) (nI_add _ _) ?_
  refine kn_newa (atype := .long) (cB := cJ) (N := (side + 1)) (a0 := ((side + 1), .inr (.inl (fun j => lI ((fun _ => 0) j))))) hx hb (hts _ (List.mem_cons_of_mem _ k_135)) rfl (Or.inr (Or.inl rfl)) 1 rfl hK hP hD hS hA (a0_long _) (nI_t (by omega)) (by omega) (Nat.le_of_ble_eq_true rfl) (Nat.le_trans (show 0 + (side + 1) ≤ 21 by omega) (Nat.le_of_ble_eq_true rfl)) d_Be_init_31 (fun q31 H hP hD hS => ?_)
  have hP : va_P D vwCl [(hb_, .inr (1, [.ref bo, .ref hz, .int (nI side), .int (nI kf), .int (nI 0), .null, .null, .null, .null])), (bo, .inr (2, [.ref hz, .ref h0])), (q31, .inl (cJ, (side + 1), .inr (.inl (fun j => lI ((fun _ => 0) j)))))] H := hP
  have hD : va_D A [(hb_, .inr (1, [.ref bo, .ref hz, .int (nI side), .int (nI kf), .int (nI 0), .null, .null, .null, .null])), (bo, .inr (2, [.ref hz, .ref h0])), (q31, .inl (cJ, (side + 1), .inr (.inl (fun j => lI ((fun _ => 0) j)))))] := hD
  refine W.widen (k := 1) (n := 21) (by omega) (by omega) ?_
  refine va_putF (D := D) (ci := 1) (v := .ref q31) (ty := .array .long) (C := R_Be) (T := T_Be) (N := 9) hx hb hts (fun w h => List.mem_cons_of_mem _ (iw_Be w h)) ty_Be tyok_Be nm_Be hown hK hP hD hS 0 rfl rfl 5 (by decide) (hts _ (List.mem_cons_of_mem _ k_112)) (fun _ h9 => h9) rfl hin rfl (by decide +kernel) (rfl) (rfl) (Nat.le_of_ble_eq_true rfl) d_Be_init_33 (fun H locs hP hD hS => ?_)
  have hP : va_P D vwCl [(hb_, .inr (1, [.ref bo, .ref hz, .int (nI side), .int (nI kf), .int (nI 0), .ref q31, .null, .null, .null])), (bo, .inr (2, [.ref hz, .ref h0])), (q31, .inl (cJ, (side + 1), .inr (.inl (fun j => lI ((fun _ => 0) j)))))] H := hP
  have hD : va_D A [(hb_, .inr (1, [.ref bo, .ref hz, .int (nI side), .int (nI kf), .int (nI 0), .ref q31, .null, .null, .null])), (bo, .inr (2, [.ref hz, .ref h0])), (q31, .inl (cJ, (side + 1), .inr (.inl (fun j => lI ((fun _ => 0) j)))))] := hD
  refine lv_aload_n hx hb d_Be_init_36 rfl (lv_at hl 0 rfl) ?_
  refine lv_iload_n hx hb d_Be_init_37 rfl (lv_at hl 2 rfl) ?_
  refine kn_newa (atype := .int) (cB := cI) (N := side) (a0 := (side, .inl (fun j => nI ((fun _ => 0) j)))) hx hb (hts _ (List.mem_cons_of_mem _ k_58)) rfl (Or.inl rfl) 0 rfl hK hP hD hS hA (a0_nat _) (nI_t (by omega)) (by omega) (Nat.le_of_ble_eq_true rfl) (Nat.le_trans (show 21 + side ≤ 41 by omega) (Nat.le_of_ble_eq_true rfl)) d_Be_init_38 (fun q38 H hP hD hS => ?_)
  have hP : va_P D vwCl [(hb_, .inr (1, [.ref bo, .ref hz, .int (nI side), .int (nI kf), .int (nI 0), .ref q31, .null, .null, .null])), (bo, .inr (2, [.ref hz, .ref h0])), (q31, .inl (cJ, (side + 1), .inr (.inl (fun j => lI ((fun _ => 0) j))))), (q38, .inl (cI, side, .inl (fun j => nI ((fun _ => 0) j))))] H := hP
  have hD : va_D A [(hb_, .inr (1, [.ref bo, .ref hz, .int (nI side), .int (nI kf), .int (nI 0), .ref q31, .null, .null, .null])), (bo, .inr (2, [.ref hz, .ref h0])), (q31, .inl (cJ, (side + 1), .inr (.inl (fun j => lI ((fun _ => 0) j))))), (q38, .inl (cI, side, .inl (fun j => nI ((fun _ => 0) j))))] := hD
  refine W.widen (k := 2) (n := 41) (by omega) (by omega) ?_
  refine va_putF (D := D) (ci := 1) (v := .ref q38) (ty := .array .int) (C := R_Be) (T := T_Be) (N := 9) hx hb hts (fun w h => List.mem_cons_of_mem _ (iw_Be w h)) ty_Be tyok_Be nm_Be hown hK hP hD hS 0 rfl rfl 6 (by decide) (hts _ (List.mem_cons_of_mem _ k_113)) (fun _ h9 => h9) rfl hin rfl (by decide +kernel) (rfl) (rfl) (Nat.le_of_ble_eq_true rfl) d_Be_init_40 (fun H locs hP hD hS => ?_)
  have hP : va_P D vwCl [(hb_, .inr (1, [.ref bo, .ref hz, .int (nI side), .int (nI kf), .int (nI 0), .ref q31, .ref q38, .null, .null])), (bo, .inr (2, [.ref hz, .ref h0])), (q31, .inl (cJ, (side + 1), .inr (.inl (fun j => lI ((fun _ => 0) j))))), (q38, .inl (cI, side, .inl (fun j => nI ((fun _ => 0) j))))] H := hP
  have hD : va_D A [(hb_, .inr (1, [.ref bo, .ref hz, .int (nI side), .int (nI kf), .int (nI 0), .ref q31, .ref q38, .null, .null])), (bo, .inr (2, [.ref hz, .ref h0])), (q31, .inl (cJ, (side + 1), .inr (.inl (fun j => lI ((fun _ => 0) j))))), (q38, .inl (cI, side, .inl (fun j => nI ((fun _ => 0) j))))] := hD
  refine lv_aload_n hx hb d_Be_init_43 rfl (lv_at hl 0 rfl) ?_
  refine lv_iload_n hx hb d_Be_init_44 rfl (lv_at hl 2 rfl) ?_
  refine lv_iconst (v := nI 1) hx hb d_Be_init_45 (by decide +kernel) ?_
  refine lv_iadd hx hb d_Be_init_46 ?_
  refine ka_i (y := nI (side + 1)) (nI_add _ _) ?_
  refine kn_newa (atype := .long) (cB := cJ) (N := (side + 1)) (a0 := ((side + 1), .inr (.inl (fun j => lI ((fun _ => 0) j))))) hx hb (hts _ (List.mem_cons_of_mem _ k_135)) rfl (Or.inr (Or.inl rfl)) 1 rfl hK hP hD hS hA (a0_long _) (nI_t (by omega)) (by omega) (Nat.le_of_ble_eq_true rfl) (Nat.le_trans (show 41 + (side + 1) ≤ 62 by omega) (Nat.le_of_ble_eq_true rfl)) d_Be_init_47 (fun q47 H hP hD hS => ?_)
  have hP : va_P D vwCl [(hb_, .inr (1, [.ref bo, .ref hz, .int (nI side), .int (nI kf), .int (nI 0), .ref q31, .ref q38, .null, .null])), (bo, .inr (2, [.ref hz, .ref h0])), (q31, .inl (cJ, (side + 1), .inr (.inl (fun j => lI ((fun _ => 0) j))))), (q38, .inl (cI, side, .inl (fun j => nI ((fun _ => 0) j)))), (q47, .inl (cJ, (side + 1), .inr (.inl (fun j => lI ((fun _ => 0) j)))))] H := hP
  have hD : va_D A [(hb_, .inr (1, [.ref bo, .ref hz, .int (nI side), .int (nI kf), .int (nI 0), .ref q31, .ref q38, .null, .null])), (bo, .inr (2, [.ref hz, .ref h0])), (q31, .inl (cJ, (side + 1), .inr (.inl (fun j => lI ((fun _ => 0) j))))), (q38, .inl (cI, side, .inl (fun j => nI ((fun _ => 0) j)))), (q47, .inl (cJ, (side + 1), .inr (.inl (fun j => lI ((fun _ => 0) j)))))] := hD
  refine W.widen (k := 3) (n := 62) (by omega) (by omega) ?_
  refine va_putF (D := D) (ci := 1) (v := .ref q47) (ty := .array .long) (C := R_Be) (T := T_Be) (N := 9) hx hb hts (fun w h => List.mem_cons_of_mem _ (iw_Be w h)) ty_Be tyok_Be nm_Be hown hK hP hD hS 0 rfl rfl 7 (by decide) (hts _ (List.mem_cons_of_mem _ k_114)) (fun _ h9 => h9) rfl hin rfl (by decide +kernel) (rfl) (rfl) (Nat.le_of_ble_eq_true rfl) d_Be_init_49 (fun H locs hP hD hS => ?_)
  have hP : va_P D vwCl [(hb_, .inr (1, [.ref bo, .ref hz, .int (nI side), .int (nI kf), .int (nI 0), .ref q31, .ref q38, .ref q47, .null])), (bo, .inr (2, [.ref hz, .ref h0])), (q31, .inl (cJ, (side + 1), .inr (.inl (fun j => lI ((fun _ => 0) j))))), (q38, .inl (cI, side, .inl (fun j => nI ((fun _ => 0) j)))), (q47, .inl (cJ, (side + 1), .inr (.inl (fun j => lI ((fun _ => 0) j)))))] H := hP
  have hD : va_D A [(hb_, .inr (1, [.ref bo, .ref hz, .int (nI side), .int (nI kf), .int (nI 0), .ref q31, .ref q38, .ref q47, .null])), (bo, .inr (2, [.ref hz, .ref h0])), (q31, .inl (cJ, (side + 1), .inr (.inl (fun j => lI ((fun _ => 0) j))))), (q38, .inl (cI, side, .inl (fun j => nI ((fun _ => 0) j)))), (q47, .inl (cJ, (side + 1), .inr (.inl (fun j => lI ((fun _ => 0) j)))))] := hD
  refine lv_aload_n hx hb d_Be_init_52 rfl (lv_at hl 0 rfl) ?_
  refine lv_iload_n hx hb d_Be_init_53 rfl (lv_at hl 2 rfl) ?_
  refine kn_newa (atype := .int) (cB := cI) (N := side) (a0 := (side, .inl (fun j => iI ((fun _ => 0) j)))) hx hb (hts _ (List.mem_cons_of_mem _ k_58)) rfl (Or.inl rfl) 0 rfl hK hP hD hS hA (a0_int _) (nI_t (by omega)) (by omega) (Nat.le_of_ble_eq_true rfl) (Nat.le_trans (show 62 + side ≤ 82 by omega) (Nat.le_of_ble_eq_true rfl)) d_Be_init_54 (fun q54 H hP hD hS => ?_)
  have hP : va_P D vwCl [(hb_, .inr (1, [.ref bo, .ref hz, .int (nI side), .int (nI kf), .int (nI 0), .ref q31, .ref q38, .ref q47, .null])), (bo, .inr (2, [.ref hz, .ref h0])), (q31, .inl (cJ, (side + 1), .inr (.inl (fun j => lI ((fun _ => 0) j))))), (q38, .inl (cI, side, .inl (fun j => nI ((fun _ => 0) j)))), (q47, .inl (cJ, (side + 1), .inr (.inl (fun j => lI ((fun _ => 0) j))))), (q54, .inl (cI, side, .inl (fun j => iI ((fun _ => 0) j))))] H := hP
  have hD : va_D A [(hb_, .inr (1, [.ref bo, .ref hz, .int (nI side), .int (nI kf), .int (nI 0), .ref q31, .ref q38, .ref q47, .null])), (bo, .inr (2, [.ref hz, .ref h0])), (q31, .inl (cJ, (side + 1), .inr (.inl (fun j => lI ((fun _ => 0) j))))), (q38, .inl (cI, side, .inl (fun j => nI ((fun _ => 0) j)))), (q47, .inl (cJ, (side + 1), .inr (.inl (fun j => lI ((fun _ => 0) j))))), (q54, .inl (cI, side, .inl (fun j => iI ((fun _ => 0) j))))] := hD
  refine W.widen (k := 4) (n := 82) (by omega) (by omega) ?_
  refine va_putF (D := D) (ci := 1) (v := .ref q54) (ty := .array .int) (C := R_Be) (T := T_Be) (N := 9) hx hb hts (fun w h => List.mem_cons_of_mem _ (iw_Be w h)) ty_Be tyok_Be nm_Be hown hK hP hD hS 0 rfl rfl 8 (by decide) (hts _ (List.mem_cons_of_mem _ k_115)) (fun _ h9 => h9) rfl hin rfl (by decide +kernel) (rfl) (rfl) (Nat.le_of_ble_eq_true rfl) d_Be_init_56 (fun H locs hP hD hS => ?_)
  have hP : va_P D vwCl [(hb_, .inr (1, [.ref bo, .ref hz, .int (nI side), .int (nI kf), .int (nI 0), .ref q31, .ref q38, .ref q47, .ref q54])), (bo, .inr (2, [.ref hz, .ref h0])), (q31, .inl (cJ, (side + 1), .inr (.inl (fun j => lI ((fun _ => 0) j))))), (q38, .inl (cI, side, .inl (fun j => nI ((fun _ => 0) j)))), (q47, .inl (cJ, (side + 1), .inr (.inl (fun j => lI ((fun _ => 0) j))))), (q54, .inl (cI, side, .inl (fun j => iI ((fun _ => 0) j))))] H := hP
  have hD : va_D A [(hb_, .inr (1, [.ref bo, .ref hz, .int (nI side), .int (nI kf), .int (nI 0), .ref q31, .ref q38, .ref q47, .ref q54])), (bo, .inr (2, [.ref hz, .ref h0])), (q31, .inl (cJ, (side + 1), .inr (.inl (fun j => lI ((fun _ => 0) j))))), (q38, .inl (cI, side, .inl (fun j => nI ((fun _ => 0) j)))), (q47, .inl (cJ, (side + 1), .inr (.inl (fun j => lI ((fun _ => 0) j))))), (q54, .inl (cI, side, .inl (fun j => iI ((fun _ => 0) j))))] := hD
  have hP := hP.sub (ws' := [(hb_, .inr (1, [.ref bo, .ref hz, .int (nI side), .int (nI kf), .int (nI 0), .ref q31, .ref q38, .ref q47, .ref q54])), (bo, .inr (2, [.ref hz, .ref h0])), (q31, .inl (cJ, (side + 1), .inr (.inl (fun j => lI ((fun _ => 0) j))))), (q38, .inl (cI, side, .inl (fun j => nI ((fun _ => 0) j)))), (q47, .inl (cJ, (side + 1), .inr (.inl (fun j => lI ((fun _ => 0) j))))), (q54, .inl (cI, side, .inl (fun j => iI ((fun _ => 0) j))))]) [0, 1, 2, 3, 4, 5] rfl
  have hD := hD.sub (ws' := [(hb_, .inr (1, [.ref bo, .ref hz, .int (nI side), .int (nI kf), .int (nI 0), .ref q31, .ref q38, .ref q47, .ref q54])), (bo, .inr (2, [.ref hz, .ref h0])), (q31, .inl (cJ, (side + 1), .inr (.inl (fun j => lI ((fun _ => 0) j))))), (q38, .inl (cI, side, .inl (fun j => nI ((fun _ => 0) j)))), (q47, .inl (cJ, (side + 1), .inr (.inl (fun j => lI ((fun _ => 0) j))))), (q54, .inl (cI, side, .inl (fun j => iI ((fun _ => 0) j))))]) [0, 1, 2, 3, 4, 5] (by decide) rfl
  exact kretv (u := (q31, q38, q47, q54)) hx hb hr hP hD hS hlocks rfl (trivial) d_Be_init_59
set_option maxHeartbeats 4000000 in
set_option maxRecDepth 100000 in
theorem c_Pattern (l : Launch) (D : va_G) (cI cJ cZ : ClassId) (sz : Nat) (hp : Nat) (pn : Nat) (hpn : pn ≤ 400) : Met l y_Pa_init w_Pa_init ({ frames := 1, cells := 3, slots := 1200, locals := 12 }) (va_Pc [.ref hp, .int (nI pn)] (kB D vwCl (tyL cI cJ cZ) sz [(hp, .inr (4, [.null, .null, .null, .int (nI 0), .int (nI 0), .int (nI 0), .int (iI 0), .int (nI 0)]))])) (va_Qv (fun (u : Nat × Nat × Nat) => True) (fun (u : Nat × Nat × Nat) t => kE D vwCl (va_A [(hp, .inr (4, [.null, .null, .null, .int (nI 0), .int (nI 0), .int (nI 0), .int (iI 0), .int (nI 0)]))] sz) [(hp, .inr (4, [.ref u.1, .ref u.2.1, .ref u.2.2, .int (nI 0), .int (nI 0), .int (nI 0), .int (iI 0), .int (nI 0)])), (u.1, .inl (cI, pn, .inl (fun j => nI ((fun _ => 0) j)))), (u.2.1, .inl (cI, pn, .inl (fun j => nI ((fun _ => 0) j)))), (u.2.2, .inl (cI, pn, .inl (fun j => nI ((fun _ => 0) j))))] t) (va_A [(hp, .inr (4, [.null, .null, .null, .int (nI 0), .int (nI 0), .int (nI 0), .int (iI 0), .int (nI 0)]))] sz)) 3 1200 (va_A [(hp, .inr (4, [.null, .null, .null, .int (nI 0), .int (nI 0), .int (nI 0), .int (iI 0), .int (nI 0)]))] sz) := by
  refine Met.ofW (cc := b_Pa_init) (maxL := 2) (ret := none) (by decide) rfl ?_
  intro p e s m args below meth c s₁ B hml hv
  obtain ⟨rfl, hsz, hP, hK, hD0, hZ⟩ := hv
  have hx := B.exec
  have hb := B.bytes
  have hr := B.returns
  have hts := atoms_spec (ws := w_Pa_init) B.pre
  have hown : s.vm.findClass R_Pa = some m.cls := findClass_of_methodNamed B.named
  have hlocks := B.notSynchronized
  have hin : meth.name = "<init>" := (name_of_methodNamed B.named B.method).1
  subst hsz
  have hD := hD0.self (sz := s.heap.size)
  generalize hAe : va_A [(hp, .inr (4, [.null, .null, .null, .int (nI 0), .int (nI 0), .int (nI 0), .int (iI 0), .int (nI 0)]))] s.heap.size = A at hD ⊢
  have hA : ∀ q : Nat, s.heap.size ≤ q → A q := fun q h => by rw [← hAe]; exact Or.inr h
  have hS : va_S A s.heap s.heap [] := va_S.rf
  have hP : va_P D vwCl [(hp, .inr (4, [.null, .null, .null, .int (nI 0), .int (nI 0), .int (nI 0), .int (iI 0), .int (nI 0)]))] s.heap := hP
  have hl := lv_entry ([.ref hp, .int (nI pn)]) (n := 2) (Nat.le_of_ble_eq_true rfl)
  rw [lg_entry_eq]
  generalize (lg_sl ([.ref hp, .int (nI pn)]) ++ List.replicate (2 - (lg_sl ([.ref hp, .int (nI pn)])).length) Slot.unset).toArray = ls at hl ⊢
  have hl : lv_has ls 2 [(0, .ref hp), (1, .int (nI pn))] := hl
  refine lv_aload_n hx hb d_Pa_init_0 rfl (lv_at hl 0 rfl) ?_
  refine W.objInit hx hb hown (hts _ (List.mem_cons_of_mem _ k_141)) (hts _ (List.mem_cons_of_mem _ k_21)) (hts _ (List.mem_cons_of_mem _ k_22)) rfl (by rw [hml]; exact hl.1) rfl d_Pa_init_1 (Nat.le_of_ble_eq_true rfl) (Nat.le_of_ble_eq_true rfl) ?_
  refine W.eq (g2 := F0 m 4 ls []) rfl ?_
  refine lv_aload_n hx hb d_Pa_init_4 rfl (lv_at hl 0 rfl) ?_
  refine lv_iload_n hx hb d_Pa_init_5 rfl (lv_at hl 1 rfl) ?_
  refine kn_newa (atype := .int) (cB := cI) (N := pn) (a0 := (pn, .inl (fun j => nI ((fun _ => 0) j)))) hx hb (hts _ (List.mem_cons_of_mem _ k_58)) rfl (Or.inl rfl) 0 rfl hK hP hD hS hA (a0_nat _) (nI_t (by omega)) (by omega) (Nat.le_of_ble_eq_true rfl) (Nat.le_trans (show 0 + pn ≤ 400 by omega) (Nat.le_of_ble_eq_true rfl)) d_Pa_init_6 (fun q6 H hP hD hS => ?_)
  have hP : va_P D vwCl [(hp, .inr (4, [.null, .null, .null, .int (nI 0), .int (nI 0), .int (nI 0), .int (iI 0), .int (nI 0)])), (q6, .inl (cI, pn, .inl (fun j => nI ((fun _ => 0) j))))] H := hP
  have hD : va_D A [(hp, .inr (4, [.null, .null, .null, .int (nI 0), .int (nI 0), .int (nI 0), .int (iI 0), .int (nI 0)])), (q6, .inl (cI, pn, .inl (fun j => nI ((fun _ => 0) j))))] := hD
  refine W.widen (k := 1) (n := 400) (by omega) (by omega) ?_
  refine va_putF (D := D) (ci := 4) (v := .ref q6) (ty := .array .int) (C := R_Pa) (T := T_Pa) (N := 8) hx hb hts (fun w h => List.mem_cons_of_mem _ (iw_Pa w h)) ty_Pa tyok_Pa nm_Pa hown hK hP hD hS 0 rfl rfl 0 (by decide) (hts _ (List.mem_cons_of_mem _ k_142)) (fun _ h9 => h9) rfl hin rfl (by decide +kernel) (rfl) (rfl) (Nat.le_of_ble_eq_true rfl) d_Pa_init_8 (fun H locs hP hD hS => ?_)
  have hP : va_P D vwCl [(hp, .inr (4, [.ref q6, .null, .null, .int (nI 0), .int (nI 0), .int (nI 0), .int (iI 0), .int (nI 0)])), (q6, .inl (cI, pn, .inl (fun j => nI ((fun _ => 0) j))))] H := hP
  have hD : va_D A [(hp, .inr (4, [.ref q6, .null, .null, .int (nI 0), .int (nI 0), .int (nI 0), .int (iI 0), .int (nI 0)])), (q6, .inl (cI, pn, .inl (fun j => nI ((fun _ => 0) j))))] := hD
  refine lv_aload_n hx hb d_Pa_init_11 rfl (lv_at hl 0 rfl) ?_
  refine lv_iload_n hx hb d_Pa_init_12 rfl (lv_at hl 1 rfl) ?_
  refine kn_newa (atype := .int) (cB := cI) (N := pn) (a0 := (pn, .inl (fun j => nI ((fun _ => 0) j)))) hx hb (hts _ (List.mem_cons_of_mem _ k_58)) rfl (Or.inl rfl) 0 rfl hK hP hD hS hA (a0_nat _) (nI_t (by omega)) (by omega) (Nat.le_of_ble_eq_true rfl) (Nat.le_trans (show 400 + pn ≤ 800 by omega) (Nat.le_of_ble_eq_true rfl)) d_Pa_init_13 (fun q13 H hP hD hS => ?_)
  have hP : va_P D vwCl [(hp, .inr (4, [.ref q6, .null, .null, .int (nI 0), .int (nI 0), .int (nI 0), .int (iI 0), .int (nI 0)])), (q6, .inl (cI, pn, .inl (fun j => nI ((fun _ => 0) j)))), (q13, .inl (cI, pn, .inl (fun j => nI ((fun _ => 0) j))))] H := hP
  have hD : va_D A [(hp, .inr (4, [.ref q6, .null, .null, .int (nI 0), .int (nI 0), .int (nI 0), .int (iI 0), .int (nI 0)])), (q6, .inl (cI, pn, .inl (fun j => nI ((fun _ => 0) j)))), (q13, .inl (cI, pn, .inl (fun j => nI ((fun _ => 0) j))))] := hD
  refine W.widen (k := 2) (n := 800) (by omega) (by omega) ?_
  refine va_putF (D := D) (ci := 4) (v := .ref q13) (ty := .array .int) (C := R_Pa) (T := T_Pa) (N := 8) hx hb hts (fun w h => List.mem_cons_of_mem _ (iw_Pa w h)) ty_Pa tyok_Pa nm_Pa hown hK hP hD hS 0 rfl rfl 1 (by decide) (hts _ (List.mem_cons_of_mem _ k_144)) (fun _ h9 => h9) rfl hin rfl (by decide +kernel) (rfl) (rfl) (Nat.le_of_ble_eq_true rfl) d_Pa_init_15 (fun H locs hP hD hS => ?_)
  have hP : va_P D vwCl [(hp, .inr (4, [.ref q6, .ref q13, .null, .int (nI 0), .int (nI 0), .int (nI 0), .int (iI 0), .int (nI 0)])), (q6, .inl (cI, pn, .inl (fun j => nI ((fun _ => 0) j)))), (q13, .inl (cI, pn, .inl (fun j => nI ((fun _ => 0) j))))] H := hP
  have hD : va_D A [(hp, .inr (4, [.ref q6, .ref q13, .null, .int (nI 0), .int (nI 0), .int (nI 0), .int (iI 0), .int (nI 0)])), (q6, .inl (cI, pn, .inl (fun j => nI ((fun _ => 0) j)))), (q13, .inl (cI, pn, .inl (fun j => nI ((fun _ => 0) j))))] := hD
  refine lv_aload_n hx hb d_Pa_init_18 rfl (lv_at hl 0 rfl) ?_
  refine lv_iload_n hx hb d_Pa_init_19 rfl (lv_at hl 1 rfl) ?_
  refine kn_newa (atype := .int) (cB := cI) (N := pn) (a0 := (pn, .inl (fun j => nI ((fun _ => 0) j)))) hx hb (hts _ (List.mem_cons_of_mem _ k_58)) rfl (Or.inl rfl) 0 rfl hK hP hD hS hA (a0_nat _) (nI_t (by omega)) (by omega) (Nat.le_of_ble_eq_true rfl) (Nat.le_trans (show 800 + pn ≤ 1200 by omega) (Nat.le_of_ble_eq_true rfl)) d_Pa_init_20 (fun q20 H hP hD hS => ?_)
  have hP : va_P D vwCl [(hp, .inr (4, [.ref q6, .ref q13, .null, .int (nI 0), .int (nI 0), .int (nI 0), .int (iI 0), .int (nI 0)])), (q6, .inl (cI, pn, .inl (fun j => nI ((fun _ => 0) j)))), (q13, .inl (cI, pn, .inl (fun j => nI ((fun _ => 0) j)))), (q20, .inl (cI, pn, .inl (fun j => nI ((fun _ => 0) j))))] H := hP
  have hD : va_D A [(hp, .inr (4, [.ref q6, .ref q13, .null, .int (nI 0), .int (nI 0), .int (nI 0), .int (iI 0), .int (nI 0)])), (q6, .inl (cI, pn, .inl (fun j => nI ((fun _ => 0) j)))), (q13, .inl (cI, pn, .inl (fun j => nI ((fun _ => 0) j)))), (q20, .inl (cI, pn, .inl (fun j => nI ((fun _ => 0) j))))] := hD
  refine W.widen (k := 3) (n := 1200) (by omega) (by omega) ?_
  refine va_putF (D := D) (ci := 4) (v := .ref q20) (ty := .array .int) (C := R_Pa) (T := T_Pa) (N := 8) hx hb hts (fun w h => List.mem_cons_of_mem _ (iw_Pa w h)) ty_Pa tyok_Pa nm_Pa hown hK hP hD hS 0 rfl rfl 2 (by decide) (hts _ (List.mem_cons_of_mem _ k_146)) (fun _ h9 => h9) rfl hin rfl (by decide +kernel) (rfl) (rfl) (Nat.le_of_ble_eq_true rfl) d_Pa_init_22 (fun H locs hP hD hS => ?_)
  have hP : va_P D vwCl [(hp, .inr (4, [.ref q6, .ref q13, .ref q20, .int (nI 0), .int (nI 0), .int (nI 0), .int (iI 0), .int (nI 0)])), (q6, .inl (cI, pn, .inl (fun j => nI ((fun _ => 0) j)))), (q13, .inl (cI, pn, .inl (fun j => nI ((fun _ => 0) j)))), (q20, .inl (cI, pn, .inl (fun j => nI ((fun _ => 0) j))))] H := hP
  have hD : va_D A [(hp, .inr (4, [.ref q6, .ref q13, .ref q20, .int (nI 0), .int (nI 0), .int (nI 0), .int (iI 0), .int (nI 0)])), (q6, .inl (cI, pn, .inl (fun j => nI ((fun _ => 0) j)))), (q13, .inl (cI, pn, .inl (fun j => nI ((fun _ => 0) j)))), (q20, .inl (cI, pn, .inl (fun j => nI ((fun _ => 0) j))))] := hD
  have hP := hP.sub (ws' := [(hp, .inr (4, [.ref q6, .ref q13, .ref q20, .int (nI 0), .int (nI 0), .int (nI 0), .int (iI 0), .int (nI 0)])), (q6, .inl (cI, pn, .inl (fun j => nI ((fun _ => 0) j)))), (q13, .inl (cI, pn, .inl (fun j => nI ((fun _ => 0) j)))), (q20, .inl (cI, pn, .inl (fun j => nI ((fun _ => 0) j))))]) [0, 1, 2, 3] rfl
  have hD := hD.sub (ws' := [(hp, .inr (4, [.ref q6, .ref q13, .ref q20, .int (nI 0), .int (nI 0), .int (nI 0), .int (iI 0), .int (nI 0)])), (q6, .inl (cI, pn, .inl (fun j => nI ((fun _ => 0) j)))), (q13, .inl (cI, pn, .inl (fun j => nI ((fun _ => 0) j)))), (q20, .inl (cI, pn, .inl (fun j => nI ((fun _ => 0) j))))]) [0, 1, 2, 3] (by decide) rfl
  exact kretv (u := (q6, q13, q20)) hx hb hr hP hD hS hlocks rfl (trivial) d_Pa_init_25
