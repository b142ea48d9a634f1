theorem isCast_ot : ∀ w ∈ thW, goodWord w = true ∨ w ∈ thH ∨ (∃ a b, w = .castable a b) ∨ ∃ x, w = .declares x := by
  have h : ∀ w ∈ thW, goodWord w = true ∨ w ∈ thH ∨ (match w with | .castable .. => true | .declares .. => true | _ => false) = true := by decide +kernel
  intro w hw
  rcases h w hw with h1 | h1 | h1
  · exact Or.inl h1
  · exact Or.inr (Or.inl h1)
  · cases w <;> first | (cases h1; done) | exact Or.inr (Or.inr (Or.inl ⟨_, _, rfl⟩)) | exact Or.inr (Or.inr (Or.inr ⟨_, rfl⟩))
theorem lays_warm {C n d : String} {s U : State} (hal : s.vm.Alike U.vm) (hh : ∀ q : Nat, q < s.heap.size → U.heap[q]? = s.heap[q]?) (h : (Cond.laysStatic C n d).before #[] s = true) : (Cond.laysStatic C n d).before #[] U = true := by
  obtain ⟨c, k, i, f, a, cell, hc, hi, hst, ha, hcell, hs, hcls, hlt, hty⟩ := Cond.laysStatic_spec h
  obtain ⟨k', hi', he⟩ := State.fieldFound?_setVm hal hi
  have hcU : U.vm.findClass C = some c := by rw [hal.findClass]; exact hc
  have hcell' : U.heap[a]? = some cell := by rw [hh a (Array.getElem?_eq_some_iff.mp hcell).1]; exact hcell
  have hst' : k'.statics = some a := by rw [he]; exact ha
  have hty' : k'.staticTypes[f.slot]? = some f.type := by rw [he]; exact hty
  have hi2 : U.fieldFound? C n d = some (c, k', i, f) := hi'
  simp [Cond.before, Cond.holds, Cond.value, hcU, hi2, hst', hcell', hs, hcls, hlt, hty', hst]
theorem isRef_warm {C n d : String} {s U : State} (hal : s.vm.Alike U.vm) (hh : ∀ q : Nat, q < s.heap.size → U.heap[q]? = s.heap[q]?) (hl : (Cond.laysStatic C n d).before #[] s = true) (h : (Cond.isRef (.static C n d)).before #[] s = true) : (Cond.isRef (.static C n d)).before #[] U = true := by
  obtain ⟨c, k, i, f, a, cell, hc, hi, hst, ha, hcell, hs, hcls, hlt, hty⟩ := Cond.laysStatic_spec hl
  obtain ⟨k', hi', he⟩ := State.fieldFound?_setVm hal hi
  have hcell' : U.heap[a]? = some cell := by rw [hh a (Array.getElem?_eq_some_iff.mp hcell).1]; exact hcell
  have hst' : k'.statics = some a := by rw [he]; exact ha
  have hi2 : U.fieldFound? C n d = some (c, k', i, f) := hi'
  cases hv : (Term.static C n d).eval #[] s none [] s with
  | none => simp [Cond.before, Cond.holds, Cond.value, hv] at h
  | some v =>
    obtain ⟨hst2, a', cell2, ha', hcell2, hs2, hslot⟩ := Term.static_spec hi hv
    cases ha.symm.trans ha'
    cases hcell.symm.trans hcell2
    have e : (Term.static C n d).eval #[] U none [] U = some v := by simp [Term.eval, State.fieldNamed?, hi2, hst2, hst', hcell', hs, hslot]
    simp only [Cond.before, Cond.holds, Cond.value, hv, e] at h ⊢
    exact h
theorem thH_warm {w : Cond} (h : w ∈ thH) {s U : State} (hW : s.WarmedH U.vm) (hh : ∀ q : Nat, q < s.heap.size → U.heap[q]? = s.heap[q]?) (ht : ∀ w ∈ thW, w.before #[] s = true) (hb : w.before #[] s = true) : w.before #[] U = true := by
  simp only [thH, List.mem_cons, List.not_mem_nil, or_false] at h
  rcases h with rfl | rfl | rfl | rfl
  · exact isRef_warm hW.alike hh (ht _ (by decide +kernel)) hb
  · exact isRef_warm hW.alike hh (ht _ (by decide +kernel)) hb
  · exact lays_warm hW.alike hh hb
  · exact lays_warm hW.alike hh hb
theorem kT_warm {s U : State} (hW : s.WarmedH U.vm) (hh : ∀ q : Nat, q < s.heap.size → U.heap[q]? = s.heap[q]?) (h : kT s) : kT U := ⟨fun w hw => by
  rcases isCast_ot w hw with h1 | h1 | ⟨a, b, rfl⟩ | ⟨x, rfl⟩
  · exact word_at hW (good_of_word h1) (h.1 w hw)
  · exact thH_warm h1 hW hh h.1 (h.1 w hw)
  · exact va_Nw.warmC hW (h.1 _ hw)
  · exact va_Nw.warmD hW (h.1 _ hw), fun t ht => by
  obtain ⟨a, ha⟩ := h.2 t ht
  exact ⟨a, vk_R.warm hW ha⟩⟩
theorem kTh_at {D : va_G} {cl : List vw_C} {tys : List (ClassId × FieldType)} {ws wc : va_W} {av : List Value} {s : State} (hP : va_P D cl ws s.heap) (hK : va_K D cl tys s) (hZ : kZ s) (hT : kT s) (isC : List Nat) (hf : isC.filterMap (fun i => ws[i]?) = wc) : ∀ U : State, U.heap = s.heap → s.WarmedH U.vm → va_Pc av (kTh D cl tys wc) av.toArray U :=
  fun U hU hW => ⟨rfl, ⟨by rw [hU]; exact hP.sub isC hf, va_K.moved hW.alike hK, kZ_warm hW hZ⟩, kT_warm hW (fun q _ => by rw [hU]) hT⟩
set_option maxHeartbeats 4000000 in
set_option maxRecDepth 100000 in
theorem x_knot1 (l : Launch) (hl9 : l.stackTraces = false) (D : va_G) (cI cJ cZ : ClassId) (hs : Nat) (kf : Nat) (h0 : Nat) (hz : Nat) (bo : Nat) (hb_ : Nat) (hp : Nat) (sw : Prop) (side : Nat) (a1 : Nat) (a2 : Nat) (a3 : Nat) (a4 : Nat) (sm : Prop) (x : Int32) (y : Int32) (v : Int32) (s1 : 1 ≤ side) (s2 : side ≤ 20) (bad : ¬ ((0 ≤ x.toInt ∧ x.toInt < (side : Int)) ∧ 0 ≤ y.toInt ∧ y.toInt < (side : Int))) : xt_Met l y_SG_knot w_SG_knot ({ frames := 6, cells := 1, slots := 6, locals := 82 }) (va_Pc [.ref hs, .int x, .int y, .int v] (kTh D vwCl (tyL cI cJ cZ) [(hs, .inr (0, [.int (nI kf), .ref h0, .ref hz, .ref bo, .ref hb_, .ref hp, .int (pI sw)])), (h0, .inr (3, [.int (nI side), .ref a1, .ref a2, .ref a3, .ref a4, .int (pI sm)]))])) (xE "java/lang/IndexOutOfBoundsException") 1 6 (fun _ => False) := by
  refine xt_ofW (cc := b_SG_knot) (maxL := 4) (ret := (some (.boolean))) (by decide) rfl ?_
  intro p e s m args below meth c s₁ B hml hne hv
  obtain ⟨rfl, ⟨hP, hK, hZ⟩, hT⟩ := hv
  have hx := B.exec
  have hb := B.bytes
  have hts := atoms_spec (ws := w_SG_knot) B.pre
  have hown : s.vm.findClass R_SG = some m.cls := findClass_of_methodNamed B.named
  have hlocks := B.notSynchronized
  have hP : va_P D vwCl [(hs, .inr (0, [.int (nI kf), .ref h0, .ref hz, .ref bo, .ref hb_, .ref hp, .int (pI sw)])), (h0, .inr (3, [.int (nI side), .ref a1, .ref a2, .ref a3, .ref a4, .int (pI sm)]))] s.heap := hP
  have hl := lv_entry ([.ref hs, .int x, .int y, .int v]) (n := 4) (Nat.le_of_ble_eq_true rfl)
  rw [lg_entry_eq]
  generalize (lg_sl ([.ref hs, .int x, .int y, .int v]) ++ List.replicate (4 - (lg_sl ([.ref hs, .int x, .int y, .int v])).length) Slot.unset).toArray = ls at hl ⊢
  have hl : lv_has ls 4 [(0, .ref hs), (1, .int x), (2, .int y), (3, .int v)] := hl
  refine lv_aload_n hx hb d_SG_knot_0 rfl (lv_at hl 0 rfl) ?_
  refine va_get (D := D) (ci := 0) (v := .ref h0) (C := R_SG) (T := T_SG) (N := 7) hx hb hts (fun w h => List.mem_cons_of_mem _ (iw_SG w h)) hown hK hP 0 rfl rfl 1 (by decide) (hts _ (List.mem_cons_of_mem _ k_179)) (fun _ h9 => h9) rfl d_SG_knot_1 ?_
  refine lv_iload_n hx hb d_SG_knot_4 rfl (lv_at hl 1 rfl) ?_
  refine lv_iload_n hx hb d_SG_knot_5 rfl (lv_at hl 2 rfl) ?_
  refine kcallR (r := .int (pI ((0 ≤ x.toInt ∧ x.toInt < (side : Int)) ∧ 0 ≤ y.toInt ∧ y.toInt < (side : Int)))) (va_runV (As := [.int x, .int y]) (rest := []) ⟨hx, hb, hml, hown, hts⟩ (c_isCell l D cI cJ cZ h0 side a1 a2 a3 a4 sm x y (by omega) (by omega)) ⟨callB_of 2 hts (gd kc_Lo_isCell) rfl rfl rfl (hts _ (List.mem_cons_of_mem _ k_3)) (hts _ (List.mem_cons_of_mem _ k_314)) (by decide +kernel) ⟨Nat.le_of_ble_eq_true rfl, Nat.le_of_ble_eq_true rfl⟩, hts _ (List.mem_cons_of_mem _ k_315), hts _ (List.mem_cons_of_mem _ k_316)⟩ ⟨kR_blind, va_recv hK hP (ci := 3) (q0 := 1) rfl rfl, kR_at hP hK hZ [1] rfl⟩ rfl rfl hl.1 rfl (lv_room (Nat.le_of_ble_eq_true rfl)) d_SG_knot_6 ⟨Nat.zero_le _, Nat.zero_le _⟩) ?_
  refine kb_neP (tgt := 22) hx hb d_SG_knot_9 (by decide) (fun c_9 => ?_) (fun c_9 => ?_)
  · exfalso; omega
  · obtain ⟨sa, hsa⟩ := hT.2 (100, "no such cell") (by decide +kernel)
    exact xt_throwS (own := R_SG) (cls := "java/lang/IndexOutOfBoundsException") (text := "no such cell") (names := thN) (ik := 71) (is := 100) (ic := 75) (sa := sa) hx hb hl9 hown th_fit.2.1 th_fit.1 (hts _ (List.mem_cons_of_mem _ k_319)) (hts _ (List.mem_cons_of_mem _ k_12)) hsa.1 hsa.2 (fun w hw => kT_args hT _ w (thW_1 w hw)) (hl.1.trans hml.symm) d_SG_knot_12 d_SG_knot_15 d_SG_knot_16 d_SG_knot_18 d_SG_knot_21 hne (Nat.le_of_ble_eq_true rfl) (Nat.le_of_ble_eq_true rfl) (Nat.le_of_ble_eq_true rfl) (Nat.le_of_ble_eq_true rfl) hlocks
set_option maxHeartbeats 4000000 in
set_option maxRecDepth 100000 in
theorem x_knot2 (l : Launch) (hl9 : l.stackTraces = false) (D : va_G) (cI cJ cZ : ClassId) (hs : Nat) (kf : Nat) (h0 : Nat) (hz : Nat) (bo : Nat) (hb_ : Nat) (hp : Nat) (sw : Prop) (side : Nat) (a1 : Nat) (a2 : Nat) (a3 : Nat) (a4 : Nat) (sm : Prop) (x : Int32) (y : Int32) (v : Int32) (s1 : 1 ≤ side) (s2 : side ≤ 20) (ok : (0 ≤ x.toInt ∧ x.toInt < (side : Int)) ∧ 0 ≤ y.toInt ∧ y.toInt < (side : Int)) (bad : ¬ (0 ≤ v.toInt ∧ v.toInt ≤ 10000)) : xt_Met l y_SG_knot w_SG_knot ({ frames := 6, cells := 1, slots := 6, locals := 82 }) (va_Pc [.ref hs, .int x, .int y, .int v] (kTh D vwCl (tyL cI cJ cZ) [(hs, .inr (0, [.int (nI kf), .ref h0, .ref hz, .ref bo, .ref hb_, .ref hp, .int (pI sw)])), (h0, .inr (3, [.int (nI side), .ref a1, .ref a2, .ref a3, .ref a4, .int (pI sm)]))])) (xE "java/lang/IllegalArgumentException") 1 6 (fun _ => False) := by
  refine xt_ofW (cc := b_SG_knot) (maxL := 4) (ret := (some (.boolean))) (by decide) rfl ?_
  intro p e s m args below meth c s₁ B hml hne hv
  obtain ⟨rfl, ⟨hP, hK, hZ⟩, hT⟩ := hv
  have hx := B.exec
  have hb := B.bytes
  have hts := atoms_spec (ws := w_SG_knot) B.pre
  have hown : s.vm.findClass R_SG = some m.cls := findClass_of_methodNamed B.named
  have hlocks := B.notSynchronized
  have hP : va_P D vwCl [(hs, .inr (0, [.int (nI kf), .ref h0, .ref hz, .ref bo, .ref hb_, .ref hp, .int (pI sw)])), (h0, .inr (3, [.int (nI side), .ref a1, .ref a2, .ref a3, .ref a4, .int (pI sm)]))] s.heap := hP
  have hl := lv_entry ([.ref hs, .int x, .int y, .int v]) (n := 4) (Nat.le_of_ble_eq_true rfl)
  rw [lg_entry_eq]
  generalize (lg_sl ([.ref hs, .int x, .int y, .int v]) ++ List.replicate (4 - (lg_sl ([.ref hs, .int x, .int y, .int v])).length) Slot.unset).toArray = ls at hl ⊢
  have hl : lv_has ls 4 [(0, .ref hs), (1, .int x), (2, .int y), (3, .int v)] := hl
  refine lv_aload_n hx hb d_SG_knot_0 rfl (lv_at hl 0 rfl) ?_
  refine va_get (D := D) (ci := 0) (v := .ref h0) (C := R_SG) (T := T_SG) (N := 7) hx hb hts (fun w h => List.mem_cons_of_mem _ (iw_SG w h)) hown hK hP 0 rfl rfl 1 (by decide) (hts _ (List.mem_cons_of_mem _ k_179)) (fun _ h9 => h9) rfl d_SG_knot_1 ?_
  refine lv_iload_n hx hb d_SG_knot_4 rfl (lv_at hl 1 rfl) ?_
  refine lv_iload_n hx hb d_SG_knot_5 rfl (lv_at hl 2 rfl) ?_
  refine kcallR (r := .int (pI ((0 ≤ x.toInt ∧ x.toInt < (side : Int)) ∧ 0 ≤ y.toInt ∧ y.toInt < (side : Int)))) (va_runV (As := [.int x, .int y]) (rest := []) ⟨hx, hb, hml, hown, hts⟩ (c_isCell l D cI cJ cZ h0 side a1 a2 a3 a4 sm x y (by omega) (by omega)) ⟨callB_of 2 hts (gd kc_Lo_isCell) rfl rfl rfl (hts _ (List.mem_cons_of_mem _ k_3)) (hts _ (List.mem_cons_of_mem _ k_314)) (by decide +kernel) ⟨Nat.le_of_ble_eq_true rfl, Nat.le_of_ble_eq_true rfl⟩, hts _ (List.mem_cons_of_mem _ k_315), hts _ (List.mem_cons_of_mem _ k_316)⟩ ⟨kR_blind, va_recv hK hP (ci := 3) (q0 := 1) rfl rfl, kR_at hP hK hZ [1] rfl⟩ rfl rfl hl.1 rfl (lv_room (Nat.le_of_ble_eq_true rfl)) d_SG_knot_6 ⟨Nat.zero_le _, Nat.zero_le _⟩) ?_
  refine kb_neP (tgt := 22) hx hb d_SG_knot_9 (by decide) (fun c_9 => ?_) (fun c_9 => ?_)
  · refine lv_iload_n hx hb d_SG_knot_22 rfl (lv_at hl 3 rfl) ?_
    refine lv_iconst (v := nI 0) hx hb d_SG_knot_23 (by decide +kernel) ?_
    refine lv_sipush (v := nI 10000) hx hb d_SG_knot_24 (by decide +kernel) ?_
    refine kcallR (r := .int (pI (((0 : Nat) : Int) ≤ v.toInt ∧ v.toInt ≤ ((10000 : Nat) : Int)))) (va_runS (As := [.int v, .int (nI 0), .int (nI 10000)]) (rest := []) ⟨hx, hb, hml, hown, hts⟩ (c_isWithin l D cI cJ cZ v (nI 0) (nI 10000) v.toInt ((0 : Nat) : Int) ((10000 : Nat) : Int) rfl (nI_t (by omega)) (nI_t (by omega))) ⟨callB_of 3 hts (gd kc_SG_isWithin) rfl rfl rfl (hts _ (List.mem_cons_of_mem _ k_1)) (hts _ (List.mem_cons_of_mem _ k_313)) (by decide +kernel) ⟨Nat.le_of_ble_eq_true rfl, Nat.le_of_ble_eq_true rfl⟩, hts _ (List.mem_cons_of_mem _ k_280)⟩ ⟨kR_blind, kR_at hP hK hZ [] rfl⟩ rfl rfl hl.1 rfl (lv_room (Nat.le_of_ble_eq_true rfl)) d_SG_knot_27 ⟨Nat.zero_le _, Nat.zero_le _⟩) ?_
    refine kb_neP (tgt := 43) hx hb d_SG_knot_30 (by decide) (fun c_30 => ?_) (fun c_30 => ?_)
    · exfalso; omega
    · obtain ⟨sa, hsa⟩ := hT.2 (102, "loss is not 0 .. 10000") (by decide +kernel)
      exact xt_throwS (own := R_SG) (cls := "java/lang/IllegalArgumentException") (text := "loss is not 0 .. 10000") (names := thN) (ik := 95) (is := 102) (ic := 99) (sa := sa) hx hb hl9 hown th_fit.2.2.1 th_fit.1 (hts _ (List.mem_cons_of_mem _ k_400)) (hts _ (List.mem_cons_of_mem _ k_13)) hsa.1 hsa.2 (fun w hw => kT_args hT _ w (thW_2 w hw)) (hl.1.trans hml.symm) d_SG_knot_33 d_SG_knot_36 d_SG_knot_37 d_SG_knot_39 d_SG_knot_42 hne (Nat.le_of_ble_eq_true rfl) (Nat.le_of_ble_eq_true rfl) (Nat.le_of_ble_eq_true rfl) (Nat.le_of_ble_eq_true rfl) hlocks
  · exfalso; omega
set_option maxHeartbeats 4000000 in
set_option maxRecDepth 100000 in
theorem x_span1 (l : Launch) (hl9 : l.stackTraces = false) (D : va_G) (cI cJ cZ : ClassId) (hs : Nat) (kf : Nat) (h0 : Nat) (hz : Nat) (bo : Nat) (hb_ : Nat) (hp : Nat) (sw : Prop) (side : Nat) (a1 : Nat) (a2 : Nat) (a3 : Nat) (a4 : Nat) (sm : Prop) (en : Int32) (y : Int32) (f_ : Int32) (t_ : Int32) (s1 : 1 ≤ side) (s2 : side ≤ 20) (bad : ¬ ((0 ≤ en.toInt ∧ en.toInt ≤ 1) ∧ 0 ≤ y.toInt ∧ y.toInt < (side : Int))) : xt_Met l y_SG_span w_SG_span ({ frames := 6, cells := 1, slots := 6, locals := 82 }) (va_Pc [.ref hs, .int en, .int y, .int f_, .int t_] (kTh D vwCl (tyL cI cJ cZ) [(hs, .inr (0, [.int (nI kf), .ref h0, .ref hz, .ref bo, .ref hb_, .ref hp, .int (pI sw)])), (h0, .inr (3, [.int (nI side), .ref a1, .ref a2, .ref a3, .ref a4, .int (pI sm)]))])) (xE "java/lang/IndexOutOfBoundsException") 1 6 (fun _ => False) := by
  refine xt_ofW (cc := b_SG_span) (maxL := 6) (ret := none) (by decide) rfl ?_
  intro p e s m args below meth c s₁ B hml hne hv
  obtain ⟨rfl, ⟨hP, hK, hZ⟩, hT⟩ := hv
  have hx := B.exec
  have hb := B.bytes
  have hts := atoms_spec (ws := w_SG_span) B.pre
  have hown : s.vm.findClass R_SG = some m.cls := findClass_of_methodNamed B.named
  have hlocks := B.notSynchronized
  have hP : va_P D vwCl [(hs, .inr (0, [.int (nI kf), .ref h0, .ref hz, .ref bo, .ref hb_, .ref hp, .int (pI sw)])), (h0, .inr (3, [.int (nI side), .ref a1, .ref a2, .ref a3, .ref a4, .int (pI sm)]))] s.heap := hP
  have hl := lv_entry ([.ref hs, .int en, .int y, .int f_, .int t_]) (n := 6) (Nat.le_of_ble_eq_true rfl)
  rw [lg_entry_eq]
  generalize (lg_sl ([.ref hs, .int en, .int y, .int f_, .int t_]) ++ List.replicate (6 - (lg_sl ([.ref hs, .int en, .int y, .int f_, .int t_])).length) Slot.unset).toArray = ls at hl ⊢
  have hl : lv_has ls 6 [(0, .ref hs), (1, .int en), (2, .int y), (3, .int f_), (4, .int t_)] := hl
  have t_0 : (nI 0).toInt = 0 := by decide +kernel
  refine lv_iload_n hx hb d_SG_span_0 rfl (lv_at hl 1 rfl) ?_
  refine kcallR (r := .int (pI (0 ≤ en.toInt ∧ en.toInt ≤ 1))) (va_runS (As := [.int en]) (rest := []) ⟨hx, hb, hml, hown, hts⟩ (c_isEnd l D cI cJ cZ en ) ⟨callB_of 1 hts (gd kc_SG_isEnd) rfl rfl rfl (hts _ (List.mem_cons_of_mem _ k_1)) (hts _ (List.mem_cons_of_mem _ k_310)) (by decide +kernel) ⟨Nat.le_of_ble_eq_true rfl, Nat.le_of_ble_eq_true rfl⟩, hts _ (List.mem_cons_of_mem _ k_311)⟩ ⟨kR_blind, kR_at hP hK hZ [] rfl⟩ rfl rfl hl.1 rfl (lv_room (Nat.le_of_ble_eq_true rfl)) d_SG_span_1 ⟨Nat.zero_le _, Nat.zero_le _⟩) ?_
  refine kb_eqP (tgt := 19) hx hb d_SG_span_4 (by decide) (fun c_4 => ?_) (fun c_4 => ?_)
  · obtain ⟨sa, hsa⟩ := hT.2 (86, "no such end or row") (by decide +kernel)
    exact xt_throwS (own := R_SG) (cls := "java/lang/IndexOutOfBoundsException") (text := "no such end or row") (names := thN) (ik := 71) (is := 86) (ic := 75) (sa := sa) hx hb hl9 hown th_fit.2.1 th_fit.1 (hts _ (List.mem_cons_of_mem _ k_319)) (hts _ (List.mem_cons_of_mem _ k_12)) hsa.1 hsa.2 (fun w hw => kT_args hT _ w (thW_1 w hw)) (hl.1.trans hml.symm) d_SG_span_19 d_SG_span_22 d_SG_span_23 d_SG_span_25 d_SG_span_28 hne (Nat.le_of_ble_eq_true rfl) (Nat.le_of_ble_eq_true rfl) (Nat.le_of_ble_eq_true rfl) (Nat.le_of_ble_eq_true rfl) hlocks
  · refine lv_aload_n hx hb d_SG_span_7 rfl (lv_at hl 0 rfl) ?_
    refine va_get (D := D) (ci := 0) (v := .ref h0) (C := R_SG) (T := T_SG) (N := 7) hx hb hts (fun w h => List.mem_cons_of_mem _ (iw_SG w h)) hown hK hP 0 rfl rfl 1 (by decide) (hts _ (List.mem_cons_of_mem _ k_179)) (fun _ h9 => h9) rfl d_SG_span_8 ?_
    refine lv_iconst (v := nI 0) hx hb d_SG_span_11 (by decide +kernel) ?_
    refine lv_iload_n hx hb d_SG_span_12 rfl (lv_at hl 2 rfl) ?_
    refine kcallR (r := .int (pI ((0 ≤ (nI 0).toInt ∧ (nI 0).toInt < (side : Int)) ∧ 0 ≤ y.toInt ∧ y.toInt < (side : Int)))) (va_runV (As := [.int (nI 0), .int y]) (rest := []) ⟨hx, hb, hml, hown, hts⟩ (c_isCell l D cI cJ cZ h0 side a1 a2 a3 a4 sm (nI 0) y (by omega) (by omega)) ⟨callB_of 2 hts (gd kc_Lo_isCell) rfl rfl rfl (hts _ (List.mem_cons_of_mem _ k_3)) (hts _ (List.mem_cons_of_mem _ k_314)) (by decide +kernel) ⟨Nat.le_of_ble_eq_true rfl, Nat.le_of_ble_eq_true rfl⟩, hts _ (List.mem_cons_of_mem _ k_315), hts _ (List.mem_cons_of_mem _ k_316)⟩ ⟨kR_blind, va_recv hK hP (ci := 3) (q0 := 1) rfl rfl, kR_at hP hK hZ [1] rfl⟩ rfl rfl hl.1 rfl (lv_room (Nat.le_of_ble_eq_true rfl)) d_SG_span_13 ⟨Nat.zero_le _, Nat.zero_le _⟩) ?_
    refine kb_neP (tgt := 29) hx hb d_SG_span_16 (by decide) (fun c_16 => ?_) (fun c_16 => ?_)
    · exfalso; omega
    · obtain ⟨sa, hsa⟩ := hT.2 (86, "no such end or row") (by decide +kernel)
      exact xt_throwS (own := R_SG) (cls := "java/lang/IndexOutOfBoundsException") (text := "no such end or row") (names := thN) (ik := 71) (is := 86) (ic := 75) (sa := sa) hx hb hl9 hown th_fit.2.1 th_fit.1 (hts _ (List.mem_cons_of_mem _ k_319)) (hts _ (List.mem_cons_of_mem _ k_12)) hsa.1 hsa.2 (fun w hw => kT_args hT _ w (thW_1 w hw)) (hl.1.trans hml.symm) d_SG_span_19 d_SG_span_22 d_SG_span_23 d_SG_span_25 d_SG_span_28 hne (Nat.le_of_ble_eq_true rfl) (Nat.le_of_ble_eq_true rfl) (Nat.le_of_ble_eq_true rfl) (Nat.le_of_ble_eq_true rfl) hlocks
set_option maxHeartbeats 4000000 in
set_option maxRecDepth 100000 in
theorem x_span2 (l : Launch) (hl9 : l.stackTraces = false) (D : va_G) (cI cJ cZ : ClassId) (hs : Nat) (kf : Nat) (h0 : Nat) (hz : Nat) (bo : Nat) (hb_ : Nat) (hp : Nat) (sw : Prop) (side : Nat) (a1 : Nat) (a2 : Nat) (a3 : Nat) (a4 : Nat) (sm : Prop) (en : Int32) (y : Int32) (f_ : Int32) (t_ : Int32) (s1 : 1 ≤ side) (s2 : side ≤ 20) (ok : (0 ≤ en.toInt ∧ en.toInt ≤ 1) ∧ 0 ≤ y.toInt ∧ y.toInt < (side : Int)) (bad : ¬ ((0 ≤ f_.toInt ∧ f_.toInt ≤ (side : Int)) ∧ f_.toInt ≤ t_.toInt ∧ t_.toInt ≤ (side : Int))) : xt_Met l y_SG_span w_SG_span ({ frames := 6, cells := 1, slots := 6, locals := 82 }) (va_Pc [.ref hs, .int en, .int y, .int f_, .int t_] (kTh D vwCl (tyL cI cJ cZ) [(hs, .inr (0, [.int (nI kf), .ref h0, .ref hz, .ref bo, .ref hb_, .ref hp, .int (pI sw)])), (h0, .inr (3, [.int (nI side), .ref a1, .ref a2, .ref a3, .ref a4, .int (pI sm)]))])) (xE "java/lang/IllegalArgumentException") 1 6 (fun _ => False) := by
  refine xt_ofW (cc := b_SG_span) (maxL := 6) (ret := none) (by decide) rfl ?_
  intro p e s m args below meth c s₁ B hml hne hv
  obtain ⟨rfl, ⟨hP, hK, hZ⟩, hT⟩ := hv
  have hx := B.exec
  have hb := B.bytes
  have hts := atoms_spec (ws := w_SG_span) B.pre
  have hown : s.vm.findClass R_SG = some m.cls := findClass_of_methodNamed B.named
  have hlocks := B.notSynchronized
  have hP : va_P D vwCl [(hs, .inr (0, [.int (nI kf), .ref h0, .ref hz, .ref bo, .ref hb_, .ref hp, .int (pI sw)])), (h0, .inr (3, [.int (nI side), .ref a1, .ref a2, .ref a3, .ref a4, .int (pI sm)]))] s.heap := hP
  have hl := lv_entry ([.ref hs, .int en, .int y, .int f_, .int t_]) (n := 6) (Nat.le_of_ble_eq_true rfl)
  rw [lg_entry_eq]
  generalize (lg_sl ([.ref hs, .int en, .int y, .int f_, .int t_]) ++ List.replicate (6 - (lg_sl ([.ref hs, .int en, .int y, .int f_, .int t_])).length) Slot.unset).toArray = ls at hl ⊢
  have hl : lv_has ls 6 [(0, .ref hs), (1, .int en), (2, .int y), (3, .int f_), (4, .int t_)] := hl
  have t_0 : (nI 0).toInt = 0 := by decide +kernel
  refine lv_iload_n hx hb d_SG_span_0 rfl (lv_at hl 1 rfl) ?_
  refine kcallR (r := .int (pI (0 ≤ en.toInt ∧ en.toInt ≤ 1))) (va_runS (As := [.int en]) (rest := []) ⟨hx, hb, hml, hown, hts⟩ (c_isEnd l D cI cJ cZ en ) ⟨callB_of 1 hts (gd kc_SG_isEnd) rfl rfl rfl (hts _ (List.mem_cons_of_mem _ k_1)) (hts _ (List.mem_cons_of_mem _ k_310)) (by decide +kernel) ⟨Nat.le_of_ble_eq_true rfl, Nat.le_of_ble_eq_true rfl⟩, hts _ (List.mem_cons_of_mem _ k_311)⟩ ⟨kR_blind, kR_at hP hK hZ [] rfl⟩ rfl rfl hl.1 rfl (lv_room (Nat.le_of_ble_eq_true rfl)) d_SG_span_1 ⟨Nat.zero_le _, Nat.zero_le _⟩) ?_
  refine kb_eqP (tgt := 19) hx hb d_SG_span_4 (by decide) (fun c_4 => ?_) (fun c_4 => ?_)
  · exfalso; omega
  · refine lv_aload_n hx hb d_SG_span_7 rfl (lv_at hl 0 rfl) ?_
    refine va_get (D := D) (ci := 0) (v := .ref h0) (C := R_SG) (T := T_SG) (N := 7) hx hb hts (fun w h => List.mem_cons_of_mem _ (iw_SG w h)) hown hK hP 0 rfl rfl 1 (by decide) (hts _ (List.mem_cons_of_mem _ k_179)) (fun _ h9 => h9) rfl d_SG_span_8 ?_
    refine lv_iconst (v := nI 0) hx hb d_SG_span_11 (by decide +kernel) ?_
    refine lv_iload_n hx hb d_SG_span_12 rfl (lv_at hl 2 rfl) ?_
    refine kcallR (r := .int (pI ((0 ≤ (nI 0).toInt ∧ (nI 0).toInt < (side : Int)) ∧ 0 ≤ y.toInt ∧ y.toInt < (side : Int)))) (va_runV (As := [.int (nI 0), .int y]) (rest := []) ⟨hx, hb, hml, hown, hts⟩ (c_isCell l D cI cJ cZ h0 side a1 a2 a3 a4 sm (nI 0) y (by omega) (by omega)) ⟨callB_of 2 hts (gd kc_Lo_isCell) rfl rfl rfl (hts _ (List.mem_cons_of_mem _ k_3)) (hts _ (List.mem_cons_of_mem _ k_314)) (by decide +kernel) ⟨Nat.le_of_ble_eq_true rfl, Nat.le_of_ble_eq_true rfl⟩, hts _ (List.mem_cons_of_mem _ k_315), hts _ (List.mem_cons_of_mem _ k_316)⟩ ⟨kR_blind, va_recv hK hP (ci := 3) (q0 := 1) rfl rfl, kR_at hP hK hZ [1] rfl⟩ rfl rfl hl.1 rfl (lv_room (Nat.le_of_ble_eq_true rfl)) d_SG_span_13 ⟨Nat.zero_le _, Nat.zero_le _⟩) ?_
    refine kb_neP (tgt := 29) hx hb d_SG_span_16 (by decide) (fun c_16 => ?_) (fun c_16 => ?_)
    · refine lv_iload_n hx hb d_SG_span_29 rfl (lv_at hl 3 rfl) ?_
      refine lv_iconst (v := nI 0) hx hb d_SG_span_30 (by decide +kernel) ?_
      refine lv_aload_n hx hb d_SG_span_31 rfl (lv_at hl 0 rfl) ?_
      refine va_get (D := D) (ci := 0) (v := .ref h0) (C := R_SG) (T := T_SG) (N := 7) hx hb hts (fun w h => List.mem_cons_of_mem _ (iw_SG w h)) hown hK hP 0 rfl rfl 1 (by decide) (hts _ (List.mem_cons_of_mem _ k_179)) (fun _ h9 => h9) rfl d_SG_span_32 ?_
      refine va_get (D := D) (ci := 3) (v := .int (nI side)) (C := R_Lo) (T := T_Lo) (N := 6) hx hb hts (fun w h => List.mem_cons_of_mem _ (iw_Lo w h)) hown hK hP 1 rfl rfl 0 (by decide) (hts _ (List.mem_cons_of_mem _ k_36)) (fun _ h9 => h9) rfl d_SG_span_35 ?_
      refine kcallR (r := .int (pI (((0 : Nat) : Int) ≤ f_.toInt ∧ f_.toInt ≤ ((side : Nat) : Int)))) (va_runS (As := [.int f_, .int (nI 0), .int (nI side)]) (rest := []) ⟨hx, hb, hml, hown, hts⟩ (c_isWithin l D cI cJ cZ f_ (nI 0) (nI side) f_.toInt ((0 : Nat) : Int) ((side : Nat) : Int) rfl (nI_t (by omega)) (nI_t (by omega))) ⟨callB_of 3 hts (gd kc_SG_isWithin) rfl rfl rfl (hts _ (List.mem_cons_of_mem _ k_1)) (hts _ (List.mem_cons_of_mem _ k_313)) (by decide +kernel) ⟨Nat.le_of_ble_eq_true rfl, Nat.le_of_ble_eq_true rfl⟩, hts _ (List.mem_cons_of_mem _ k_280)⟩ ⟨kR_blind, kR_at hP hK hZ [] rfl⟩ rfl rfl hl.1 rfl (lv_room (Nat.le_of_ble_eq_true rfl)) d_SG_span_38 ⟨Nat.zero_le _, Nat.zero_le _⟩) ?_
      refine kb_eqP (tgt := 60) hx hb d_SG_span_41 (by decide) (fun c_41 => ?_) (fun c_41 => ?_)
      · obtain ⟨sa, hsa⟩ := hT.2 (97, "from is not 0 .. side, or to not from .. side") (by decide +kernel)
        exact xt_throwS (own := R_SG) (cls := "java/lang/IllegalArgumentException") (text := "from is not 0 .. side, or to not from .. side") (names := thN) (ik := 95) (is := 97) (ic := 99) (sa := sa) hx hb hl9 hown th_fit.2.2.1 th_fit.1 (hts _ (List.mem_cons_of_mem _ k_400)) (hts _ (List.mem_cons_of_mem _ k_13)) hsa.1 hsa.2 (fun w hw => kT_args hT _ w (thW_2 w hw)) (hl.1.trans hml.symm) d_SG_span_60 d_SG_span_63 d_SG_span_64 d_SG_span_66 d_SG_span_69 hne (Nat.le_of_ble_eq_true rfl) (Nat.le_of_ble_eq_true rfl) (Nat.le_of_ble_eq_true rfl) (Nat.le_of_ble_eq_true rfl) hlocks
      · refine lv_iload hx hb d_SG_span_44 (lv_at hl 4 rfl) ?_
        refine lv_iload_n hx hb d_SG_span_46 rfl (lv_at hl 3 rfl) ?_
        refine lv_aload_n hx hb d_SG_span_47 rfl (lv_at hl 0 rfl) ?_
        refine va_get (D := D) (ci := 0) (v := .ref h0) (C := R_SG) (T := T_SG) (N := 7) hx hb hts (fun w h => List.mem_cons_of_mem _ (iw_SG w h)) hown hK hP 0 rfl rfl 1 (by decide) (hts _ (List.mem_cons_of_mem _ k_179)) (fun _ h9 => h9) rfl d_SG_span_48 ?_
        refine va_get (D := D) (ci := 3) (v := .int (nI side)) (C := R_Lo) (T := T_Lo) (N := 6) hx hb hts (fun w h => List.mem_cons_of_mem _ (iw_Lo w h)) hown hK hP 1 rfl rfl 0 (by decide) (hts _ (List.mem_cons_of_mem _ k_36)) (fun _ h9 => h9) rfl d_SG_span_51 ?_
        refine kcallR (r := .int (pI (f_.toInt ≤ t_.toInt ∧ t_.toInt ≤ ((side : Nat) : Int)))) (va_runS (As := [.int t_, .int f_, .int (nI side)]) (rest := []) ⟨hx, hb, hml, hown, hts⟩ (c_isWithin l D cI cJ cZ t_ f_ (nI side) t_.toInt f_.toInt ((side : Nat) : Int) rfl rfl (nI_t (by omega))) ⟨callB_of 3 hts (gd kc_SG_isWithin) rfl rfl rfl (hts _ (List.mem_cons_of_mem _ k_1)) (hts _ (List.mem_cons_of_mem _ k_313)) (by decide +kernel) ⟨Nat.le_of_ble_eq_true rfl, Nat.le_of_ble_eq_true rfl⟩, hts _ (List.mem_cons_of_mem _ k_280)⟩ ⟨kR_blind, kR_at hP hK hZ [] rfl⟩ rfl rfl hl.1 rfl (lv_room (Nat.le_of_ble_eq_true rfl)) d_SG_span_54 ⟨Nat.zero_le _, Nat.zero_le _⟩) ?_
        refine kb_neP (tgt := 70) hx hb d_SG_span_57 (by decide) (fun c_57 => ?_) (fun c_57 => ?_)
        · exfalso; omega
        · obtain ⟨sa, hsa⟩ := hT.2 (97, "from is not 0 .. side, or to not from .. side") (by decide +kernel)
          exact xt_throwS (own := R_SG) (cls := "java/lang/IllegalArgumentException") (text := "from is not 0 .. side, or to not from .. side") (names := thN) (ik := 95) (is := 97) (ic := 99) (sa := sa) hx hb hl9 hown th_fit.2.2.1 th_fit.1 (hts _ (List.mem_cons_of_mem _ k_400)) (hts _ (List.mem_cons_of_mem _ k_13)) hsa.1 hsa.2 (fun w hw => kT_args hT _ w (thW_2 w hw)) (hl.1.trans hml.symm) d_SG_span_60 d_SG_span_63 d_SG_span_64 d_SG_span_66 d_SG_span_69 hne (Nat.le_of_ble_eq_true rfl) (Nat.le_of_ble_eq_true rfl) (Nat.le_of_ble_eq_true rfl) (Nat.le_of_ble_eq_true rfl) hlocks
    · exfalso; omega
set_option maxHeartbeats 4000000 in
set_option maxRecDepth 100000 in
theorem x_size1 (l : Launch) (hl9 : l.stackTraces = false) (D : va_G) (cI cJ cZ : ClassId) (hs : Nat) (kf : Nat) (h0 : Nat) (hz : Nat) (bo : Nat) (hb_ : Nat) (hp : Nat) (sw : Prop) (t1 : Nat) (t2 : Nat) (t3 : Nat) (t4 : Nat) (cn : Nat) (q1 : Int32) (q2 : Int32) (q3 : Int32) (q4 : Int32) (bad : ¬ (((1 ≤ q1.toInt ∧ q1.toInt ≤ 20) ∧ 1 ≤ q2.toInt ∧ q2.toInt ≤ 20) ∧ (0 ≤ q3.toInt ∧ q3.toInt ≤ 100000) ∧ 0 ≤ q4.toInt ∧ q4.toInt ≤ 400)) : xt_Met l y_SG_size w_SG_size ({ frames := 6, cells := 1, slots := 6, locals := 82 }) (va_Pc [.ref hs, .int q1, .int q2, .int q3, .int q4] (kTh D vwCl (tyL cI cJ cZ) [(hs, .inr (0, [.int (nI kf), .ref h0, .ref hz, .ref bo, .ref hb_, .ref hp, .int (pI sw)])), (hz, .inr (5, [.ref t1, .ref t2, .ref t3, .ref t4, .int (nI cn)]))])) (xE "java/lang/IllegalArgumentException") 1 6 (fun _ => False) := by
  refine xt_ofW (cc := b_SG_size) (maxL := 5) (ret := (some (.int))) (by decide) rfl ?_
  intro p e s m args below meth c s₁ B hml hne hv
  obtain ⟨rfl, ⟨hP, hK, hZ⟩, hT⟩ := hv
  have hx := B.exec
  have hb := B.bytes
  have hts := atoms_spec (ws := w_SG_size) B.pre
  have hown : s.vm.findClass R_SG = some m.cls := findClass_of_methodNamed B.named
  have hlocks := B.notSynchronized
  have hP : va_P D vwCl [(hs, .inr (0, [.int (nI kf), .ref h0, .ref hz, .ref bo, .ref hb_, .ref hp, .int (pI sw)])), (hz, .inr (5, [.ref t1, .ref t2, .ref t3, .ref t4, .int (nI cn)]))] s.heap := hP
  have hl := lv_entry ([.ref hs, .int q1, .int q2, .int q3, .int q4]) (n := 5) (Nat.le_of_ble_eq_true rfl)
  rw [lg_entry_eq]
  generalize (lg_sl ([.ref hs, .int q1, .int q2, .int q3, .int q4]) ++ List.replicate (5 - (lg_sl ([.ref hs, .int q1, .int q2, .int q3, .int q4])).length) Slot.unset).toArray = ls at hl ⊢
  have hl : lv_has ls 5 [(0, .ref hs), (1, .int q1), (2, .int q2), (3, .int q3), (4, .int q4)] := hl
  refine lv_iload_n hx hb d_SG_size_0 rfl (lv_at hl 1 rfl) ?_
  refine lv_iconst (v := nI 1) hx hb d_SG_size_1 (by decide +kernel) ?_
  refine lv_bipush (v := nI 20) hx hb d_SG_size_2 (by decide +kernel) ?_
  refine kcallR (r := .int (pI (((1 : Nat) : Int) ≤ q1.toInt ∧ q1.toInt ≤ ((20 : Nat) : Int)))) (va_runS (As := [.int q1, .int (nI 1), .int (nI 20)]) (rest := []) ⟨hx, hb, hml, hown, hts⟩ (c_isWithin l D cI cJ cZ q1 (nI 1) (nI 20) q1.toInt ((1 : Nat) : Int) ((20 : Nat) : Int) rfl (nI_t (by omega)) (nI_t (by omega))) ⟨callB_of 3 hts (gd kc_SG_isWithin) rfl rfl rfl (hts _ (List.mem_cons_of_mem _ k_1)) (hts _ (List.mem_cons_of_mem _ k_313)) (by decide +kernel) ⟨Nat.le_of_ble_eq_true rfl, Nat.le_of_ble_eq_true rfl⟩, hts _ (List.mem_cons_of_mem _ k_280)⟩ ⟨kR_blind, kR_at hP hK hZ [] rfl⟩ rfl rfl hl.1 rfl (lv_room (Nat.le_of_ble_eq_true rfl)) d_SG_size_4 ⟨Nat.zero_le _, Nat.zero_le _⟩) ?_
  refine kb_eqP (tgt := 20) hx hb d_SG_size_7 (by decide) (fun c_7 => ?_) (fun c_7 => ?_)
  · obtain ⟨sa, hsa⟩ := hT.2 (107, "thick or wide is not 1 .. 20") (by decide +kernel)
    exact xt_throwS (own := R_SG) (cls := "java/lang/IllegalArgumentException") (text := "thick or wide is not 1 .. 20") (names := thN) (ik := 95) (is := 107) (ic := 99) (sa := sa) hx hb hl9 hown th_fit.2.2.1 th_fit.1 (hts _ (List.mem_cons_of_mem _ k_400)) (hts _ (List.mem_cons_of_mem _ k_13)) hsa.1 hsa.2 (fun w hw => kT_args hT _ w (thW_2 w hw)) (hl.1.trans hml.symm) d_SG_size_20 d_SG_size_23 d_SG_size_24 d_SG_size_26 d_SG_size_29 hne (Nat.le_of_ble_eq_true rfl) (Nat.le_of_ble_eq_true rfl) (Nat.le_of_ble_eq_true rfl) (Nat.le_of_ble_eq_true rfl) hlocks
  · refine lv_iload_n hx hb d_SG_size_10 rfl (lv_at hl 2 rfl) ?_
    refine lv_iconst (v := nI 1) hx hb d_SG_size_11 (by decide +kernel) ?_
    refine lv_bipush (v := nI 20) hx hb d_SG_size_12 (by decide +kernel) ?_
    refine kcallR (r := .int (pI (((1 : Nat) : Int) ≤ q2.toInt ∧ q2.toInt ≤ ((20 : Nat) : Int)))) (va_runS (As := [.int q2, .int (nI 1), .int (nI 20)]) (rest := []) ⟨hx, hb, hml, hown, hts⟩ (c_isWithin l D cI cJ cZ q2 (nI 1) (nI 20) q2.toInt ((1 : Nat) : Int) ((20 : Nat) : Int) rfl (nI_t (by omega)) (nI_t (by omega))) ⟨callB_of 3 hts (gd kc_SG_isWithin) rfl rfl rfl (hts _ (List.mem_cons_of_mem _ k_1)) (hts _ (List.mem_cons_of_mem _ k_313)) (by decide +kernel) ⟨Nat.le_of_ble_eq_true rfl, Nat.le_of_ble_eq_true rfl⟩, hts _ (List.mem_cons_of_mem _ k_280)⟩ ⟨kR_blind, kR_at hP hK hZ [] rfl⟩ rfl rfl hl.1 rfl (lv_room (Nat.le_of_ble_eq_true rfl)) d_SG_size_14 ⟨Nat.zero_le _, Nat.zero_le _⟩) ?_
    refine kb_neP (tgt := 30) hx hb d_SG_size_17 (by decide) (fun c_17 => ?_) (fun c_17 => ?_)
    · refine lv_iload_n hx hb d_SG_size_30 rfl (lv_at hl 3 rfl) ?_
      refine lv_iconst (v := nI 0) hx hb d_SG_size_31 (by decide +kernel) ?_
      refine lv_ldc (v := (100000 : Int32)) hx hb hown (hts _ (List.mem_cons_of_mem _ k_438)) d_SG_size_32 ?_
      refine ka_i (y := nI 100000) (by decide +kernel) ?_
      refine kcallR (r := .int (pI (((0 : Nat) : Int) ≤ q3.toInt ∧ q3.toInt ≤ ((100000 : Nat) : Int)))) (va_runS (As := [.int q3, .int (nI 0), .int (nI 100000)]) (rest := []) ⟨hx, hb, hml, hown, hts⟩ (c_isWithin l D cI cJ cZ q3 (nI 0) (nI 100000) q3.toInt ((0 : Nat) : Int) ((100000 : Nat) : Int) rfl (nI_t (by omega)) (nI_t (by omega))) ⟨callB_of 3 hts (gd kc_SG_isWithin) rfl rfl rfl (hts _ (List.mem_cons_of_mem _ k_1)) (hts _ (List.mem_cons_of_mem _ k_313)) (by decide +kernel) ⟨Nat.le_of_ble_eq_true rfl, Nat.le_of_ble_eq_true rfl⟩, hts _ (List.mem_cons_of_mem _ k_280)⟩ ⟨kR_blind, kR_at hP hK hZ [] rfl⟩ rfl rfl hl.1 rfl (lv_room (Nat.le_of_ble_eq_true rfl)) d_SG_size_34 ⟨Nat.zero_le _, Nat.zero_le _⟩) ?_
      refine kb_eqP (tgt := 52) hx hb d_SG_size_37 (by decide) (fun c_37 => ?_) (fun c_37 => ?_)
      · obtain ⟨sa, hsa⟩ := hT.2 (110, "worth is not 0 .. 100000, or wane not 0 .. 400") (by decide +kernel)
        exact xt_throwS (own := R_SG) (cls := "java/lang/IllegalArgumentException") (text := "worth is not 0 .. 100000, or wane not 0 .. 400") (names := thN) (ik := 95) (is := 110) (ic := 99) (sa := sa) hx hb hl9 hown th_fit.2.2.1 th_fit.1 (hts _ (List.mem_cons_of_mem _ k_400)) (hts _ (List.mem_cons_of_mem _ k_13)) hsa.1 hsa.2 (fun w hw => kT_args hT _ w (thW_2 w hw)) (hl.1.trans hml.symm) d_SG_size_52 d_SG_size_55 d_SG_size_56 d_SG_size_58 d_SG_size_61 hne (Nat.le_of_ble_eq_true rfl) (Nat.le_of_ble_eq_true rfl) (Nat.le_of_ble_eq_true rfl) (Nat.le_of_ble_eq_true rfl) hlocks
      · refine lv_iload hx hb d_SG_size_40 (lv_at hl 4 rfl) ?_
        refine lv_iconst (v := nI 0) hx hb d_SG_size_42 (by decide +kernel) ?_
        refine lv_sipush (v := nI 400) hx hb d_SG_size_43 (by decide +kernel) ?_
        refine kcallR (r := .int (pI (((0 : Nat) : Int) ≤ q4.toInt ∧ q4.toInt ≤ ((400 : Nat) : Int)))) (va_runS (As := [.int q4, .int (nI 0), .int (nI 400)]) (rest := []) ⟨hx, hb, hml, hown, hts⟩ (c_isWithin l D cI cJ cZ q4 (nI 0) (nI 400) q4.toInt ((0 : Nat) : Int) ((400 : Nat) : Int) rfl (nI_t (by omega)) (nI_t (by omega))) ⟨callB_of 3 hts (gd kc_SG_isWithin) rfl rfl rfl (hts _ (List.mem_cons_of_mem _ k_1)) (hts _ (List.mem_cons_of_mem _ k_313)) (by decide +kernel) ⟨Nat.le_of_ble_eq_true rfl, Nat.le_of_ble_eq_true rfl⟩, hts _ (List.mem_cons_of_mem _ k_280)⟩ ⟨kR_blind, kR_at hP hK hZ [] rfl⟩ rfl rfl hl.1 rfl (lv_room (Nat.le_of_ble_eq_true rfl)) d_SG_size_46 ⟨Nat.zero_le _, Nat.zero_le _⟩) ?_
        refine kb_neP (tgt := 62) hx hb d_SG_size_49 (by decide) (fun c_49 => ?_) (fun c_49 => ?_)
        · exfalso; omega
        · obtain ⟨sa, hsa⟩ := hT.2 (110, "worth is not 0 .. 100000, or wane not 0 .. 400") (by decide +kernel)
          exact xt_throwS (own := R_SG) (cls := "java/lang/IllegalArgumentException") (text := "worth is not 0 .. 100000, or wane not 0 .. 400") (names := thN) (ik := 95) (is := 110) (ic := 99) (sa := sa) hx hb hl9 hown th_fit.2.2.1 th_fit.1 (hts _ (List.mem_cons_of_mem _ k_400)) (hts _ (List.mem_cons_of_mem _ k_13)) hsa.1 hsa.2 (fun w hw => kT_args hT _ w (thW_2 w hw)) (hl.1.trans hml.symm) d_SG_size_52 d_SG_size_55 d_SG_size_56 d_SG_size_58 d_SG_size_61 hne (Nat.le_of_ble_eq_true rfl) (Nat.le_of_ble_eq_true rfl) (Nat.le_of_ble_eq_true rfl) (Nat.le_of_ble_eq_true rfl) hlocks
    · obtain ⟨sa, hsa⟩ := hT.2 (107, "thick or wide is not 1 .. 20") (by decide +kernel)
      exact xt_throwS (own := R_SG) (cls := "java/lang/IllegalArgumentException") (text := "thick or wide is not 1 .. 20") (names := thN) (ik := 95) (is := 107) (ic := 99) (sa := sa) hx hb hl9 hown th_fit.2.2.1 th_fit.1 (hts _ (List.mem_cons_of_mem _ k_400)) (hts _ (List.mem_cons_of_mem _ k_13)) hsa.1 hsa.2 (fun w hw => kT_args hT _ w (thW_2 w hw)) (hl.1.trans hml.symm) d_SG_size_20 d_SG_size_23 d_SG_size_24 d_SG_size_26 d_SG_size_29 hne (Nat.le_of_ble_eq_true rfl) (Nat.le_of_ble_eq_true rfl) (Nat.le_of_ble_eq_true rfl) (Nat.le_of_ble_eq_true rfl) hlocks
set_option maxHeartbeats 4000000 in
set_option maxRecDepth 100000 in
theorem x_size2 (l : Launch) (hl9 : l.stackTraces = false) (D : va_G) (cI cJ cZ : ClassId) (hs : Nat) (kf : Nat) (h0 : Nat) (hz : Nat) (bo : Nat) (hb_ : Nat) (hp : Nat) (sw : Prop) (t1 : Nat) (t2 : Nat) (t3 : Nat) (t4 : Nat) (cn : Nat) (q1 : Int32) (q2 : Int32) (q3 : Int32) (q4 : Int32) (ok : ((1 ≤ q1.toInt ∧ q1.toInt ≤ 20) ∧ 1 ≤ q2.toInt ∧ q2.toInt ≤ 20) ∧ (0 ≤ q3.toInt ∧ q3.toInt ≤ 100000) ∧ 0 ≤ q4.toInt ∧ q4.toInt ≤ 400) (full : cn = 8) : xt_Met l y_SG_size w_SG_size ({ frames := 6, cells := 1, slots := 6, locals := 82 }) (va_Pc [.ref hs, .int q1, .int q2, .int q3, .int q4] (kTh D vwCl (tyL cI cJ cZ) [(hs, .inr (0, [.int (nI kf), .ref h0, .ref hz, .ref bo, .ref hb_, .ref hp, .int (pI sw)])), (hz, .inr (5, [.ref t1, .ref t2, .ref t3, .ref t4, .int (nI cn)]))])) (xE "java/lang/IllegalStateException") 1 6 (fun _ => False) := by
  refine xt_ofW (cc := b_SG_size) (maxL := 5) (ret := (some (.int))) (by decide) rfl ?_
  intro p e s m args below meth c s₁ B hml hne hv
  obtain ⟨rfl, ⟨hP, hK, hZ⟩, hT⟩ := hv
  have hx := B.exec
  have hb := B.bytes
  have hts := atoms_spec (ws := w_SG_size) B.pre
  have hown : s.vm.findClass R_SG = some m.cls := findClass_of_methodNamed B.named
  have hlocks := B.notSynchronized
  have hP : va_P D vwCl [(hs, .inr (0, [.int (nI kf), .ref h0, .ref hz, .ref bo, .ref hb_, .ref hp, .int (pI sw)])), (hz, .inr (5, [.ref t1, .ref t2, .ref t3, .ref t4, .int (nI cn)]))] s.heap := hP
  have hl := lv_entry ([.ref hs, .int q1, .int q2, .int q3, .int q4]) (n := 5) (Nat.le_of_ble_eq_true rfl)
  rw [lg_entry_eq]
  generalize (lg_sl ([.ref hs, .int q1, .int q2, .int q3, .int q4]) ++ List.replicate (5 - (lg_sl ([.ref hs, .int q1, .int q2, .int q3, .int q4])).length) Slot.unset).toArray = ls at hl ⊢
  have hl : lv_has ls 5 [(0, .ref hs), (1, .int q1), (2, .int q2), (3, .int q3), (4, .int q4)] := hl
  refine lv_iload_n hx hb d_SG_size_0 rfl (lv_at hl 1 rfl) ?_
  refine lv_iconst (v := nI 1) hx hb d_SG_size_1 (by decide +kernel) ?_
  refine lv_bipush (v := nI 20) hx hb d_SG_size_2 (by decide +kernel) ?_
  refine kcallR (r := .int (pI (((1 : Nat) : Int) ≤ q1.toInt ∧ q1.toInt ≤ ((20 : Nat) : Int)))) (va_runS (As := [.int q1, .int (nI 1), .int (nI 20)]) (rest := []) ⟨hx, hb, hml, hown, hts⟩ (c_isWithin l D cI cJ cZ q1 (nI 1) (nI 20) q1.toInt ((1 : Nat) : Int) ((20 : Nat) : Int) rfl (nI_t (by omega)) (nI_t (by omega))) ⟨callB_of 3 hts (gd kc_SG_isWithin) rfl rfl rfl (hts _ (List.mem_cons_of_mem _ k_1)) (hts _ (List.mem_cons_of_mem _ k_313)) (by decide +kernel) ⟨Nat.le_of_ble_eq_true rfl, Nat.le_of_ble_eq_true rfl⟩, hts _ (List.mem_cons_of_mem _ k_280)⟩ ⟨kR_blind, kR_at hP hK hZ [] rfl⟩ rfl rfl hl.1 rfl (lv_room (Nat.le_of_ble_eq_true rfl)) d_SG_size_4 ⟨Nat.zero_le _, Nat.zero_le _⟩) ?_
  refine kb_eqP (tgt := 20) hx hb d_SG_size_7 (by decide) (fun c_7 => ?_) (fun c_7 => ?_)
  · exfalso; omega
  · refine lv_iload_n hx hb d_SG_size_10 rfl (lv_at hl 2 rfl) ?_
    refine lv_iconst (v := nI 1) hx hb d_SG_size_11 (by decide +kernel) ?_
    refine lv_bipush (v := nI 20) hx hb d_SG_size_12 (by decide +kernel) ?_
    refine kcallR (r := .int (pI (((1 : Nat) : Int) ≤ q2.toInt ∧ q2.toInt ≤ ((20 : Nat) : Int)))) (va_runS (As := [.int q2, .int (nI 1), .int (nI 20)]) (rest := []) ⟨hx, hb, hml, hown, hts⟩ (c_isWithin l D cI cJ cZ q2 (nI 1) (nI 20) q2.toInt ((1 : Nat) : Int) ((20 : Nat) : Int) rfl (nI_t (by omega)) (nI_t (by omega))) ⟨callB_of 3 hts (gd kc_SG_isWithin) rfl rfl rfl (hts _ (List.mem_cons_of_mem _ k_1)) (hts _ (List.mem_cons_of_mem _ k_313)) (by decide +kernel) ⟨Nat.le_of_ble_eq_true rfl, Nat.le_of_ble_eq_true rfl⟩, hts _ (List.mem_cons_of_mem _ k_280)⟩ ⟨kR_blind, kR_at hP hK hZ [] rfl⟩ rfl rfl hl.1 rfl (lv_room (Nat.le_of_ble_eq_true rfl)) d_SG_size_14 ⟨Nat.zero_le _, Nat.zero_le _⟩) ?_
    refine kb_neP (tgt := 30) hx hb d_SG_size_17 (by decide) (fun c_17 => ?_) (fun c_17 => ?_)
    · refine lv_iload_n hx hb d_SG_size_30 rfl (lv_at hl 3 rfl) ?_
      refine lv_iconst (v := nI 0) hx hb d_SG_size_31 (by decide +kernel) ?_
      refine lv_ldc (v := (100000 : Int32)) hx hb hown (hts _ (List.mem_cons_of_mem _ k_438)) d_SG_size_32 ?_
      refine ka_i (y := nI 100000) (by decide +kernel) ?_
      refine kcallR (r := .int (pI (((0 : Nat) : Int) ≤ q3.toInt ∧ q3.toInt ≤ ((100000 : Nat) : Int)))) (va_runS (As := [.int q3, .int (nI 0), .int (nI 100000)]) (rest := []) ⟨hx, hb, hml, hown, hts⟩ (c_isWithin l D cI cJ cZ q3 (nI 0) (nI 100000) q3.toInt ((0 : Nat) : Int) ((100000 : Nat) : Int) rfl (nI_t (by omega)) (nI_t (by omega))) ⟨callB_of 3 hts (gd kc_SG_isWithin) rfl rfl rfl (hts _ (List.mem_cons_of_mem _ k_1)) (hts _ (List.mem_cons_of_mem _ k_313)) (by decide +kernel) ⟨Nat.le_of_ble_eq_true rfl, Nat.le_of_ble_eq_true rfl⟩, hts _ (List.mem_cons_of_mem _ k_280)⟩ ⟨kR_blind, kR_at hP hK hZ [] rfl⟩ rfl rfl hl.1 rfl (lv_room (Nat.le_of_ble_eq_true rfl)) d_SG_size_34 ⟨Nat.zero_le _, Nat.zero_le _⟩) ?_
      refine kb_eqP (tgt := 52) hx hb d_SG_size_37 (by decide) (fun c_37 => ?_) (fun c_37 => ?_)
      · exfalso; omega
      · refine lv_iload hx hb d_SG_size_40 (lv_at hl 4 rfl) ?_
        refine lv_iconst (v := nI 0) hx hb d_SG_size_42 (by decide +kernel) ?_
        refine lv_sipush (v := nI 400) hx hb d_SG_size_43 (by decide +kernel) ?_
        refine kcallR (r := .int (pI (((0 : Nat) : Int) ≤ q4.toInt ∧ q4.toInt ≤ ((400 : Nat) : Int)))) (va_runS (As := [.int q4, .int (nI 0), .int (nI 400)]) (rest := []) ⟨hx, hb, hml, hown, hts⟩ (c_isWithin l D cI cJ cZ q4 (nI 0) (nI 400) q4.toInt ((0 : Nat) : Int) ((400 : Nat) : Int) rfl (nI_t (by omega)) (nI_t (by omega))) ⟨callB_of 3 hts (gd kc_SG_isWithin) rfl rfl rfl (hts _ (List.mem_cons_of_mem _ k_1)) (hts _ (List.mem_cons_of_mem _ k_313)) (by decide +kernel) ⟨Nat.le_of_ble_eq_true rfl, Nat.le_of_ble_eq_true rfl⟩, hts _ (List.mem_cons_of_mem _ k_280)⟩ ⟨kR_blind, kR_at hP hK hZ [] rfl⟩ rfl rfl hl.1 rfl (lv_room (Nat.le_of_ble_eq_true rfl)) d_SG_size_46 ⟨Nat.zero_le _, Nat.zero_le _⟩) ?_
        refine kb_neP (tgt := 62) hx hb d_SG_size_49 (by decide) (fun c_49 => ?_) (fun c_49 => ?_)
        · refine lv_aload_n hx hb d_SG_size_62 rfl (lv_at hl 0 rfl) ?_
          refine va_get (D := D) (ci := 0) (v := .ref hz) (C := R_SG) (T := T_SG) (N := 7) hx hb hts (fun w h => List.mem_cons_of_mem _ (iw_SG w h)) hown hK hP 0 rfl rfl 2 (by decide) (hts _ (List.mem_cons_of_mem _ k_180)) (fun _ h9 => h9) rfl d_SG_size_63 ?_
          refine va_get (D := D) (ci := 5) (v := .int (nI cn)) (C := R_Si) (T := T_Si) (N := 5) hx hb hts (fun w h => List.mem_cons_of_mem _ (iw_Si w h)) hown hK hP 1 rfl rfl 4 (by decide) (hts _ (List.mem_cons_of_mem _ k_74)) (fun _ h9 => h9) rfl d_SG_size_66 ?_
          refine lv_bipush (v := nI 8) hx hb d_SG_size_69 (by decide +kernel) ?_
          refine kb_clt (tgt := 84) (nI_t (by omega)) (nI_t (by omega)) hx hb d_SG_size_71 (by decide) (fun c_71 => ?_) (fun c_71 => ?_)
          · exfalso; omega
          · obtain ⟨sa, hsa⟩ := hT.2 (117, "there are 8 sizes") (by decide +kernel)
            exact xt_throwS (own := R_SG) (cls := "java/lang/IllegalStateException") (text := "there are 8 sizes") (names := thN) (ik := 115) (is := 117) (ic := 119) (sa := sa) hx hb hl9 hown th_fit.2.2.2 th_fit.1 (hts _ (List.mem_cons_of_mem _ k_440)) (hts _ (List.mem_cons_of_mem _ k_14)) hsa.1 hsa.2 (fun w hw => kT_args hT _ w (thW_3 w hw)) (hl.1.trans hml.symm) d_SG_size_74 d_SG_size_77 d_SG_size_78 d_SG_size_80 d_SG_size_83 hne (Nat.le_of_ble_eq_true rfl) (Nat.le_of_ble_eq_true rfl) (Nat.le_of_ble_eq_true rfl) (Nat.le_of_ble_eq_true rfl) hlocks
        · exfalso; omega
    · exfalso; omega
set_option maxHeartbeats 4000000 in
set_option maxRecDepth 100000 in
theorem x_worth (l : Launch) (hl9 : l.stackTraces = false) (D : va_G) (cI cJ cZ : ClassId) (hs : Nat) (kf : Nat) (h0 : Nat) (hz : Nat) (bo : Nat) (hb_ : Nat) (hp : Nat) (sw : Prop) (x : Int32) (bad : ¬ (0 ≤ x.toInt ∧ x.toInt ≤ 1)) : xt_Met l y_SG_worth w_SG_worth ({ frames := 6, cells := 1, slots := 6, locals := 82 }) (va_Pc [.ref hs, .int x] (kTh D vwCl (tyL cI cJ cZ) [(hs, .inr (0, [.int (nI kf), .ref h0, .ref hz, .ref bo, .ref hb_, .ref hp, .int (pI sw)]))])) (xE "java/lang/IndexOutOfBoundsException") 1 6 (fun _ => False) := by
  refine xt_ofW (cc := b_SG_worth) (maxL := 2) (ret := (some (.int))) (by decide) rfl ?_
  intro p e s m args below meth c s₁ B hml hne hv
  obtain ⟨rfl, ⟨hP, hK, hZ⟩, hT⟩ := hv
  have hx := B.exec
  have hb := B.bytes
  have hts := atoms_spec (ws := w_SG_worth) B.pre
  have hown : s.vm.findClass R_SG = some m.cls := findClass_of_methodNamed B.named
  have hlocks := B.notSynchronized
  have hP : va_P D vwCl [(hs, .inr (0, [.int (nI kf), .ref h0, .ref hz, .ref bo, .ref hb_, .ref hp, .int (pI sw)]))] s.heap := hP
  have hl := lv_entry ([.ref hs, .int x]) (n := 2) (Nat.le_of_ble_eq_true rfl)
  rw [lg_entry_eq]
  generalize (lg_sl ([.ref hs, .int x]) ++ List.replicate (2 - (lg_sl ([.ref hs, .int x])).length) Slot.unset).toArray = ls at hl ⊢
  have hl : lv_has ls 2 [(0, .ref hs), (1, .int x)] := hl
  refine lv_iload_n hx hb d_SG_worth_0 rfl (lv_at hl 1 rfl) ?_
  refine kcallR (r := .int (pI (0 ≤ x.toInt ∧ x.toInt ≤ 1))) (va_runS (As := [.int x]) (rest := []) ⟨hx, hb, hml, hown, hts⟩ (c_isTurn l D cI cJ cZ x ) ⟨callB_of 1 hts (gd kc_SG_isTurn) rfl rfl rfl (hts _ (List.mem_cons_of_mem _ k_1)) (hts _ (List.mem_cons_of_mem _ k_500)) (by decide +kernel) ⟨Nat.le_of_ble_eq_true rfl, Nat.le_of_ble_eq_true rfl⟩, hts _ (List.mem_cons_of_mem _ k_501)⟩ ⟨kR_blind, kR_at hP hK hZ [] rfl⟩ rfl rfl hl.1 rfl (lv_room (Nat.le_of_ble_eq_true rfl)) d_SG_worth_1 ⟨Nat.zero_le _, Nat.zero_le _⟩) ?_
  refine kb_neP (tgt := 17) hx hb d_SG_worth_4 (by decide) (fun c_4 => ?_) (fun c_4 => ?_)
  · exfalso; omega
  · obtain ⟨sa, hsa⟩ := hT.2 (180, "no such turn") (by decide +kernel)
    exact xt_throwS (own := R_SG) (cls := "java/lang/IndexOutOfBoundsException") (text := "no such turn") (names := thN) (ik := 71) (is := 180) (ic := 75) (sa := sa) hx hb hl9 hown th_fit.2.1 th_fit.1 (hts _ (List.mem_cons_of_mem _ k_319)) (hts _ (List.mem_cons_of_mem _ k_12)) hsa.1 hsa.2 (fun w hw => kT_args hT _ w (thW_1 w hw)) (hl.1.trans hml.symm) d_SG_worth_7 d_SG_worth_10 d_SG_worth_11 d_SG_worth_13 d_SG_worth_16 hne (Nat.le_of_ble_eq_true rfl) (Nat.le_of_ble_eq_true rfl) (Nat.le_of_ble_eq_true rfl) (Nat.le_of_ble_eq_true rfl) hlocks
set_option maxHeartbeats 4000000 in
set_option maxRecDepth 100000 in
theorem x_may (l : Launch) (hl9 : l.stackTraces = false) (D : va_G) (cI cJ cZ : ClassId) (hs : Nat) (kf : Nat) (h0 : Nat) (hz : Nat) (bo : Nat) (hb_ : Nat) (hp : Nat) (sw : Prop) (t1 : Nat) (t2 : Nat) (t3 : Nat) (t4 : Nat) (cn : Nat) (i : Int32) (x : Int32) (y : Int32) (tq : Int32) (n1 : cn ≤ 8) (bad : ¬ ((0 ≤ i.toInt ∧ i.toInt < (cn : Int)) ∧ 0 ≤ tq.toInt ∧ tq.toInt ≤ 1)) : xt_Met l y_SG_may w_SG_may ({ frames := 6, cells := 1, slots := 6, locals := 82 }) (va_Pc [.ref hs, .int i, .int x, .int y, .int tq] (kTh D vwCl (tyL cI cJ cZ) [(hs, .inr (0, [.int (nI kf), .ref h0, .ref hz, .ref bo, .ref hb_, .ref hp, .int (pI sw)])), (hz, .inr (5, [.ref t1, .ref t2, .ref t3, .ref t4, .int (nI cn)]))])) (xE "java/lang/IndexOutOfBoundsException") 1 6 (fun _ => False) := by
  refine xt_ofW (cc := b_SG_may) (maxL := 5) (ret := (some (.boolean))) (by decide) rfl ?_
  intro p e s m args below meth c s₁ B hml hne hv
  obtain ⟨rfl, ⟨hP, hK, hZ⟩, hT⟩ := hv
  have hx := B.exec
  have hb := B.bytes
  have hts := atoms_spec (ws := w_SG_may) B.pre
  have hown : s.vm.findClass R_SG = some m.cls := findClass_of_methodNamed B.named
  have hlocks := B.notSynchronized
  have hP : va_P D vwCl [(hs, .inr (0, [.int (nI kf), .ref h0, .ref hz, .ref bo, .ref hb_, .ref hp, .int (pI sw)])), (hz, .inr (5, [.ref t1, .ref t2, .ref t3, .ref t4, .int (nI cn)]))] s.heap := hP
  have hl := lv_entry ([.ref hs, .int i, .int x, .int y, .int tq]) (n := 5) (Nat.le_of_ble_eq_true rfl)
  rw [lg_entry_eq]
  generalize (lg_sl ([.ref hs, .int i, .int x, .int y, .int tq]) ++ List.replicate (5 - (lg_sl ([.ref hs, .int i, .int x, .int y, .int tq])).length) Slot.unset).toArray = ls at hl ⊢
  have hl : lv_has ls 5 [(0, .ref hs), (1, .int i), (2, .int x), (3, .int y), (4, .int tq)] := hl
  refine lv_aload_n hx hb d_SG_may_0 rfl (lv_at hl 0 rfl) ?_
  refine va_get (D := D) (ci := 0) (v := .ref hz) (C := R_SG) (T := T_SG) (N := 7) hx hb hts (fun w h => List.mem_cons_of_mem _ (iw_SG w h)) hown hK hP 0 rfl rfl 2 (by decide) (hts _ (List.mem_cons_of_mem _ k_180)) (fun _ h9 => h9) rfl d_SG_may_1 ?_
  refine lv_iload_n hx hb d_SG_may_4 rfl (lv_at hl 1 rfl) ?_
  refine kcallR (r := .int (pI (0 ≤ i.toInt ∧ i.toInt < (cn : Int)))) (va_runV (As := [.int i]) (rest := []) ⟨hx, hb, hml, hown, hts⟩ (c_has l D cI cJ cZ hz t1 t2 t3 t4 cn i (by omega)) ⟨callB_of 1 hts (gd kc_Si_has) rfl rfl rfl (hts _ (List.mem_cons_of_mem _ k_4)) (hts _ (List.mem_cons_of_mem _ k_525)) (by decide +kernel) ⟨Nat.le_of_ble_eq_true rfl, Nat.le_of_ble_eq_true rfl⟩, hts _ (List.mem_cons_of_mem _ k_276), hts _ (List.mem_cons_of_mem _ k_277)⟩ ⟨kR_blind, va_recv hK hP (ci := 5) (q0 := 1) rfl rfl, kR_at hP hK hZ [1] rfl⟩ rfl rfl hl.1 rfl (lv_room (Nat.le_of_ble_eq_true rfl)) d_SG_may_5 ⟨Nat.zero_le _, Nat.zero_le _⟩) ?_
  refine kb_eqP (tgt := 19) hx hb d_SG_may_8 (by decide) (fun c_8 => ?_) (fun c_8 => ?_)
  · obtain ⟨sa, hsa⟩ := hT.2 (201, "no such size or turn") (by decide +kernel)
    exact xt_throwS (own := R_SG) (cls := "java/lang/IndexOutOfBoundsException") (text := "no such size or turn") (names := thN) (ik := 71) (is := 201) (ic := 75) (sa := sa) hx hb hl9 hown th_fit.2.1 th_fit.1 (hts _ (List.mem_cons_of_mem _ k_319)) (hts _ (List.mem_cons_of_mem _ k_12)) hsa.1 hsa.2 (fun w hw => kT_args hT _ w (thW_1 w hw)) (hl.1.trans hml.symm) d_SG_may_19 d_SG_may_22 d_SG_may_23 d_SG_may_25 d_SG_may_28 hne (Nat.le_of_ble_eq_true rfl) (Nat.le_of_ble_eq_true rfl) (Nat.le_of_ble_eq_true rfl) (Nat.le_of_ble_eq_true rfl) hlocks
  · refine lv_iload hx hb d_SG_may_11 (lv_at hl 4 rfl) ?_
    refine kcallR (r := .int (pI (0 ≤ tq.toInt ∧ tq.toInt ≤ 1))) (va_runS (As := [.int tq]) (rest := []) ⟨hx, hb, hml, hown, hts⟩ (c_isTurn l D cI cJ cZ tq ) ⟨callB_of 1 hts (gd kc_SG_isTurn) rfl rfl rfl (hts _ (List.mem_cons_of_mem _ k_1)) (hts _ (List.mem_cons_of_mem _ k_500)) (by decide +kernel) ⟨Nat.le_of_ble_eq_true rfl, Nat.le_of_ble_eq_true rfl⟩, hts _ (List.mem_cons_of_mem _ k_501)⟩ ⟨kR_blind, kR_at hP hK hZ [] rfl⟩ rfl rfl hl.1 rfl (lv_room (Nat.le_of_ble_eq_true rfl)) d_SG_may_13 ⟨Nat.zero_le _, Nat.zero_le _⟩) ?_
    refine kb_neP (tgt := 29) hx hb d_SG_may_16 (by decide) (fun c_16 => ?_) (fun c_16 => ?_)
    · exfalso; omega
    · obtain ⟨sa, hsa⟩ := hT.2 (201, "no such size or turn") (by decide +kernel)
      exact xt_throwS (own := R_SG) (cls := "java/lang/IndexOutOfBoundsException") (text := "no such size or turn") (names := thN) (ik := 71) (is := 201) (ic := 75) (sa := sa) hx hb hl9 hown th_fit.2.1 th_fit.1 (hts _ (List.mem_cons_of_mem _ k_319)) (hts _ (List.mem_cons_of_mem _ k_12)) hsa.1 hsa.2 (fun w hw => kT_args hT _ w (thW_1 w hw)) (hl.1.trans hml.symm) d_SG_may_19 d_SG_may_22 d_SG_may_23 d_SG_may_25 d_SG_may_28 hne (Nat.le_of_ble_eq_true rfl) (Nat.le_of_ble_eq_true rfl) (Nat.le_of_ble_eq_true rfl) (Nat.le_of_ble_eq_true rfl) hlocks
set_option maxHeartbeats 4000000 in
set_option maxRecDepth 100000 in
theorem x_all1 (l : Launch) (hl9 : l.stackTraces = false) (D : va_G) (cI cJ cZ : ClassId) (hs : Nat) (kf : Nat) (h0 : Nat) (hz : Nat) (bo : Nat) (hb_ : Nat) (hp : Nat) (sw : Prop) (x : Int32) (hsw : ¬ sw) : xt_Met l y_SG_all w_SG_all ({ frames := 7, cells := 1, slots := 6, locals := 102 }) (va_Pc [.ref hs, .int x] (kTh D vwCl (tyL cI cJ cZ) [(hs, .inr (0, [.int (nI kf), .ref h0, .ref hz, .ref bo, .ref hb_, .ref hp, .int (pI sw)]))])) (xE "java/lang/IllegalStateException") 1 6 (fun _ => False) := by
  refine xt_ofW (cc := b_SG_all) (maxL := 2) (ret := (some (.int))) (by decide) rfl ?_
  intro p e s m args below meth c s₁ B hml hne hv
  obtain ⟨rfl, ⟨hP, hK, hZ⟩, hT⟩ := hv
  have hx := B.exec
  have hb := B.bytes
  have hts := atoms_spec (ws := w_SG_all) B.pre
  have hown : s.vm.findClass R_SG = some m.cls := findClass_of_methodNamed B.named
  have hlocks := B.notSynchronized
  have hP : va_P D vwCl [(hs, .inr (0, [.int (nI kf), .ref h0, .ref hz, .ref bo, .ref hb_, .ref hp, .int (pI sw)]))] s.heap := hP
  have hl := lv_entry ([.ref hs, .int x]) (n := 2) (Nat.le_of_ble_eq_true rfl)
  rw [lg_entry_eq]
  generalize (lg_sl ([.ref hs, .int x]) ++ List.replicate (2 - (lg_sl ([.ref hs, .int x])).length) Slot.unset).toArray = ls at hl ⊢
  have hl : lv_has ls 2 [(0, .ref hs), (1, .int x)] := hl
  refine lv_aload_n hx hb d_SG_all_0 rfl (lv_at hl 0 rfl) ?_
  exact xt_pass (rest := []) (xt_runV (As := []) (rest := []) ⟨hx, hb, hml, hown, hts⟩ (x_refuseUnsawn l hl9 D cI cJ cZ hs kf h0 hz bo hb_ hp sw hsw) ⟨callB_of 0 hts (gd kc_SG_refuseUnsawn) rfl rfl rfl (hts _ (List.mem_cons_of_mem _ k_1)) (hts _ (List.mem_cons_of_mem _ k_467)) (by decide +kernel) ⟨Nat.le_of_ble_eq_true rfl, Nat.le_of_ble_eq_true rfl⟩, hts _ (List.mem_cons_of_mem _ k_469), hts _ (List.mem_cons_of_mem _ ks_9)⟩ ⟨kTh_blind, va_recv hK hP (ci := 0) (q0 := 0) rfl rfl, kTh_at hP hK hZ hT [0] rfl⟩ rfl rfl hl.1 rfl (lv_room (Nat.le_of_ble_eq_true rfl)) d_SG_all_1 ⟨Nat.le_of_ble_eq_true rfl, Nat.le_of_ble_eq_true rfl⟩) hne hlocks
set_option maxHeartbeats 4000000 in
set_option maxRecDepth 100000 in
theorem x_yields1 (l : Launch) (hl9 : l.stackTraces = false) (D : va_G) (cI cJ cZ : ClassId) (hs : Nat) (kf : Nat) (h0 : Nat) (hz : Nat) (bo : Nat) (hb_ : Nat) (hp : Nat) (sw : Prop) (x : Int32) (hsw : ¬ sw) : xt_Met l y_SG_yields w_SG_yields ({ frames := 7, cells := 1, slots := 6, locals := 102 }) (va_Pc [.ref hs, .int x] (kTh D vwCl (tyL cI cJ cZ) [(hs, .inr (0, [.int (nI kf), .ref h0, .ref hz, .ref bo, .ref hb_, .ref hp, .int (pI sw)]))])) (xE "java/lang/IllegalStateException") 1 6 (fun _ => False) := by
  refine xt_ofW (cc := b_SG_yields) (maxL := 4) (ret := (some (.int))) (by decide) rfl ?_
  intro p e s m args below meth c s₁ B hml hne hv
  obtain ⟨rfl, ⟨hP, hK, hZ⟩, hT⟩ := hv
  have hx := B.exec
  have hb := B.bytes
  have hts := atoms_spec (ws := w_SG_yields) B.pre
  have hown : s.vm.findClass R_SG = some m.cls := findClass_of_methodNamed B.named
  have hlocks := B.notSynchronized
  have hP : va_P D vwCl [(hs, .inr (0, [.int (nI kf), .ref h0, .ref hz, .ref bo, .ref hb_, .ref hp, .int (pI sw)]))] s.heap := hP
  have hl := lv_entry ([.ref hs, .int x]) (n := 4) (Nat.le_of_ble_eq_true rfl)
  rw [lg_entry_eq]
  generalize (lg_sl ([.ref hs, .int x]) ++ List.replicate (4 - (lg_sl ([.ref hs, .int x])).length) Slot.unset).toArray = ls at hl ⊢
  have hl : lv_has ls 4 [(0, .ref hs), (1, .int x)] := hl
  refine lv_aload_n hx hb d_SG_yields_0 rfl (lv_at hl 0 rfl) ?_
  exact xt_pass (rest := []) (xt_runV (As := []) (rest := []) ⟨hx, hb, hml, hown, hts⟩ (x_refuseUnsawn l hl9 D cI cJ cZ hs kf h0 hz bo hb_ hp sw hsw) ⟨callB_of 0 hts (gd kc_SG_refuseUnsawn) rfl rfl rfl (hts _ (List.mem_cons_of_mem _ k_1)) (hts _ (List.mem_cons_of_mem _ k_467)) (by decide +kernel) ⟨Nat.le_of_ble_eq_true rfl, Nat.le_of_ble_eq_true rfl⟩, hts _ (List.mem_cons_of_mem _ k_469), hts _ (List.mem_cons_of_mem _ ks_9)⟩ ⟨kTh_blind, va_recv hK hP (ci := 0) (q0 := 0) rfl rfl, kTh_at hP hK hZ hT [0] rfl⟩ rfl rfl hl.1 rfl (lv_room (Nat.le_of_ble_eq_true rfl)) d_SG_yields_1 ⟨Nat.le_of_ble_eq_true rfl, Nat.le_of_ble_eq_true rfl⟩) hne hlocks
set_option maxHeartbeats 4000000 in
set_option maxRecDepth 100000 in
theorem x_board1 (l : Launch) (hl9 : l.stackTraces = false) (D : va_G) (cI cJ cZ : ClassId) (hs : Nat) (kf : Nat) (h0 : Nat) (hz : Nat) (bo : Nat) (hb_ : Nat) (hp : Nat) (sw : Prop) (x : Int32) (y : Int32) (hsw : ¬ sw) : xt_Met l y_SG_board w_SG_board ({ frames := 7, cells := 1, slots := 6, locals := 102 }) (va_Pc [.ref hs, .int x, .int y] (kTh D vwCl (tyL cI cJ cZ) [(hs, .inr (0, [.int (nI kf), .ref h0, .ref hz, .ref bo, .ref hb_, .ref hp, .int (pI sw)]))])) (xE "java/lang/IllegalStateException") 1 6 (fun _ => False) := by
  refine xt_ofW (cc := b_SG_board) (maxL := 6) (ret := (some (.int))) (by decide) rfl ?_
  intro p e s m args below meth c s₁ B hml hne hv
  obtain ⟨rfl, ⟨hP, hK, hZ⟩, hT⟩ := hv
  have hx := B.exec
  have hb := B.bytes
  have hts := atoms_spec (ws := w_SG_board) B.pre
  have hown : s.vm.findClass R_SG = some m.cls := findClass_of_methodNamed B.named
  have hlocks := B.notSynchronized
  have hP : va_P D vwCl [(hs, .inr (0, [.int (nI kf), .ref h0, .ref hz, .ref bo, .ref hb_, .ref hp, .int (pI sw)]))] s.heap := hP
  have hl := lv_entry ([.ref hs, .int x, .int y]) (n := 6) (Nat.le_of_ble_eq_true rfl)
  rw [lg_entry_eq]
  generalize (lg_sl ([.ref hs, .int x, .int y]) ++ List.replicate (6 - (lg_sl ([.ref hs, .int x, .int y])).length) Slot.unset).toArray = ls at hl ⊢
  have hl : lv_has ls 6 [(0, .ref hs), (1, .int x), (2, .int y)] := hl
  refine lv_aload_n hx hb d_SG_board_0 rfl (lv_at hl 0 rfl) ?_
  exact xt_pass (rest := []) (xt_runV (As := []) (rest := []) ⟨hx, hb, hml, hown, hts⟩ (x_refuseUnsawn l hl9 D cI cJ cZ hs kf h0 hz bo hb_ hp sw hsw) ⟨callB_of 0 hts (gd kc_SG_refuseUnsawn) rfl rfl rfl (hts _ (List.mem_cons_of_mem _ k_1)) (hts _ (List.mem_cons_of_mem _ k_467)) (by decide +kernel) ⟨Nat.le_of_ble_eq_true rfl, Nat.le_of_ble_eq_true rfl⟩, hts _ (List.mem_cons_of_mem _ k_469), hts _ (List.mem_cons_of_mem _ ks_9)⟩ ⟨kTh_blind, va_recv hK hP (ci := 0) (q0 := 0) rfl rfl, kTh_at hP hK hZ hT [0] rfl⟩ rfl rfl hl.1 rfl (lv_room (Nat.le_of_ble_eq_true rfl)) d_SG_board_1 ⟨Nat.le_of_ble_eq_true rfl, Nat.le_of_ble_eq_true rfl⟩) hne hlocks
set_option maxHeartbeats 4000000 in
set_option maxRecDepth 100000 in
theorem x_apart1 (l : Launch) (hl9 : l.stackTraces = false) (D : va_G) (cI cJ cZ : ClassId) (hs : Nat) (kf : Nat) (h0 : Nat) (hz : Nat) (bo : Nat) (hb_ : Nat) (hp : Nat) (sw : Prop) (x : Int32) (y : Int32) (hsw : ¬ sw) : xt_Met l y_SG_apart w_SG_apart ({ frames := 7, cells := 1, slots := 6, locals := 102 }) (va_Pc [.ref hs, .int x, .int y] (kTh D vwCl (tyL cI cJ cZ) [(hs, .inr (0, [.int (nI kf), .ref h0, .ref hz, .ref bo, .ref hb_, .ref hp, .int (pI sw)]))])) (xE "java/lang/IllegalStateException") 1 6 (fun _ => False) := by
  refine xt_ofW (cc := b_SG_apart) (maxL := 5) (ret := (some (.boolean))) (by decide) rfl ?_
  intro p e s m args below meth c s₁ B hml hne hv
  obtain ⟨rfl, ⟨hP, hK, hZ⟩, hT⟩ := hv
  have hx := B.exec
  have hb := B.bytes
  have hts := atoms_spec (ws := w_SG_apart) B.pre
  have hown : s.vm.findClass R_SG = some m.cls := findClass_of_methodNamed B.named
  have hlocks := B.notSynchronized
  have hP : va_P D vwCl [(hs, .inr (0, [.int (nI kf), .ref h0, .ref hz, .ref bo, .ref hb_, .ref hp, .int (pI sw)]))] s.heap := hP
  have hl := lv_entry ([.ref hs, .int x, .int y]) (n := 5) (Nat.le_of_ble_eq_true rfl)
  rw [lg_entry_eq]
  generalize (lg_sl ([.ref hs, .int x, .int y]) ++ List.replicate (5 - (lg_sl ([.ref hs, .int x, .int y])).length) Slot.unset).toArray = ls at hl ⊢
  have hl : lv_has ls 5 [(0, .ref hs), (1, .int x), (2, .int y)] := hl
  refine lv_aload_n hx hb d_SG_apart_0 rfl (lv_at hl 0 rfl) ?_
  exact xt_pass (rest := []) (xt_runV (As := []) (rest := []) ⟨hx, hb, hml, hown, hts⟩ (x_refuseUnsawn l hl9 D cI cJ cZ hs kf h0 hz bo hb_ hp sw hsw) ⟨callB_of 0 hts (gd kc_SG_refuseUnsawn) rfl rfl rfl (hts _ (List.mem_cons_of_mem _ k_1)) (hts _ (List.mem_cons_of_mem _ k_467)) (by decide +kernel) ⟨Nat.le_of_ble_eq_true rfl, Nat.le_of_ble_eq_true rfl⟩, hts _ (List.mem_cons_of_mem _ k_469), hts _ (List.mem_cons_of_mem _ ks_9)⟩ ⟨kTh_blind, va_recv hK hP (ci := 0) (q0 := 0) rfl rfl, kTh_at hP hK hZ hT [0] rfl⟩ rfl rfl hl.1 rfl (lv_room (Nat.le_of_ble_eq_true rfl)) d_SG_apart_1 ⟨Nat.le_of_ble_eq_true rfl, Nat.le_of_ble_eq_true rfl⟩) hne hlocks
set_option maxHeartbeats 4000000 in
set_option maxRecDepth 100000 in
theorem x_yields2 (l : Launch) (hl9 : l.stackTraces = false) (D : va_G) (cI cJ cZ : ClassId) (hs : Nat) (kf : Nat) (h0 : Nat) (hz : Nat) (bo : Nat) (hb_ : Nat) (hp : Nat) (sw : Prop) (x : Int32) (hsw : sw) (bad : ¬ (0 ≤ x.toInt ∧ x.toInt ≤ 1)) : xt_Met l y_SG_yields w_SG_yields ({ frames := 6, cells := 1, slots := 6, locals := 82 }) (va_Pc [.ref hs, .int x] (kTh D vwCl (tyL cI cJ cZ) [(hs, .inr (0, [.int (nI kf), .ref h0, .ref hz, .ref bo, .ref hb_, .ref hp, .int (pI sw)]))])) (xE "java/lang/IndexOutOfBoundsException") 1 6 (fun _ => False) := by
  refine xt_ofW (cc := b_SG_yields) (maxL := 4) (ret := (some (.int))) (by decide) rfl ?_
  intro p e s m args below meth c s₁ B hml hne hv
  obtain ⟨rfl, ⟨hP, hK, hZ⟩, hT⟩ := hv
  have hx := B.exec
  have hb := B.bytes
  have hts := atoms_spec (ws := w_SG_yields) B.pre
  have hown : s.vm.findClass R_SG = some m.cls := findClass_of_methodNamed B.named
  have hlocks := B.notSynchronized
  have hP : va_P D vwCl [(hs, .inr (0, [.int (nI kf), .ref h0, .ref hz, .ref bo, .ref hb_, .ref hp, .int (pI sw)]))] s.heap := hP
  have hl := lv_entry ([.ref hs, .int x]) (n := 4) (Nat.le_of_ble_eq_true rfl)
  rw [lg_entry_eq]
  generalize (lg_sl ([.ref hs, .int x]) ++ List.replicate (4 - (lg_sl ([.ref hs, .int x])).length) Slot.unset).toArray = ls at hl ⊢
  have hl : lv_has ls 4 [(0, .ref hs), (1, .int x)] := hl
  refine lv_aload_n hx hb d_SG_yields_0 rfl (lv_at hl 0 rfl) ?_
  refine kcallRV (va_runV (As := []) (rest := []) ⟨hx, hb, hml, hown, hts⟩ (c_refuseUnsawn l D cI cJ cZ hs kf h0 hz bo hb_ hp sw hsw) ⟨callB_of 0 hts (gd kc_SG_refuseUnsawn) rfl rfl rfl (hts _ (List.mem_cons_of_mem _ k_1)) (hts _ (List.mem_cons_of_mem _ k_467)) (by decide +kernel) ⟨Nat.le_of_ble_eq_true rfl, Nat.le_of_ble_eq_true rfl⟩, hts _ (List.mem_cons_of_mem _ k_469), hts _ (List.mem_cons_of_mem _ ks_9)⟩ ⟨kR_blind, va_recv hK hP (ci := 0) (q0 := 0) rfl rfl, kR_at hP hK hZ [0] rfl⟩ rfl rfl hl.1 rfl (lv_room (Nat.le_of_ble_eq_true rfl)) d_SG_yields_1 ⟨Nat.zero_le _, Nat.zero_le _⟩) ?_
  refine lv_iload_n hx hb d_SG_yields_4 rfl (lv_at hl 1 rfl) ?_
  refine lv_iconst (v := nI 0) hx hb d_SG_yields_5 (by decide +kernel) ?_
  refine lv_iconst (v := nI 1) hx hb d_SG_yields_6 (by decide +kernel) ?_
  refine kcallR (r := .int (pI (((0 : Nat) : Int) ≤ x.toInt ∧ x.toInt ≤ ((1 : Nat) : Int)))) (va_runS (As := [.int x, .int (nI 0), .int (nI 1)]) (rest := []) ⟨hx, hb, hml, hown, hts⟩ (c_isWithin l D cI cJ cZ x (nI 0) (nI 1) x.toInt ((0 : Nat) : Int) ((1 : Nat) : Int) rfl (nI_t (by omega)) (nI_t (by omega))) ⟨callB_of 3 hts (gd kc_SG_isWithin) rfl rfl rfl (hts _ (List.mem_cons_of_mem _ k_1)) (hts _ (List.mem_cons_of_mem _ k_313)) (by decide +kernel) ⟨Nat.le_of_ble_eq_true rfl, Nat.le_of_ble_eq_true rfl⟩, hts _ (List.mem_cons_of_mem _ k_280)⟩ ⟨kR_blind, kR_at hP hK hZ [] rfl⟩ rfl rfl hl.1 rfl (lv_room (Nat.le_of_ble_eq_true rfl)) d_SG_yields_7 ⟨Nat.zero_le _, Nat.zero_le _⟩) ?_
  refine kb_neP (tgt := 23) hx hb d_SG_yields_10 (by decide) (fun c_10 => ?_) (fun c_10 => ?_)
  · exfalso; omega
  · obtain ⟨sa, hsa⟩ := hT.2 (186, "no such part") (by decide +kernel)
    exact xt_throwS (own := R_SG) (cls := "java/lang/IndexOutOfBoundsException") (text := "no such part") (names := thN) (ik := 71) (is := 186) (ic := 75) (sa := sa) hx hb hl9 hown th_fit.2.1 th_fit.1 (hts _ (List.mem_cons_of_mem _ k_319)) (hts _ (List.mem_cons_of_mem _ k_12)) hsa.1 hsa.2 (fun w hw => kT_args hT _ w (thW_1 w hw)) (hl.1.trans hml.symm) d_SG_yields_13 d_SG_yields_16 d_SG_yields_17 d_SG_yields_19 d_SG_yields_22 hne (Nat.le_of_ble_eq_true rfl) (Nat.le_of_ble_eq_true rfl) (Nat.le_of_ble_eq_true rfl) (Nat.le_of_ble_eq_true rfl) hlocks
set_option maxHeartbeats 4000000 in
set_option maxRecDepth 100000 in
theorem x_board2 (l : Launch) (hl9 : l.stackTraces = false) (D : va_G) (cI cJ cZ : ClassId) (hs : Nat) (kf : Nat) (h0 : Nat) (hz : Nat) (bo : Nat) (hb_ : Nat) (hp : Nat) (sw : Prop) (p1 : Nat) (p2 : Nat) (p3 : Nat) (pt : Nat) (psl : Nat) (pc_ : Nat) (pv : Int) (pce : Nat) (x : Int32) (y : Int32) (hsw : sw) (hk : ¬ (0 ≤ x.toInt ∧ x.toInt < (pc_ : Int))) (hc : pc_ ≤ 400) : xt_Met l y_SG_board w_SG_board ({ frames := 7, cells := 1, slots := 6, locals := 103 }) (va_Pc [.ref hs, .int x, .int y] (kTh D vwCl (tyL cI cJ cZ) [(hs, .inr (0, [.int (nI kf), .ref h0, .ref hz, .ref bo, .ref hb_, .ref hp, .int (pI sw)])), (hp, .inr (4, [.ref p1, .ref p2, .ref p3, .int (nI pt), .int (nI psl), .int (nI pc_), .int (iI pv), .int (nI pce)]))])) (xE "java/lang/IndexOutOfBoundsException") 1 6 (fun _ => False) := by
  refine xt_ofW (cc := b_SG_board) (maxL := 6) (ret := (some (.int))) (by decide) rfl ?_
  intro p e s m args below meth c s₁ B hml hne hv
  obtain ⟨rfl, ⟨hP, hK, hZ⟩, hT⟩ := hv
  have hx := B.exec
  have hb := B.bytes
  have hts := atoms_spec (ws := w_SG_board) B.pre
  have hown : s.vm.findClass R_SG = some m.cls := findClass_of_methodNamed B.named
  have hlocks := B.notSynchronized
  have hP : va_P D vwCl [(hs, .inr (0, [.int (nI kf), .ref h0, .ref hz, .ref bo, .ref hb_, .ref hp, .int (pI sw)])), (hp, .inr (4, [.ref p1, .ref p2, .ref p3, .int (nI pt), .int (nI psl), .int (nI pc_), .int (iI pv), .int (nI pce)]))] s.heap := hP
  have hl := lv_entry ([.ref hs, .int x, .int y]) (n := 6) (Nat.le_of_ble_eq_true rfl)
  rw [lg_entry_eq]
  generalize (lg_sl ([.ref hs, .int x, .int y]) ++ List.replicate (6 - (lg_sl ([.ref hs, .int x, .int y])).length) Slot.unset).toArray = ls at hl ⊢
  have hl : lv_has ls 6 [(0, .ref hs), (1, .int x), (2, .int y)] := hl
  refine lv_aload_n hx hb d_SG_board_0 rfl (lv_at hl 0 rfl) ?_
  refine kcallRV (va_runV (As := []) (rest := []) ⟨hx, hb, hml, hown, hts⟩ (c_refuseUnsawn l D cI cJ cZ hs kf h0 hz bo hb_ hp sw hsw) ⟨callB_of 0 hts (gd kc_SG_refuseUnsawn) rfl rfl rfl (hts _ (List.mem_cons_of_mem _ k_1)) (hts _ (List.mem_cons_of_mem _ k_467)) (by decide +kernel) ⟨Nat.le_of_ble_eq_true rfl, Nat.le_of_ble_eq_true rfl⟩, hts _ (List.mem_cons_of_mem _ k_469), hts _ (List.mem_cons_of_mem _ ks_9)⟩ ⟨kR_blind, va_recv hK hP (ci := 0) (q0 := 0) rfl rfl, kR_at hP hK hZ [0] rfl⟩ rfl rfl hl.1 rfl (lv_room (Nat.le_of_ble_eq_true rfl)) d_SG_board_1 ⟨Nat.zero_le _, Nat.zero_le _⟩) ?_
  refine lv_aload_n hx hb d_SG_board_4 rfl (lv_at hl 0 rfl) ?_
  refine lv_iload_n hx hb d_SG_board_5 rfl (lv_at hl 1 rfl) ?_
  exact xt_pass (rest := []) (xt_runV (As := [.int x]) (rest := []) ⟨hx, hb, hml, hown, hts⟩ (x_refuseNoBoard l hl9 D cI cJ cZ hs kf h0 hz bo hb_ hp sw p1 p2 p3 pt psl pc_ pv pce x hk hc) ⟨callB_of 1 hts (gd kc_SG_refuseNoBoard) rfl rfl rfl (hts _ (List.mem_cons_of_mem _ k_1)) (hts _ (List.mem_cons_of_mem _ k_472)) (by decide +kernel) ⟨Nat.le_of_ble_eq_true rfl, Nat.le_of_ble_eq_true rfl⟩, hts _ (List.mem_cons_of_mem _ k_474), hts _ (List.mem_cons_of_mem _ ks_10)⟩ ⟨kTh_blind, va_recv hK hP (ci := 0) (q0 := 0) rfl rfl, kTh_at hP hK hZ hT [0, 1] rfl⟩ rfl rfl hl.1 rfl (lv_room (Nat.le_of_ble_eq_true rfl)) d_SG_board_6 ⟨Nat.le_of_ble_eq_true rfl, Nat.le_of_ble_eq_true rfl⟩) hne hlocks
