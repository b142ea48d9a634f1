def thN : List String := ["java/lang/RuntimeException", "java/lang/Exception"]
def thW : List Cond := Bundle.ownAtoms "SawGrids" 75 "java/lang/IndexOutOfBoundsException" thN ++ (Bundle.ownAtoms "SawGrids" 99 "java/lang/IllegalArgumentException" thN ++ Bundle.ownAtoms "SawGrids" 119 "java/lang/IllegalStateException" thN)
/-- the words that speak of the heap -/
def thH : List Cond := [.isRef (.static "java/lang/Throwable" "UNASSIGNED_STACK" "[Ljava/lang/StackTraceElement;"), .isRef (.static "java/lang/Throwable" "SUPPRESSED_SENTINEL" "Ljava/util/List;"), .laysStatic "java/lang/Throwable" "UNASSIGNED_STACK" "[Ljava/lang/StackTraceElement;", .laysStatic "java/lang/Throwable" "SUPPRESSED_SENTINEL" "Ljava/util/List;"]
theorem thW_ot : ∀ w ∈ thW, w.onTables = true ∨ w ∈ thH := by decide +kernel
/-- the class's texts -/
def thS : List (Nat × String) := [(73, "no such end or cell"), (86, "no such end or row"), (97, "from is not 0 .. side, or to not from .. side"), (100, "no such cell"), (102, "loss is not 0 .. 10000"), (107, "thick or wide is not 1 .. 20"), (110, "worth is not 0 .. 100000, or wane not 0 .. 400"), (117, "there are 8 sizes"), (167, "no such what of a board"), (175, "no such what of all"), (180, "no such turn"), (186, "no such part"), (201, "no such size or turn"), (210, "nothing was sawn since something was told"), (212, "no such board")]
/-- what a method needs to throw -/
def kT (U : State) : Prop := (∀ w ∈ thW, w.before #[] U = true) ∧ ∀ t ∈ thS, ∃ a, vk_R "SawGrids" t.1 t.2 a U
theorem thH_at {w : Cond} (h : w ∈ thH) {u U : State} {a a' : Array Value} (hv : u.vm = U.vm) (hh : u.heap = U.heap) (hb : w.before a u = true) : w.before a' U = true := by
  simp only [thH, List.mem_cons, List.not_mem_nil, or_false] at h
  rcases h with rfl | rfl | rfl | rfl <;> simp only [Cond.before, Cond.holds, Cond.value, Term.eval, State.fieldNamed?, State.fieldFound?, hv, hh] at hb ⊢ <;> exact hb
theorem kT_args {s : State} (h : kT s) (args : Array Value) : ∀ w ∈ thW, w.before args s = true := fun w hw => by
  rcases thW_ot w hw with h1 | h1
  · exact va_tabs h1 rfl (h.1 w hw)
  · exact thH_at h1 rfl rfl (h.1 w hw)
theorem kT_same {u U : State} (hv : u.vm = U.vm) (hh : u.heap = U.heap) (h : kT u) : kT U := ⟨fun w hw => by
  rcases thW_ot w hw with h1 | h1
  · exact va_tabs h1 hv (h.1 w hw)
  · exact thH_at h1 hv hh (h.1 w hw), fun t ht => by
  obtain ⟨a, ha⟩ := h.2 t ht
  exact ⟨a, vk_R.same hv.symm ha⟩⟩
theorem thW_1 : ∀ w ∈ Bundle.ownAtoms "SawGrids" 75 "java/lang/IndexOutOfBoundsException" thN, w ∈ thW := fun w h => List.mem_append_left _ h
theorem thW_2 : ∀ w ∈ Bundle.ownAtoms "SawGrids" 99 "java/lang/IllegalArgumentException" thN, w ∈ thW := fun w h => List.mem_append_right _ (List.mem_append_left _ h)
theorem thW_3 : ∀ w ∈ Bundle.ownAtoms "SawGrids" 119 "java/lang/IllegalStateException" thN, w ∈ thW := fun w h => List.mem_append_right _ (List.mem_append_right _ h)
theorem th_fit : (∀ n ∈ thN, Bundle.fit n = true) ∧ Bundle.fit "java/lang/IndexOutOfBoundsException" = true ∧ Bundle.fit "java/lang/IllegalArgumentException" = true ∧ Bundle.fit "java/lang/IllegalStateException" = true := by decide +kernel
abbrev kTh (D : va_G) (cl : List vw_C) (tys : List (ClassId × FieldType)) (ws : va_W) (U : State) : Prop := kR D cl tys ws U ∧ kT U
theorem kTh_blind {D : va_G} {cl : List vw_C} {tys : List (ClassId × FieldType)} {ws : va_W} {av : List Value} : FrameBlind (va_Pc av (kTh D cl tys ws)) := fun a U g mk q => by
  obtain ⟨q0, ⟨qP, qK, qZ⟩, qT⟩ := q
  exact ⟨q0, ⟨qP, va_K.moved (u := U) (U := U.calling g mk a) (Vm.Alike.refl U.vm) qK, kZ_same (u := U) (U := U.calling g mk a) rfl qZ⟩, kT_same (u := U) (U := U.calling g mk a) rfl rfl qT⟩
set_option maxHeartbeats 4000000 in
set_option maxRecDepth 100000 in
theorem x_refuseUnsawn (l : Launch) (hl9 : l.stackTraces = false) (D : va_G) (cI cJ cZ : ClassId) (hs : Nat) (kf : Nat) (h0 : Nat) (hz : Nat) (bo : Nat) (hb_ : Nat) (hp : Nat) (sw : Prop) (hsw : ¬ sw) : xt_Met l y_SG_refuseUnsawn w_SG_refuseUnsawn ({ frames := 6, cells := 1, slots := 6, locals := 82 }) (va_Pc [.ref hs] (kTh D vwCl (tyL cI cJ cZ) [(hs, .inr (0, [.int (nI kf), .ref h0, .ref hz, .ref bo, .ref hb_, .ref hp, .int (pI sw)]))])) (xE "java/lang/IllegalStateException") 1 6 (fun _ => False) := by
  refine xt_ofW (cc := b_SG_refuseUnsawn) (maxL := 1) (ret := none) (by decide) rfl ?_
  intro p e s m args below meth c s₁ B hml hne hv
  obtain ⟨rfl, ⟨hP, hK, hZ⟩, hT⟩ := hv
  have hx := B.exec
  have hb := B.bytes
  have hts := atoms_spec (ws := w_SG_refuseUnsawn) B.pre
  have hown : s.vm.findClass R_SG = some m.cls := findClass_of_methodNamed B.named
  have hlocks := B.notSynchronized
  have hP : va_P D vwCl [(hs, .inr (0, [.int (nI kf), .ref h0, .ref hz, .ref bo, .ref hb_, .ref hp, .int (pI sw)]))] s.heap := hP
  have hl := lv_entry ([.ref hs]) (n := 1) (Nat.le_of_ble_eq_true rfl)
  rw [lg_entry_eq]
  generalize (lg_sl ([.ref hs]) ++ List.replicate (1 - (lg_sl ([.ref hs])).length) Slot.unset).toArray = ls at hl ⊢
  have hl : lv_has ls 1 [(0, .ref hs)] := hl
  refine lv_aload_n hx hb d_SG_refuseUnsawn_0 rfl (lv_at hl 0 rfl) ?_
  refine va_get (D := D) (ci := 0) (v := .int (pI sw)) (C := R_SG) (T := T_SG) (N := 7) hx hb hts (fun w h => List.mem_cons_of_mem _ (iw_SG w h)) hown hK hP 0 rfl rfl 6 (by decide) (hts _ (List.mem_cons_of_mem _ k_184)) (fun _ h9 => h9) rfl d_SG_refuseUnsawn_1 ?_
  refine kb_neP (tgt := 17) hx hb d_SG_refuseUnsawn_4 (by decide) (fun c => ?_) (fun c => ?_)
  · exact absurd c hsw
  · obtain ⟨sa, hsa⟩ := hT.2 (210, "nothing was sawn since something was told") (by decide +kernel)
    exact xt_throwS (own := R_SG) (cls := "java/lang/IllegalStateException") (text := "nothing was sawn since something was told") (names := thN) (ik := 115) (is := 210) (ic := 119) (sa := sa) hx hb hl9 hown th_fit.2.2.2 th_fit.1 (hts _ (List.mem_cons_of_mem _ k_440)) (hts _ (List.mem_cons_of_mem _ k_14)) hsa.1 hsa.2 (fun w hw => kT_args hT _ w (thW_3 w hw)) (hl.1.trans hml.symm) d_SG_refuseUnsawn_7 d_SG_refuseUnsawn_10 d_SG_refuseUnsawn_11 d_SG_refuseUnsawn_13 d_SG_refuseUnsawn_16 hne (Nat.le_of_ble_eq_true rfl) (Nat.le_of_ble_eq_true rfl) (Nat.le_of_ble_eq_true rfl) (Nat.le_of_ble_eq_true rfl) hlocks
set_option maxHeartbeats 4000000 in
set_option maxRecDepth 100000 in
theorem x_refuseNoBoard (l : Launch) (hl9 : l.stackTraces = false) (D : va_G) (cI cJ cZ : ClassId) (hs : Nat) (kf : Nat) (h0 : Nat) (hz : Nat) (bo : Nat) (hb_ : Nat) (hp : Nat) (sw : Prop) (p1 : Nat) (p2 : Nat) (p3 : Nat) (pt : Nat) (psl : Nat) (pc_ : Nat) (pv : Int) (pce : Nat) (x : Int32) (hk : ¬ (0 ≤ x.toInt ∧ x.toInt < (pc_ : Int))) (hc : pc_ ≤ 400) : xt_Met l y_SG_refuseNoBoard w_SG_refuseNoBoard ({ frames := 6, cells := 1, slots := 6, locals := 82 }) (va_Pc [.ref hs, .int x] (kTh D vwCl (tyL cI cJ cZ) [(hs, .inr (0, [.int (nI kf), .ref h0, .ref hz, .ref bo, .ref hb_, .ref hp, .int (pI sw)])), (hp, .inr (4, [.ref p1, .ref p2, .ref p3, .int (nI pt), .int (nI psl), .int (nI pc_), .int (iI pv), .int (nI pce)]))])) (xE "java/lang/IndexOutOfBoundsException") 1 6 (fun _ => False) := by
  refine xt_ofW (cc := b_SG_refuseNoBoard) (maxL := 2) (ret := none) (by decide) rfl ?_
  intro p e s m args below meth c s₁ B hml hne hv
  obtain ⟨rfl, ⟨hP, hK, hZ⟩, hT⟩ := hv
  have hx := B.exec
  have hb := B.bytes
  have hts := atoms_spec (ws := w_SG_refuseNoBoard) B.pre
  have hown : s.vm.findClass R_SG = some m.cls := findClass_of_methodNamed B.named
  have hlocks := B.notSynchronized
  have hP : va_P D vwCl [(hs, .inr (0, [.int (nI kf), .ref h0, .ref hz, .ref bo, .ref hb_, .ref hp, .int (pI sw)])), (hp, .inr (4, [.ref p1, .ref p2, .ref p3, .int (nI pt), .int (nI psl), .int (nI pc_), .int (iI pv), .int (nI pce)]))] s.heap := hP
  have hl := lv_entry ([.ref hs, .int x]) (n := 2) (Nat.le_of_ble_eq_true rfl)
  rw [lg_entry_eq]
  generalize (lg_sl ([.ref hs, .int x]) ++ List.replicate (2 - (lg_sl ([.ref hs, .int x])).length) Slot.unset).toArray = ls at hl ⊢
  have hl : lv_has ls 2 [(0, .ref hs), (1, .int x)] := hl
  refine lv_iload_n hx hb d_SG_refuseNoBoard_0 rfl (lv_at hl 1 rfl) ?_
  refine lv_iconst (v := nI 0) hx hb d_SG_refuseNoBoard_1 (by decide +kernel) ?_
  refine lv_aload_n hx hb d_SG_refuseNoBoard_2 rfl (lv_at hl 0 rfl) ?_
  refine va_get (D := D) (ci := 0) (v := .ref hp) (C := R_SG) (T := T_SG) (N := 7) hx hb hts (fun w h => List.mem_cons_of_mem _ (iw_SG w h)) hown hK hP 0 rfl rfl 5 (by decide) (hts _ (List.mem_cons_of_mem _ k_183)) (fun _ h9 => h9) rfl d_SG_refuseNoBoard_3 ?_
  refine va_get (D := D) (ci := 4) (v := .int (nI pc_)) (C := R_Pa) (T := T_Pa) (N := 8) hx hb hts (fun w h => List.mem_cons_of_mem _ (iw_Pa w h)) hown hK hP 1 rfl rfl 5 (by decide) (hts _ (List.mem_cons_of_mem _ k_154)) (fun _ h9 => h9) rfl d_SG_refuseNoBoard_6 ?_
  refine lv_iconst (v := nI 1) hx hb d_SG_refuseNoBoard_9 (by decide +kernel) ?_
  refine lv_isub hx hb d_SG_refuseNoBoard_10 ?_
  refine ka_i (y := iI (((pc_ : Nat) : Int) - ((1 : Nat) : Int))) (by rw [iI_of pc_, iI_of 1]; exact iI_sub _ _) ?_
  refine kcallR (r := .int (pI (((0 : Nat) : Int) ≤ x.toInt ∧ x.toInt ≤ (((pc_ : Nat) : Int) - ((1 : Nat) : Int))))) (va_runS (As := [.int x, .int (nI 0), .int (iI (((pc_ : Nat) : Int) - ((1 : Nat) : Int)))]) (rest := []) ⟨hx, hb, hml, hown, hts⟩ (c_isWithin l D cI cJ cZ x (nI 0) (iI (((pc_ : Nat) : Int) - ((1 : Nat) : Int))) x.toInt ((0 : Nat) : Int) (((pc_ : Nat) : Int) - ((1 : Nat) : Int)) rfl (nI_t (by omega)) (iI_t (by omega) (by omega))) ⟨callB_of 3 hts (gd kc_SG_isWithin) rfl rfl rfl (hts _ (List.mem_cons_of_mem _ k_1)) (hts _ (List.mem_cons_of_mem _ k_313)) (by decide +kernel) ⟨Nat.le_of_ble_eq_true rfl, Nat.le_of_ble_eq_true rfl⟩, hts _ (List.mem_cons_of_mem _ k_280)⟩ ⟨kR_blind, kR_at hP hK hZ [] rfl⟩ rfl rfl hl.1 rfl (lv_room (Nat.le_of_ble_eq_true rfl)) d_SG_refuseNoBoard_11 ⟨Nat.zero_le _, Nat.zero_le _⟩) ?_
  refine kb_neP (tgt := 27) hx hb d_SG_refuseNoBoard_14 (by decide) (fun c_14 => ?_) (fun c_14 => ?_)
  · exfalso; omega
  · obtain ⟨sa, hsa⟩ := hT.2 (212, "no such board") (by decide +kernel)
    exact xt_throwS (own := R_SG) (cls := "java/lang/IndexOutOfBoundsException") (text := "no such board") (names := thN) (ik := 71) (is := 212) (ic := 75) (sa := sa) hx hb hl9 hown th_fit.2.1 th_fit.1 (hts _ (List.mem_cons_of_mem _ k_319)) (hts _ (List.mem_cons_of_mem _ k_12)) hsa.1 hsa.2 (fun w hw => kT_args hT _ w (thW_1 w hw)) (hl.1.trans hml.symm) d_SG_refuseNoBoard_17 d_SG_refuseNoBoard_20 d_SG_refuseNoBoard_21 d_SG_refuseNoBoard_23 d_SG_refuseNoBoard_26 hne (Nat.le_of_ble_eq_true rfl) (Nat.le_of_ble_eq_true rfl) (Nat.le_of_ble_eq_true rfl) (Nat.le_of_ble_eq_true rfl) hlocks
set_option maxHeartbeats 4000000 in
set_option maxRecDepth 100000 in
theorem x_cell (l : Launch) (hl9 : l.stackTraces = false) (D : va_G) (cI cJ cZ : ClassId) (hs : Nat) (kf : Nat) (h0 : Nat) (hz : Nat) (bo : Nat) (hb_ : Nat) (hp : Nat) (sw : Prop) (side : Nat) (a1 : Nat) (a2 : Nat) (a3 : Nat) (a4 : Nat) (sm : Prop) (en : Int32) (x : Int32) (y : Int32) (b : Prop) (s1 : 1 ≤ side) (s2 : side ≤ 20) (bad : ¬ ((0 ≤ en.toInt ∧ en.toInt ≤ 1) ∧ (0 ≤ x.toInt ∧ x.toInt < (side : Int)) ∧ 0 ≤ y.toInt ∧ y.toInt < (side : Int))) : xt_Met l y_SG_cell w_SG_cell ({ frames := 6, cells := 1, slots := 6, locals := 82 }) (va_Pc [.ref hs, .int en, .int x, .int y, .int (pI b)] (kTh D vwCl (tyL cI cJ cZ) [(hs, .inr (0, [.int (nI kf), .ref h0, .ref hz, .ref bo, .ref hb_, .ref hp, .int (pI sw)])), (h0, .inr (3, [.int (nI side), .ref a1, .ref a2, .ref a3, .ref a4, .int (pI sm)]))])) (xE "java/lang/IndexOutOfBoundsException") 1 6 (fun _ => False) := by
  refine xt_ofW (cc := b_SG_cell) (maxL := 5) (ret := (some (.boolean))) (by decide) rfl ?_
  intro p e s m args below meth c s₁ B hml hne hv
  obtain ⟨rfl, ⟨hP, hK, hZ⟩, hT⟩ := hv
  have hx := B.exec
  have hb := B.bytes
  have hts := atoms_spec (ws := w_SG_cell) B.pre
  have hown : s.vm.findClass R_SG = some m.cls := findClass_of_methodNamed B.named
  have hlocks := B.notSynchronized
  have hP : va_P D vwCl [(hs, .inr (0, [.int (nI kf), .ref h0, .ref hz, .ref bo, .ref hb_, .ref hp, .int (pI sw)])), (h0, .inr (3, [.int (nI side), .ref a1, .ref a2, .ref a3, .ref a4, .int (pI sm)]))] s.heap := hP
  have hl := lv_entry ([.ref hs, .int en, .int x, .int y, .int (pI b)]) (n := 5) (Nat.le_of_ble_eq_true rfl)
  rw [lg_entry_eq]
  generalize (lg_sl ([.ref hs, .int en, .int x, .int y, .int (pI b)]) ++ List.replicate (5 - (lg_sl ([.ref hs, .int en, .int x, .int y, .int (pI b)])).length) Slot.unset).toArray = ls at hl ⊢
  have hl : lv_has ls 5 [(0, .ref hs), (1, .int en), (2, .int x), (3, .int y), (4, .int (pI b))] := hl
  refine lv_iload_n hx hb d_SG_cell_0 rfl (lv_at hl 1 rfl) ?_
  refine kcallR (r := .int (pI (0 ≤ en.toInt ∧ en.toInt ≤ 1))) (va_runS (As := [.int en]) (rest := []) ⟨hx, hb, hml, hown, hts⟩ (c_isEnd l D cI cJ cZ en ) ⟨callB_of 1 hts (gd kc_SG_isEnd) rfl rfl rfl (hts _ (List.mem_cons_of_mem _ k_1)) (hts _ (List.mem_cons_of_mem _ k_310)) (by decide +kernel) ⟨Nat.le_of_ble_eq_true rfl, Nat.le_of_ble_eq_true rfl⟩, hts _ (List.mem_cons_of_mem _ k_311)⟩ ⟨kR_blind, kR_at hP hK hZ [] rfl⟩ rfl rfl hl.1 rfl (lv_room (Nat.le_of_ble_eq_true rfl)) d_SG_cell_1 ⟨Nat.zero_le _, Nat.zero_le _⟩) ?_
  refine kb_eqP (tgt := 19) hx hb d_SG_cell_4 (by decide) (fun c_4 => ?_) (fun c_4 => ?_)
  · obtain ⟨sa, hsa⟩ := hT.2 (73, "no such end or cell") (by decide +kernel)
    exact xt_throwS (own := R_SG) (cls := "java/lang/IndexOutOfBoundsException") (text := "no such end or cell") (names := thN) (ik := 71) (is := 73) (ic := 75) (sa := sa) hx hb hl9 hown th_fit.2.1 th_fit.1 (hts _ (List.mem_cons_of_mem _ k_319)) (hts _ (List.mem_cons_of_mem _ k_12)) hsa.1 hsa.2 (fun w hw => kT_args hT _ w (thW_1 w hw)) (hl.1.trans hml.symm) d_SG_cell_19 d_SG_cell_22 d_SG_cell_23 d_SG_cell_25 d_SG_cell_28 hne (Nat.le_of_ble_eq_true rfl) (Nat.le_of_ble_eq_true rfl) (Nat.le_of_ble_eq_true rfl) (Nat.le_of_ble_eq_true rfl) hlocks
  · refine lv_aload_n hx hb d_SG_cell_7 rfl (lv_at hl 0 rfl) ?_
    refine va_get (D := D) (ci := 0) (v := .ref h0) (C := R_SG) (T := T_SG) (N := 7) hx hb hts (fun w h => List.mem_cons_of_mem _ (iw_SG w h)) hown hK hP 0 rfl rfl 1 (by decide) (hts _ (List.mem_cons_of_mem _ k_179)) (fun _ h9 => h9) rfl d_SG_cell_8 ?_
    refine lv_iload_n hx hb d_SG_cell_11 rfl (lv_at hl 2 rfl) ?_
    refine lv_iload_n hx hb d_SG_cell_12 rfl (lv_at hl 3 rfl) ?_
    refine kcallR (r := .int (pI ((0 ≤ x.toInt ∧ x.toInt < (side : Int)) ∧ 0 ≤ y.toInt ∧ y.toInt < (side : Int)))) (va_runV (As := [.int x, .int y]) (rest := []) ⟨hx, hb, hml, hown, hts⟩ (c_isCell l D cI cJ cZ h0 side a1 a2 a3 a4 sm x y (by omega) (by omega)) ⟨callB_of 2 hts (gd kc_Lo_isCell) rfl rfl rfl (hts _ (List.mem_cons_of_mem _ k_3)) (hts _ (List.mem_cons_of_mem _ k_314)) (by decide +kernel) ⟨Nat.le_of_ble_eq_true rfl, Nat.le_of_ble_eq_true rfl⟩, hts _ (List.mem_cons_of_mem _ k_315), hts _ (List.mem_cons_of_mem _ k_316)⟩ ⟨kR_blind, va_recv hK hP (ci := 3) (q0 := 1) rfl rfl, kR_at hP hK hZ [1] rfl⟩ rfl rfl hl.1 rfl (lv_room (Nat.le_of_ble_eq_true rfl)) d_SG_cell_13 ⟨Nat.zero_le _, Nat.zero_le _⟩) ?_
    refine kb_neP (tgt := 29) hx hb d_SG_cell_16 (by decide) (fun c_16 => ?_) (fun c_16 => ?_)
    · exfalso; omega
    · obtain ⟨sa, hsa⟩ := hT.2 (73, "no such end or cell") (by decide +kernel)
      exact xt_throwS (own := R_SG) (cls := "java/lang/IndexOutOfBoundsException") (text := "no such end or cell") (names := thN) (ik := 71) (is := 73) (ic := 75) (sa := sa) hx hb hl9 hown th_fit.2.1 th_fit.1 (hts _ (List.mem_cons_of_mem _ k_319)) (hts _ (List.mem_cons_of_mem _ k_12)) hsa.1 hsa.2 (fun w hw => kT_args hT _ w (thW_1 w hw)) (hl.1.trans hml.symm) d_SG_cell_19 d_SG_cell_22 d_SG_cell_23 d_SG_cell_25 d_SG_cell_28 hne (Nat.le_of_ble_eq_true rfl) (Nat.le_of_ble_eq_true rfl) (Nat.le_of_ble_eq_true rfl) (Nat.le_of_ble_eq_true rfl) hlocks
