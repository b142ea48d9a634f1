set_option maxHeartbeats 4000000 in
set_option maxRecDepth 100000 in
theorem x_all2 (l : Launch) (hl9 : l.stackTraces = false) (D : va_G) (cI cJ cZ : ClassId) (hs : Nat) (kf : Nat) (h0 : Nat) (hz : Nat) (bo : Nat) (hb_ : Nat) (hp : Nat) (sw : Prop) (x : Int32) (hsw : sw) (bad : ¬ (0 ≤ x.toInt ∧ x.toInt ≤ 3)) : xt_Met l y_SG_all w_SG_all ({ frames := 6, cells := 1, slots := 6, locals := 82 }) (va_Pc [.ref hs, .int x] (kTh D vwCl (tyL cI cJ cZ) [(hs, .inr (0, [.int (nI kf), .ref h0, .ref hz, .ref bo, .ref hb_, .ref hp, .int (pI sw)]))])) (xE "java/lang/IndexOutOfBoundsException") 1 6 (fun _ => False) := by
  refine xt_ofW (cc := b_SG_all) (maxL := 2) (ret := (some (.int))) (by decide) rfl ?_
  intro p e s m args below meth c s₁ B hml hne hv
  obtain ⟨rfl, ⟨hP, hK, hZ⟩, hT⟩ := hv
  have hx := B.exec
  have hb := B.bytes
  have hts := atoms_spec (ws := w_SG_all) B.pre
  have hown : s.vm.findClass R_SG = some m.cls := findClass_of_methodNamed B.named
  have hlocks := B.notSynchronized
  have hP : va_P D vwCl [(hs, .inr (0, [.int (nI kf), .ref h0, .ref hz, .ref bo, .ref hb_, .ref hp, .int (pI sw)]))] s.heap := hP
  have hl := lv_entry ([.ref hs, .int x]) (n := 2) (Nat.le_of_ble_eq_true rfl)
  rw [lg_entry_eq]
  generalize (lg_sl ([.ref hs, .int x]) ++ List.replicate (2 - (lg_sl ([.ref hs, .int x])).length) Slot.unset).toArray = ls at hl ⊢
  have hl : lv_has ls 2 [(0, .ref hs), (1, .int x)] := hl
  refine lv_aload_n hx hb d_SG_all_0 rfl (lv_at hl 0 rfl) ?_
  refine kcallRV (va_runV (As := []) (rest := []) ⟨hx, hb, hml, hown, hts⟩ (c_refuseUnsawn l D cI cJ cZ hs kf h0 hz bo hb_ hp sw hsw) ⟨callB_of 0 hts (gd kc_SG_refuseUnsawn) rfl rfl rfl (hts _ (List.mem_cons_of_mem _ k_1)) (hts _ (List.mem_cons_of_mem _ k_467)) (by decide +kernel) ⟨Nat.le_of_ble_eq_true rfl, Nat.le_of_ble_eq_true rfl⟩, hts _ (List.mem_cons_of_mem _ k_469), hts _ (List.mem_cons_of_mem _ ks_9)⟩ ⟨kR_blind, va_recv hK hP (ci := 0) (q0 := 0) rfl rfl, kR_at hP hK hZ [0] rfl⟩ rfl rfl hl.1 rfl (lv_room (Nat.le_of_ble_eq_true rfl)) d_SG_all_1 ⟨Nat.zero_le _, Nat.zero_le _⟩) ?_
  refine lv_iload_n hx hb d_SG_all_4 rfl (lv_at hl 1 rfl) ?_
  refine lv_tableOut (tgt := 68) hx hb d_SG_all_5 (by omega) (by decide) ?_
  obtain ⟨sa, hsa⟩ := hT.2 (175, "no such what of all") (by decide +kernel)
  exact xt_throwS (own := R_SG) (cls := "java/lang/IndexOutOfBoundsException") (text := "no such what of all") (names := thN) (ik := 71) (is := 175) (ic := 75) (sa := sa) hx hb hl9 hown th_fit.2.1 th_fit.1 (hts _ (List.mem_cons_of_mem _ k_319)) (hts _ (List.mem_cons_of_mem _ k_12)) hsa.1 hsa.2 (fun w hw => kT_args hT _ w (thW_1 w hw)) (hl.1.trans hml.symm) d_SG_all_68 d_SG_all_71 d_SG_all_72 d_SG_all_74 d_SG_all_77 hne (Nat.le_of_ble_eq_true rfl) (Nat.le_of_ble_eq_true rfl) (Nat.le_of_ble_eq_true rfl) (Nat.le_of_ble_eq_true rfl) hlocks
set_option maxHeartbeats 4000000 in
set_option maxRecDepth 100000 in
theorem x_board3 (l : Launch) (hl9 : l.stackTraces = false) (D : va_G) (cI cJ cZ : ClassId) (hs : Nat) (kf : Nat) (h0 : Nat) (hz : Nat) (bo : Nat) (hb_ : Nat) (hp : Nat) (sw : Prop) (p1 : Nat) (p2 : Nat) (p3 : Nat) (pt : Nat) (psl : Nat) (pc_ : Nat) (pv : Int) (pce : Nat) (pn : Nat) (g1 : Nat → Nat) (g2 : Nat → Nat) (g3 : Nat → Nat) (k : Nat) (y : Int32) (hsw : sw) (hk : k < pc_) (hpc : pc_ ≤ pn) (hpn : pn ≤ 400) (bad : ¬ (0 ≤ y.toInt ∧ y.toInt ≤ 6)) : xt_Met l y_SG_board w_SG_board ({ frames := 6, cells := 1, slots := 6, locals := 82 }) (va_Pc [.ref hs, .int (nI k), .int y] (kTh D vwCl (tyL cI cJ cZ) [(hs, .inr (0, [.int (nI kf), .ref h0, .ref hz, .ref bo, .ref hb_, .ref hp, .int (pI sw)])), (hp, .inr (4, [.ref p1, .ref p2, .ref p3, .int (nI pt), .int (nI psl), .int (nI pc_), .int (iI pv), .int (nI pce)])), (p1, .inl (cI, pn, .inl (fun j => nI (g1 j)))), (p2, .inl (cI, pn, .inl (fun j => nI (g2 j)))), (p3, .inl (cI, pn, .inl (fun j => nI (g3 j))))])) (xE "java/lang/IndexOutOfBoundsException") 1 6 (fun _ => False) := by
  refine xt_ofW (cc := b_SG_board) (maxL := 6) (ret := (some (.int))) (by decide) rfl ?_
  intro p e s m args below meth c s₁ B hml hne hv
  obtain ⟨rfl, ⟨hP, hK, hZ⟩, hT⟩ := hv
  have hx := B.exec
  have hb := B.bytes
  have hts := atoms_spec (ws := w_SG_board) B.pre
  have hown : s.vm.findClass R_SG = some m.cls := findClass_of_methodNamed B.named
  have hlocks := B.notSynchronized
  have hP : va_P D vwCl [(hs, .inr (0, [.int (nI kf), .ref h0, .ref hz, .ref bo, .ref hb_, .ref hp, .int (pI sw)])), (hp, .inr (4, [.ref p1, .ref p2, .ref p3, .int (nI pt), .int (nI psl), .int (nI pc_), .int (iI pv), .int (nI pce)])), (p1, .inl (cI, pn, .inl (fun j => nI (g1 j)))), (p2, .inl (cI, pn, .inl (fun j => nI (g2 j)))), (p3, .inl (cI, pn, .inl (fun j => nI (g3 j))))] s.heap := hP
  have hl := lv_entry ([.ref hs, .int (nI k), .int y]) (n := 6) (Nat.le_of_ble_eq_true rfl)
  rw [lg_entry_eq]
  generalize (lg_sl ([.ref hs, .int (nI k), .int y]) ++ List.replicate (6 - (lg_sl ([.ref hs, .int (nI k), .int y])).length) Slot.unset).toArray = ls at hl ⊢
  have hl : lv_has ls 6 [(0, .ref hs), (1, .int (nI k)), (2, .int y)] := hl
  refine lv_aload_n hx hb d_SG_board_0 rfl (lv_at hl 0 rfl) ?_
  refine kcallRV (va_runV (As := []) (rest := []) ⟨hx, hb, hml, hown, hts⟩ (c_refuseUnsawn l D cI cJ cZ hs kf h0 hz bo hb_ hp sw hsw) ⟨callB_of 0 hts (gd kc_SG_refuseUnsawn) rfl rfl rfl (hts _ (List.mem_cons_of_mem _ k_1)) (hts _ (List.mem_cons_of_mem _ k_467)) (by decide +kernel) ⟨Nat.le_of_ble_eq_true rfl, Nat.le_of_ble_eq_true rfl⟩, hts _ (List.mem_cons_of_mem _ k_469), hts _ (List.mem_cons_of_mem _ ks_9)⟩ ⟨kR_blind, va_recv hK hP (ci := 0) (q0 := 0) rfl rfl, kR_at hP hK hZ [0] rfl⟩ rfl rfl hl.1 rfl (lv_room (Nat.le_of_ble_eq_true rfl)) d_SG_board_1 ⟨Nat.zero_le _, Nat.zero_le _⟩) ?_
  refine lv_aload_n hx hb d_SG_board_4 rfl (lv_at hl 0 rfl) ?_
  refine lv_iload_n hx hb d_SG_board_5 rfl (lv_at hl 1 rfl) ?_
  refine kcallRV (va_runV (As := [.int (nI k)]) (rest := []) ⟨hx, hb, hml, hown, hts⟩ (c_refuseNoBoard l D cI cJ cZ hs kf h0 hz bo hb_ hp sw p1 p2 p3 pt psl pc_ pv pce k (by omega) (by omega)) ⟨callB_of 1 hts (gd kc_SG_refuseNoBoard) rfl rfl rfl (hts _ (List.mem_cons_of_mem _ k_1)) (hts _ (List.mem_cons_of_mem _ k_472)) (by decide +kernel) ⟨Nat.le_of_ble_eq_true rfl, Nat.le_of_ble_eq_true rfl⟩, hts _ (List.mem_cons_of_mem _ k_474), hts _ (List.mem_cons_of_mem _ ks_10)⟩ ⟨kR_blind, va_recv hK hP (ci := 0) (q0 := 0) rfl rfl, kR_at hP hK hZ [0, 1] rfl⟩ rfl rfl hl.1 rfl (lv_room (Nat.le_of_ble_eq_true rfl)) d_SG_board_6 ⟨Nat.zero_le _, Nat.zero_le _⟩) ?_
  refine lv_aload_n hx hb d_SG_board_9 rfl (lv_at hl 0 rfl) ?_
  refine va_get (D := D) (ci := 0) (v := .ref hp) (C := R_SG) (T := T_SG) (N := 7) hx hb hts (fun w h => List.mem_cons_of_mem _ (iw_SG w h)) hown hK hP 0 rfl rfl 5 (by decide) (hts _ (List.mem_cons_of_mem _ k_183)) (fun _ h9 => h9) rfl d_SG_board_10 ?_
  refine va_get (D := D) (ci := 4) (v := .ref p1) (C := R_Pa) (T := T_Pa) (N := 8) hx hb hts (fun w h => List.mem_cons_of_mem _ (iw_Pa w h)) hown hK hP 1 rfl rfl 0 (by decide) (hts _ (List.mem_cons_of_mem _ k_143)) (fun _ h9 => h9) rfl d_SG_board_13 ?_
  refine lv_iload_n hx hb d_SG_board_16 rfl (lv_at hl 1 rfl) ?_
  refine ka_iald (k := k) (n := pn) (f := fun j => nI (g1 j)) (nI_t (by omega)) (by omega) hx hb hK hP 2 0 rfl rfl d_SG_board_17 ?_
  refine lv_istore_n (lv' := [(3, .int (nI (g1 k))), (0, .ref hs), (1, .int (nI k)), (2, .int y)]) hx hb d_SG_board_18 rfl hl (by decide) rfl (fun ls hl => ?_)
  refine lv_aload_n hx hb d_SG_board_19 rfl (lv_at hl 1 rfl) ?_
  refine va_get (D := D) (ci := 0) (v := .ref hp) (C := R_SG) (T := T_SG) (N := 7) hx hb hts (fun w h => List.mem_cons_of_mem _ (iw_SG w h)) hown hK hP 0 rfl rfl 5 (by decide) (hts _ (List.mem_cons_of_mem _ k_183)) (fun _ h9 => h9) rfl d_SG_board_20 ?_
  refine va_get (D := D) (ci := 4) (v := .ref p2) (C := R_Pa) (T := T_Pa) (N := 8) hx hb hts (fun w h => List.mem_cons_of_mem _ (iw_Pa w h)) hown hK hP 1 rfl rfl 1 (by decide) (hts _ (List.mem_cons_of_mem _ k_145)) (fun _ h9 => h9) rfl d_SG_board_23 ?_
  refine lv_iload_n hx hb d_SG_board_26 rfl (lv_at hl 2 rfl) ?_
  refine ka_iald (k := k) (n := pn) (f := fun j => nI (g2 j)) (nI_t (by omega)) (by omega) hx hb hK hP 3 0 rfl rfl d_SG_board_27 ?_
  refine lv_istore (lv' := [(4, .int (nI (g2 k))), (3, .int (nI (g1 k))), (0, .ref hs), (1, .int (nI k)), (2, .int y)]) hx hb d_SG_board_28 hl (by decide) rfl (fun ls hl => ?_)
  refine lv_aload_n hx hb d_SG_board_30 rfl (lv_at hl 2 rfl) ?_
  refine va_get (D := D) (ci := 0) (v := .ref hp) (C := R_SG) (T := T_SG) (N := 7) hx hb hts (fun w h => List.mem_cons_of_mem _ (iw_SG w h)) hown hK hP 0 rfl rfl 5 (by decide) (hts _ (List.mem_cons_of_mem _ k_183)) (fun _ h9 => h9) rfl d_SG_board_31 ?_
  refine va_get (D := D) (ci := 4) (v := .ref p3) (C := R_Pa) (T := T_Pa) (N := 8) hx hb hts (fun w h => List.mem_cons_of_mem _ (iw_Pa w h)) hown hK hP 1 rfl rfl 2 (by decide) (hts _ (List.mem_cons_of_mem _ k_147)) (fun _ h9 => h9) rfl d_SG_board_34 ?_
  refine lv_iload_n hx hb d_SG_board_37 rfl (lv_at hl 3 rfl) ?_
  refine ka_iald (k := k) (n := pn) (f := fun j => nI (g3 j)) (nI_t (by omega)) (by omega) hx hb hK hP 4 0 rfl rfl d_SG_board_38 ?_
  refine lv_istore (lv' := [(5, .int (nI (g3 k))), (4, .int (nI (g2 k))), (3, .int (nI (g1 k))), (0, .ref hs), (1, .int (nI k)), (2, .int y)]) hx hb d_SG_board_39 hl (by decide) rfl (fun ls hl => ?_)
  refine lv_iload_n hx hb d_SG_board_41 rfl (lv_at hl 5 rfl) ?_
  refine lv_tableOut (tgt := 164) hx hb d_SG_board_42 (by omega) (by decide) ?_
  obtain ⟨sa, hsa⟩ := hT.2 (167, "no such what of a board") (by decide +kernel)
  exact xt_throwS (own := R_SG) (cls := "java/lang/IndexOutOfBoundsException") (text := "no such what of a board") (names := thN) (ik := 71) (is := 167) (ic := 75) (sa := sa) hx hb hl9 hown th_fit.2.1 th_fit.1 (hts _ (List.mem_cons_of_mem _ k_319)) (hts _ (List.mem_cons_of_mem _ k_12)) hsa.1 hsa.2 (fun w hw => kT_args hT _ w (thW_1 w hw)) (hl.1.trans hml.symm) d_SG_board_164 d_SG_board_167 d_SG_board_168 d_SG_board_170 d_SG_board_173 hne (Nat.le_of_ble_eq_true rfl) (Nat.le_of_ble_eq_true rfl) (Nat.le_of_ble_eq_true rfl) (Nat.le_of_ble_eq_true rfl) hlocks
set_option maxHeartbeats 4000000 in
set_option maxRecDepth 100000 in
theorem x_apart2 (l : Launch) (hl9 : l.stackTraces = false) (D : va_G) (cI cJ cZ : ClassId) (hs : Nat) (kf : Nat) (h0 : Nat) (hz : Nat) (bo : Nat) (hb_ : Nat) (hp : Nat) (sw : Prop) (p1 : Nat) (p2 : Nat) (p3 : Nat) (pt : Nat) (psl : Nat) (pc_ : Nat) (pv : Int) (pce : Nat) (x : Int32) (y : Int32) (hsw : sw) (hk : ¬ (0 ≤ x.toInt ∧ x.toInt < (pc_ : Int))) (hc : pc_ ≤ 400) : xt_Met l y_SG_apart w_SG_apart ({ frames := 7, cells := 1, slots := 6, locals := 103 }) (va_Pc [.ref hs, .int x, .int y] (kTh D vwCl (tyL cI cJ cZ) [(hs, .inr (0, [.int (nI kf), .ref h0, .ref hz, .ref bo, .ref hb_, .ref hp, .int (pI sw)])), (hp, .inr (4, [.ref p1, .ref p2, .ref p3, .int (nI pt), .int (nI psl), .int (nI pc_), .int (iI pv), .int (nI pce)]))])) (xE "java/lang/IndexOutOfBoundsException") 1 6 (fun _ => False) := by
  refine xt_ofW (cc := b_SG_apart) (maxL := 5) (ret := (some (.boolean))) (by decide) rfl ?_
  intro p e s m args below meth c s₁ B hml hne hv
  obtain ⟨rfl, ⟨hP, hK, hZ⟩, hT⟩ := hv
  have hx := B.exec
  have hb := B.bytes
  have hts := atoms_spec (ws := w_SG_apart) B.pre
  have hown : s.vm.findClass R_SG = some m.cls := findClass_of_methodNamed B.named
  have hlocks := B.notSynchronized
  have hP : va_P D vwCl [(hs, .inr (0, [.int (nI kf), .ref h0, .ref hz, .ref bo, .ref hb_, .ref hp, .int (pI sw)])), (hp, .inr (4, [.ref p1, .ref p2, .ref p3, .int (nI pt), .int (nI psl), .int (nI pc_), .int (iI pv), .int (nI pce)]))] s.heap := hP
  have hl := lv_entry ([.ref hs, .int x, .int y]) (n := 5) (Nat.le_of_ble_eq_true rfl)
  rw [lg_entry_eq]
  generalize (lg_sl ([.ref hs, .int x, .int y]) ++ List.replicate (5 - (lg_sl ([.ref hs, .int x, .int y])).length) Slot.unset).toArray = ls at hl ⊢
  have hl : lv_has ls 5 [(0, .ref hs), (1, .int x), (2, .int y)] := hl
  refine lv_aload_n hx hb d_SG_apart_0 rfl (lv_at hl 0 rfl) ?_
  refine kcallRV (va_runV (As := []) (rest := []) ⟨hx, hb, hml, hown, hts⟩ (c_refuseUnsawn l D cI cJ cZ hs kf h0 hz bo hb_ hp sw hsw) ⟨callB_of 0 hts (gd kc_SG_refuseUnsawn) rfl rfl rfl (hts _ (List.mem_cons_of_mem _ k_1)) (hts _ (List.mem_cons_of_mem _ k_467)) (by decide +kernel) ⟨Nat.le_of_ble_eq_true rfl, Nat.le_of_ble_eq_true rfl⟩, hts _ (List.mem_cons_of_mem _ k_469), hts _ (List.mem_cons_of_mem _ ks_9)⟩ ⟨kR_blind, va_recv hK hP (ci := 0) (q0 := 0) rfl rfl, kR_at hP hK hZ [0] rfl⟩ rfl rfl hl.1 rfl (lv_room (Nat.le_of_ble_eq_true rfl)) d_SG_apart_1 ⟨Nat.zero_le _, Nat.zero_le _⟩) ?_
  refine lv_aload_n hx hb d_SG_apart_4 rfl (lv_at hl 0 rfl) ?_
  refine lv_iload_n hx hb d_SG_apart_5 rfl (lv_at hl 1 rfl) ?_
  exact xt_pass (rest := []) (xt_runV (As := [.int x]) (rest := []) ⟨hx, hb, hml, hown, hts⟩ (x_refuseNoBoard l hl9 D cI cJ cZ hs kf h0 hz bo hb_ hp sw p1 p2 p3 pt psl pc_ pv pce x hk hc) ⟨callB_of 1 hts (gd kc_SG_refuseNoBoard) rfl rfl rfl (hts _ (List.mem_cons_of_mem _ k_1)) (hts _ (List.mem_cons_of_mem _ k_472)) (by decide +kernel) ⟨Nat.le_of_ble_eq_true rfl, Nat.le_of_ble_eq_true rfl⟩, hts _ (List.mem_cons_of_mem _ k_474), hts _ (List.mem_cons_of_mem _ ks_10)⟩ ⟨kTh_blind, va_recv hK hP (ci := 0) (q0 := 0) rfl rfl, kTh_at hP hK hZ hT [0, 1] rfl⟩ rfl rfl hl.1 rfl (lv_room (Nat.le_of_ble_eq_true rfl)) d_SG_apart_6 ⟨Nat.le_of_ble_eq_true rfl, Nat.le_of_ble_eq_true rfl⟩) hne hlocks
set_option maxHeartbeats 4000000 in
set_option maxRecDepth 100000 in
theorem x_apart3 (l : Launch) (hl9 : l.stackTraces = false) (D : va_G) (cI cJ cZ : ClassId) (hs : Nat) (kf : Nat) (h0 : Nat) (hz : Nat) (bo : Nat) (hb_ : Nat) (hp : Nat) (sw : Prop) (p1 : Nat) (p2 : Nat) (p3 : Nat) (pt : Nat) (psl : Nat) (pc_ : Nat) (pv : Int) (pce : Nat) (k : Nat) (y : Int32) (hsw : sw) (hj : k < pc_) (hk : ¬ (0 ≤ y.toInt ∧ y.toInt < (pc_ : Int))) (hc : pc_ ≤ 400) : xt_Met l y_SG_apart w_SG_apart ({ frames := 7, cells := 1, slots := 6, locals := 103 }) (va_Pc [.ref hs, .int (nI k), .int y] (kTh D vwCl (tyL cI cJ cZ) [(hs, .inr (0, [.int (nI kf), .ref h0, .ref hz, .ref bo, .ref hb_, .ref hp, .int (pI sw)])), (hp, .inr (4, [.ref p1, .ref p2, .ref p3, .int (nI pt), .int (nI psl), .int (nI pc_), .int (iI pv), .int (nI pce)]))])) (xE "java/lang/IndexOutOfBoundsException") 1 6 (fun _ => False) := by
  refine xt_ofW (cc := b_SG_apart) (maxL := 5) (ret := (some (.boolean))) (by decide) rfl ?_
  intro p e s m args below meth c s₁ B hml hne hv
  obtain ⟨rfl, ⟨hP, hK, hZ⟩, hT⟩ := hv
  have hx := B.exec
  have hb := B.bytes
  have hts := atoms_spec (ws := w_SG_apart) B.pre
  have hown : s.vm.findClass R_SG = some m.cls := findClass_of_methodNamed B.named
  have hlocks := B.notSynchronized
  have hP : va_P D vwCl [(hs, .inr (0, [.int (nI kf), .ref h0, .ref hz, .ref bo, .ref hb_, .ref hp, .int (pI sw)])), (hp, .inr (4, [.ref p1, .ref p2, .ref p3, .int (nI pt), .int (nI psl), .int (nI pc_), .int (iI pv), .int (nI pce)]))] s.heap := hP
  have hl := lv_entry ([.ref hs, .int (nI k), .int y]) (n := 5) (Nat.le_of_ble_eq_true rfl)
  rw [lg_entry_eq]
  generalize (lg_sl ([.ref hs, .int (nI k), .int y]) ++ List.replicate (5 - (lg_sl ([.ref hs, .int (nI k), .int y])).length) Slot.unset).toArray = ls at hl ⊢
  have hl : lv_has ls 5 [(0, .ref hs), (1, .int (nI k)), (2, .int y)] := hl
  refine lv_aload_n hx hb d_SG_apart_0 rfl (lv_at hl 0 rfl) ?_
  refine kcallRV (va_runV (As := []) (rest := []) ⟨hx, hb, hml, hown, hts⟩ (c_refuseUnsawn l D cI cJ cZ hs kf h0 hz bo hb_ hp sw hsw) ⟨callB_of 0 hts (gd kc_SG_refuseUnsawn) rfl rfl rfl (hts _ (List.mem_cons_of_mem _ k_1)) (hts _ (List.mem_cons_of_mem _ k_467)) (by decide +kernel) ⟨Nat.le_of_ble_eq_true rfl, Nat.le_of_ble_eq_true rfl⟩, hts _ (List.mem_cons_of_mem _ k_469), hts _ (List.mem_cons_of_mem _ ks_9)⟩ ⟨kR_blind, va_recv hK hP (ci := 0) (q0 := 0) rfl rfl, kR_at hP hK hZ [0] rfl⟩ rfl rfl hl.1 rfl (lv_room (Nat.le_of_ble_eq_true rfl)) d_SG_apart_1 ⟨Nat.zero_le _, Nat.zero_le _⟩) ?_
  refine lv_aload_n hx hb d_SG_apart_4 rfl (lv_at hl 0 rfl) ?_
  refine lv_iload_n hx hb d_SG_apart_5 rfl (lv_at hl 1 rfl) ?_
  refine kcallRV (va_runV (As := [.int (nI k)]) (rest := []) ⟨hx, hb, hml, hown, hts⟩ (c_refuseNoBoard l D cI cJ cZ hs kf h0 hz bo hb_ hp sw p1 p2 p3 pt psl pc_ pv pce k (by omega) (by omega)) ⟨callB_of 1 hts (gd kc_SG_refuseNoBoard) rfl rfl rfl (hts _ (List.mem_cons_of_mem _ k_1)) (hts _ (List.mem_cons_of_mem _ k_472)) (by decide +kernel) ⟨Nat.le_of_ble_eq_true rfl, Nat.le_of_ble_eq_true rfl⟩, hts _ (List.mem_cons_of_mem _ k_474), hts _ (List.mem_cons_of_mem _ ks_10)⟩ ⟨kR_blind, va_recv hK hP (ci := 0) (q0 := 0) rfl rfl, kR_at hP hK hZ [0, 1] rfl⟩ rfl rfl hl.1 rfl (lv_room (Nat.le_of_ble_eq_true rfl)) d_SG_apart_6 ⟨Nat.zero_le _, Nat.zero_le _⟩) ?_
  refine lv_aload_n hx hb d_SG_apart_9 rfl (lv_at hl 0 rfl) ?_
  refine lv_iload_n hx hb d_SG_apart_10 rfl (lv_at hl 2 rfl) ?_
  exact xt_pass (rest := []) (xt_runV (As := [.int y]) (rest := []) ⟨hx, hb, hml, hown, hts⟩ (x_refuseNoBoard l hl9 D cI cJ cZ hs kf h0 hz bo hb_ hp sw p1 p2 p3 pt psl pc_ pv pce y hk hc) ⟨callB_of 1 hts (gd kc_SG_refuseNoBoard) rfl rfl rfl (hts _ (List.mem_cons_of_mem _ k_1)) (hts _ (List.mem_cons_of_mem _ k_472)) (by decide +kernel) ⟨Nat.le_of_ble_eq_true rfl, Nat.le_of_ble_eq_true rfl⟩, hts _ (List.mem_cons_of_mem _ k_474), hts _ (List.mem_cons_of_mem _ ks_10)⟩ ⟨kTh_blind, va_recv hK hP (ci := 0) (q0 := 0) rfl rfl, kTh_at hP hK hZ hT [0, 1] rfl⟩ rfl rfl hl.1 rfl (lv_room (Nat.le_of_ble_eq_true rfl)) d_SG_apart_11 ⟨Nat.le_of_ble_eq_true rfl, Nat.le_of_ble_eq_true rfl⟩) hne hlocks
