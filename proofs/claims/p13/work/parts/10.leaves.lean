theorem d_SG_isWithin_0 : decode b_SG_isWithin 0 = .ok (.iload_n 0, 1) := by decide +kernel
theorem d_SG_isWithin_1 : decode b_SG_isWithin 1 = .ok (.iload_n 1, 1) := by decide +kernel
theorem d_SG_isWithin_2 : decode b_SG_isWithin 2 = .ok (.if_icmp .lt 12, 3) := by decide +kernel
theorem d_SG_isWithin_5 : decode b_SG_isWithin 5 = .ok (.iload_n 0, 1) := by decide +kernel
theorem d_SG_isWithin_6 : decode b_SG_isWithin 6 = .ok (.iload_n 2, 1) := by decide +kernel
theorem d_SG_isWithin_7 : decode b_SG_isWithin 7 = .ok (.if_icmp .gt 7, 3) := by decide +kernel
theorem d_SG_isWithin_10 : decode b_SG_isWithin 10 = .ok (.iconst 1, 1) := by decide +kernel
theorem d_SG_isWithin_11 : decode b_SG_isWithin 11 = .ok (.goto 4, 3) := by decide +kernel
theorem d_SG_isWithin_14 : decode b_SG_isWithin 14 = .ok (.iconst 0, 1) := by decide +kernel
theorem d_SG_isWithin_15 : decode b_SG_isWithin 15 = .ok (.ireturn, 1) := by decide +kernel
theorem d_SG_isEnd_0 : decode b_SG_isEnd 0 = .ok (.iload_n 0, 1) := by decide +kernel
theorem d_SG_isEnd_1 : decode b_SG_isEnd 1 = .ok (.iconst 0, 1) := by decide +kernel
theorem d_SG_isEnd_2 : decode b_SG_isEnd 2 = .ok (.iconst 1, 1) := by decide +kernel
theorem d_SG_isEnd_3 : decode b_SG_isEnd 3 = .ok (.invokestatic 91, 3) := by decide +kernel
theorem d_SG_isEnd_6 : decode b_SG_isEnd 6 = .ok (.ireturn, 1) := by decide +kernel
theorem d_SG_isTurn_0 : decode b_SG_isTurn 0 = .ok (.iload_n 0, 1) := by decide +kernel
theorem d_SG_isTurn_1 : decode b_SG_isTurn 1 = .ok (.iconst 0, 1) := by decide +kernel
theorem d_SG_isTurn_2 : decode b_SG_isTurn 2 = .ok (.iconst 1, 1) := by decide +kernel
theorem d_SG_isTurn_3 : decode b_SG_isTurn 3 = .ok (.invokestatic 91, 3) := by decide +kernel
theorem d_SG_isTurn_6 : decode b_SG_isTurn 6 = .ok (.ireturn, 1) := by decide +kernel
theorem d_Lo_isCell_0 : decode b_Lo_isCell 0 = .ok (.iload_n 1, 1) := by decide +kernel
theorem d_Lo_isCell_1 : decode b_Lo_isCell 1 = .ok (.iconst 0, 1) := by decide +kernel
theorem d_Lo_isCell_2 : decode b_Lo_isCell 2 = .ok (.aload_n 0, 1) := by decide +kernel
theorem d_Lo_isCell_3 : decode b_Lo_isCell 3 = .ok (.getfield 9, 3) := by decide +kernel
theorem d_Lo_isCell_6 : decode b_Lo_isCell 6 = .ok (.iconst 1, 1) := by decide +kernel
theorem d_Lo_isCell_7 : decode b_Lo_isCell 7 = .ok (.isub, 1) := by decide +kernel
theorem d_Lo_isCell_8 : decode b_Lo_isCell 8 = .ok (.invokestatic 29, 3) := by decide +kernel
theorem d_Lo_isCell_11 : decode b_Lo_isCell 11 = .ok (.ifCond .eq 21, 3) := by decide +kernel
theorem d_Lo_isCell_14 : decode b_Lo_isCell 14 = .ok (.iload_n 2, 1) := by decide +kernel
theorem d_Lo_isCell_15 : decode b_Lo_isCell 15 = .ok (.iconst 0, 1) := by decide +kernel
theorem d_Lo_isCell_16 : decode b_Lo_isCell 16 = .ok (.aload_n 0, 1) := by decide +kernel
theorem d_Lo_isCell_17 : decode b_Lo_isCell 17 = .ok (.getfield 9, 3) := by decide +kernel
theorem d_Lo_isCell_20 : decode b_Lo_isCell 20 = .ok (.iconst 1, 1) := by decide +kernel
theorem d_Lo_isCell_21 : decode b_Lo_isCell 21 = .ok (.isub, 1) := by decide +kernel
theorem d_Lo_isCell_22 : decode b_Lo_isCell 22 = .ok (.invokestatic 29, 3) := by decide +kernel
theorem d_Lo_isCell_25 : decode b_Lo_isCell 25 = .ok (.ifCond .eq 7, 3) := by decide +kernel
theorem d_Lo_isCell_28 : decode b_Lo_isCell 28 = .ok (.iconst 1, 1) := by decide +kernel
theorem d_Lo_isCell_29 : decode b_Lo_isCell 29 = .ok (.goto 4, 3) := by decide +kernel
theorem d_Lo_isCell_32 : decode b_Lo_isCell 32 = .ok (.iconst 0, 1) := by decide +kernel
theorem d_Lo_isCell_33 : decode b_Lo_isCell 33 = .ok (.ireturn, 1) := by decide +kernel
set_option maxHeartbeats 4000000 in
set_option maxRecDepth 100000 in
theorem c_isWithin (l : Launch) (D : va_G) (cI cJ cZ : ClassId) (x : Int32) (a : Int32) (b : Int32) (zx : Int) (za : Int) (zb : Int) (ex : x.toInt = zx) (ea : a.toInt = za) (eb : b.toInt = zb) : kRead l y_SG_isWithin w_SG_isWithin ({ frames := 0, cells := 0, slots := 0, locals := 0 }) D vwCl (tyL cI cJ cZ) [] [.int x, .int a, .int b] (.int (pI (za ≤ zx ∧ zx ≤ zb))) := by
  refine Met.ofW (cc := b_SG_isWithin) (maxL := 3) (ret := (some (.boolean))) (by decide) rfl ?_
  intro p e s m args below meth c s₁ B hml hv
  obtain ⟨rfl, hP, hK, hZ⟩ := hv
  have hx := B.exec
  have hb := B.bytes
  have hr := B.returns
  have hts := atoms_spec (ws := w_SG_isWithin) B.pre
  have hown : s.vm.findClass R_SG = some m.cls := findClass_of_methodNamed B.named
  have hlocks := B.notSynchronized
  have hP : va_P D vwCl [] s.heap := hP
  have hl := lv_entry ([.int x, .int a, .int b]) (n := 3) (Nat.le_of_ble_eq_true rfl)
  rw [lg_entry_eq]
  generalize (lg_sl ([.int x, .int a, .int b]) ++ List.replicate (3 - (lg_sl ([.int x, .int a, .int b])).length) Slot.unset).toArray = ls at hl ⊢
  have hl : lv_has ls 3 [(0, .int x), (1, .int a), (2, .int b)] := hl
  refine lv_iload_n hx hb d_SG_isWithin_0 rfl (lv_at hl 0 rfl) ?_
  refine lv_iload_n hx hb d_SG_isWithin_1 rfl (lv_at hl 1 rfl) ?_
  refine kb_clt (tgt := 14) rfl rfl hx hb d_SG_isWithin_2 (by decide) (fun c_2 => ?_) (fun c_2 => ?_)
  · refine lv_iconst (v := nI 0) hx hb d_SG_isWithin_14 (by decide +kernel) ?_
    refine ka_i (y := pI (za ≤ zx ∧ zx ≤ zb)) (pI_z (fun h => by omega)) ?_
    exact krdz (pI_narrow _) hx hb hr hlocks d_SG_isWithin_15
  · refine lv_iload_n hx hb d_SG_isWithin_5 rfl (lv_at hl 0 rfl) ?_
    refine lv_iload_n hx hb d_SG_isWithin_6 rfl (lv_at hl 2 rfl) ?_
    refine kb_cgt (tgt := 14) rfl rfl hx hb d_SG_isWithin_7 (by decide) (fun c_7 => ?_) (fun c_7 => ?_)
    · refine lv_iconst (v := nI 0) hx hb d_SG_isWithin_14 (by decide +kernel) ?_
      refine ka_i (y := pI (za ≤ zx ∧ zx ≤ zb)) (pI_z (fun h => by omega)) ?_
      exact krdz (pI_narrow _) hx hb hr hlocks d_SG_isWithin_15
    · refine lv_iconst (v := nI 1) hx hb d_SG_isWithin_10 (by decide +kernel) ?_
      refine lv_goto (tgt := 15) hx hb d_SG_isWithin_11 (by decide) ?_
      refine ka_i (y := pI (za ≤ zx ∧ zx ≤ zb)) (pI_1 (by omega)) ?_
      exact krdz (pI_narrow _) hx hb hr hlocks d_SG_isWithin_15
set_option maxHeartbeats 4000000 in
set_option maxRecDepth 100000 in
theorem c_isEnd (l : Launch) (D : va_G) (cI cJ cZ : ClassId) (x : Int32)  : kRead l y_SG_isEnd w_SG_isEnd ({ frames := 1, cells := 0, slots := 0, locals := 22 }) D vwCl (tyL cI cJ cZ) [] [.int x] (.int (pI (0 ≤ x.toInt ∧ x.toInt ≤ 1))) := by
  refine Met.ofW (cc := b_SG_isEnd) (maxL := 1) (ret := (some (.boolean))) (by decide) rfl ?_
  intro p e s m args below meth c s₁ B hml hv
  obtain ⟨rfl, hP, hK, hZ⟩ := hv
  have hx := B.exec
  have hb := B.bytes
  have hr := B.returns
  have hts := atoms_spec (ws := w_SG_isEnd) B.pre
  have hown : s.vm.findClass R_SG = some m.cls := findClass_of_methodNamed B.named
  have hlocks := B.notSynchronized
  have hP : va_P D vwCl [] s.heap := hP
  have hl := lv_entry ([.int x]) (n := 1) (Nat.le_of_ble_eq_true rfl)
  rw [lg_entry_eq]
  generalize (lg_sl ([.int x]) ++ List.replicate (1 - (lg_sl ([.int x])).length) Slot.unset).toArray = ls at hl ⊢
  have hl : lv_has ls 1 [(0, .int x)] := hl
  refine lv_iload_n hx hb d_SG_isEnd_0 rfl (lv_at hl 0 rfl) ?_
  refine lv_iconst (v := nI 0) hx hb d_SG_isEnd_1 (by decide +kernel) ?_
  refine lv_iconst (v := nI 1) hx hb d_SG_isEnd_2 (by decide +kernel) ?_
  refine kcallR (r := .int (pI (((0 : Nat) : Int) ≤ x.toInt ∧ x.toInt ≤ ((1 : Nat) : Int)))) (va_runS (As := [.int x, .int (nI 0), .int (nI 1)]) (rest := []) ⟨hx, hb, hml, hown, hts⟩ (c_isWithin l D cI cJ cZ x (nI 0) (nI 1) x.toInt ((0 : Nat) : Int) ((1 : Nat) : Int) rfl (nI_t (by omega)) (nI_t (by omega))) ⟨callB_of 3 hts (gd kc_SG_isWithin) rfl rfl rfl (hts _ (List.mem_cons_of_mem _ k_1)) (hts _ (List.mem_cons_of_mem _ k_313)) (by decide +kernel) ⟨Nat.le_of_ble_eq_true rfl, Nat.le_of_ble_eq_true rfl⟩, hts _ (List.mem_cons_of_mem _ k_280)⟩ ⟨kR_blind, kR_at hP hK hZ [] rfl⟩ rfl rfl hl.1 rfl (lv_room (Nat.le_of_ble_eq_true rfl)) d_SG_isEnd_3 ⟨Nat.zero_le _, Nat.zero_le _⟩) ?_
  refine ka_i (y := pI (0 ≤ x.toInt ∧ x.toInt ≤ 1)) (pI_iff (by omega)) ?_
  exact krdz (pI_narrow _) hx hb hr hlocks d_SG_isEnd_6
set_option maxHeartbeats 4000000 in
set_option maxRecDepth 100000 in
theorem c_isTurn (l : Launch) (D : va_G) (cI cJ cZ : ClassId) (x : Int32)  : kRead l y_SG_isTurn w_SG_isTurn ({ frames := 1, cells := 0, slots := 0, locals := 22 }) D vwCl (tyL cI cJ cZ) [] [.int x] (.int (pI (0 ≤ x.toInt ∧ x.toInt ≤ 1))) := by
  refine Met.ofW (cc := b_SG_isTurn) (maxL := 1) (ret := (some (.boolean))) (by decide) rfl ?_
  intro p e s m args below meth c s₁ B hml hv
  obtain ⟨rfl, hP, hK, hZ⟩ := hv
  have hx := B.exec
  have hb := B.bytes
  have hr := B.returns
  have hts := atoms_spec (ws := w_SG_isTurn) B.pre
  have hown : s.vm.findClass R_SG = some m.cls := findClass_of_methodNamed B.named
  have hlocks := B.notSynchronized
  have hP : va_P D vwCl [] s.heap := hP
  have hl := lv_entry ([.int x]) (n := 1) (Nat.le_of_ble_eq_true rfl)
  rw [lg_entry_eq]
  generalize (lg_sl ([.int x]) ++ List.replicate (1 - (lg_sl ([.int x])).length) Slot.unset).toArray = ls at hl ⊢
  have hl : lv_has ls 1 [(0, .int x)] := hl
  refine lv_iload_n hx hb d_SG_isTurn_0 rfl (lv_at hl 0 rfl) ?_
  refine lv_iconst (v := nI 0) hx hb d_SG_isTurn_1 (by decide +kernel) ?_
  refine lv_iconst (v := nI 1) hx hb d_SG_isTurn_2 (by decide +kernel) ?_
  refine kcallR (r := .int (pI (((0 : Nat) : Int) ≤ x.toInt ∧ x.toInt ≤ ((1 : Nat) : Int)))) (va_runS (As := [.int x, .int (nI 0), .int (nI 1)]) (rest := []) ⟨hx, hb, hml, hown, hts⟩ (c_isWithin l D cI cJ cZ x (nI 0) (nI 1) x.toInt ((0 : Nat) : Int) ((1 : Nat) : Int) rfl (nI_t (by omega)) (nI_t (by omega))) ⟨callB_of 3 hts (gd kc_SG_isWithin) rfl rfl rfl (hts _ (List.mem_cons_of_mem _ k_1)) (hts _ (List.mem_cons_of_mem _ k_313)) (by decide +kernel) ⟨Nat.le_of_ble_eq_true rfl, Nat.le_of_ble_eq_true rfl⟩, hts _ (List.mem_cons_of_mem _ k_280)⟩ ⟨kR_blind, kR_at hP hK hZ [] rfl⟩ rfl rfl hl.1 rfl (lv_room (Nat.le_of_ble_eq_true rfl)) d_SG_isTurn_3 ⟨Nat.zero_le _, Nat.zero_le _⟩) ?_
  refine ka_i (y := pI (0 ≤ x.toInt ∧ x.toInt ≤ 1)) (pI_iff (by omega)) ?_
  exact krdz (pI_narrow _) hx hb hr hlocks d_SG_isTurn_6
set_option maxHeartbeats 4000000 in
set_option maxRecDepth 100000 in
theorem c_isCell (l : Launch) (D : va_G) (cI cJ cZ : ClassId) (h0 : Nat) (side : Nat) (a1 : Nat) (a2 : Nat) (a3 : Nat) (a4 : Nat) (sm : Prop) (x : Int32) (y : Int32) (s1 : 1 ≤ side) (s2 : side ≤ 20) : kRead l y_Lo_isCell w_Lo_isCell ({ frames := 1, cells := 0, slots := 0, locals := 22 }) D vwCl (tyL cI cJ cZ) [(h0, .inr (3, [.int (nI side), .ref a1, .ref a2, .ref a3, .ref a4, .int (pI sm)]))] [.ref h0, .int x, .int y] (.int (pI ((0 ≤ x.toInt ∧ x.toInt < (side : Int)) ∧ 0 ≤ y.toInt ∧ y.toInt < (side : Int)))) := by
  refine Met.ofW (cc := b_Lo_isCell) (maxL := 3) (ret := (some (.boolean))) (by decide) rfl ?_
  intro p e s m args below meth c s₁ B hml hv
  obtain ⟨rfl, hP, hK, hZ⟩ := hv
  have hx := B.exec
  have hb := B.bytes
  have hr := B.returns
  have hts := atoms_spec (ws := w_Lo_isCell) B.pre
  have hown : s.vm.findClass R_Lo = some m.cls := findClass_of_methodNamed B.named
  have hlocks := B.notSynchronized
  have hP : va_P D vwCl [(h0, .inr (3, [.int (nI side), .ref a1, .ref a2, .ref a3, .ref a4, .int (pI sm)]))] s.heap := hP
  have hl := lv_entry ([.ref h0, .int x, .int y]) (n := 3) (Nat.le_of_ble_eq_true rfl)
  rw [lg_entry_eq]
  generalize (lg_sl ([.ref h0, .int x, .int y]) ++ List.replicate (3 - (lg_sl ([.ref h0, .int x, .int y])).length) Slot.unset).toArray = ls at hl ⊢
  have hl : lv_has ls 3 [(0, .ref h0), (1, .int x), (2, .int y)] := hl
  refine lv_iload_n hx hb d_Lo_isCell_0 rfl (lv_at hl 1 rfl) ?_
  refine lv_iconst (v := nI 0) hx hb d_Lo_isCell_1 (by decide +kernel) ?_
  refine lv_aload_n hx hb d_Lo_isCell_2 rfl (lv_at hl 0 rfl) ?_
  refine va_get (D := D) (ci := 3) (v := .int (nI side)) (C := R_Lo) (T := T_Lo) (N := 6) hx hb hts (fun w h => List.mem_cons_of_mem _ (iw_Lo w h)) hown hK hP 0 rfl rfl 0 (by decide) (hts _ (List.mem_cons_of_mem _ k_35)) (fun _ h9 => h9) rfl d_Lo_isCell_3 ?_
  refine lv_iconst (v := nI 1) hx hb d_Lo_isCell_6 (by decide +kernel) ?_
  refine lv_isub hx hb d_Lo_isCell_7 ?_
  refine ka_i (y := nI (side - 1)) (pk_sub (by omega)) ?_
  refine kcallR (r := .int (pI (((0 : Nat) : Int) ≤ x.toInt ∧ x.toInt ≤ ((side - 1 : Nat) : Int)))) (va_runSN (As := [.int x, .int (nI 0), .int (nI (side - 1))]) (rest := []) ⟨hx, hb, hml, hown, hts⟩ (c_isWithin l D cI cJ cZ x (nI 0) (nI (side - 1)) x.toInt ((0 : Nat) : Int) ((side - 1 : Nat) : Int) rfl (nI_t (by omega)) (nI_t (by omega))) ⟨va_cnB 3 hts (gd kc_SG_isWithin) rfl rfl rfl (hZ _ kn_318) (hts _ (List.mem_cons_of_mem _ k_1)) (by decide +kernel) ⟨Nat.le_of_ble_eq_true rfl, Nat.le_of_ble_eq_true rfl⟩, hts _ (List.mem_cons_of_mem _ k_280), trivial⟩ ⟨kR_blind, kR_at hP hK hZ [] rfl⟩ rfl rfl hl.1 rfl (lv_room (Nat.le_of_ble_eq_true rfl)) d_Lo_isCell_8 ⟨Nat.zero_le _, Nat.zero_le _⟩) ?_
  refine kb_eqP (tgt := 32) hx hb d_Lo_isCell_11 (by decide) (fun c_11 => ?_) (fun c_11 => ?_)
  · refine lv_iconst (v := nI 0) hx hb d_Lo_isCell_32 (by decide +kernel) ?_
    refine ka_i (y := pI ((0 ≤ x.toInt ∧ x.toInt < (side : Int)) ∧ 0 ≤ y.toInt ∧ y.toInt < (side : Int))) (pI_z (fun h => by omega)) ?_
    exact krdz (pI_narrow _) hx hb hr hlocks d_Lo_isCell_33
  · refine lv_iload_n hx hb d_Lo_isCell_14 rfl (lv_at hl 2 rfl) ?_
    refine lv_iconst (v := nI 0) hx hb d_Lo_isCell_15 (by decide +kernel) ?_
    refine lv_aload_n hx hb d_Lo_isCell_16 rfl (lv_at hl 0 rfl) ?_
    refine va_get (D := D) (ci := 3) (v := .int (nI side)) (C := R_Lo) (T := T_Lo) (N := 6) hx hb hts (fun w h => List.mem_cons_of_mem _ (iw_Lo w h)) hown hK hP 0 rfl rfl 0 (by decide) (hts _ (List.mem_cons_of_mem _ k_35)) (fun _ h9 => h9) rfl d_Lo_isCell_17 ?_
    refine lv_iconst (v := nI 1) hx hb d_Lo_isCell_20 (by decide +kernel) ?_
    refine lv_isub hx hb d_Lo_isCell_21 ?_
    refine ka_i (y := nI (side - 1)) (pk_sub (by omega)) ?_
    refine kcallR (r := .int (pI (((0 : Nat) : Int) ≤ y.toInt ∧ y.toInt ≤ ((side - 1 : Nat) : Int)))) (va_runSN (As := [.int y, .int (nI 0), .int (nI (side - 1))]) (rest := []) ⟨hx, hb, hml, hown, hts⟩ (c_isWithin l D cI cJ cZ y (nI 0) (nI (side - 1)) y.toInt ((0 : Nat) : Int) ((side - 1 : Nat) : Int) rfl (nI_t (by omega)) (nI_t (by omega))) ⟨va_cnB 3 hts (gd kc_SG_isWithin) rfl rfl rfl (hZ _ kn_318) (hts _ (List.mem_cons_of_mem _ k_1)) (by decide +kernel) ⟨Nat.le_of_ble_eq_true rfl, Nat.le_of_ble_eq_true rfl⟩, hts _ (List.mem_cons_of_mem _ k_280), trivial⟩ ⟨kR_blind, kR_at hP hK hZ [] rfl⟩ rfl rfl hl.1 rfl (lv_room (Nat.le_of_ble_eq_true rfl)) d_Lo_isCell_22 ⟨Nat.zero_le _, Nat.zero_le _⟩) ?_
    refine kb_eqP (tgt := 32) hx hb d_Lo_isCell_25 (by decide) (fun c_25 => ?_) (fun c_25 => ?_)
    · refine lv_iconst (v := nI 0) hx hb d_Lo_isCell_32 (by decide +kernel) ?_
      refine ka_i (y := pI ((0 ≤ x.toInt ∧ x.toInt < (side : Int)) ∧ 0 ≤ y.toInt ∧ y.toInt < (side : Int))) (pI_z (fun h => by omega)) ?_
      exact krdz (pI_narrow _) hx hb hr hlocks d_Lo_isCell_33
    · refine lv_iconst (v := nI 1) hx hb d_Lo_isCell_28 (by decide +kernel) ?_
      refine lv_goto (tgt := 33) hx hb d_Lo_isCell_29 (by decide) ?_
      refine ka_i (y := pI ((0 ≤ x.toInt ∧ x.toInt < (side : Int)) ∧ 0 ≤ y.toInt ∧ y.toInt < (side : Int))) (pI_1 (by omega)) ?_
      exact krdz (pI_narrow _) hx hb hr hlocks d_Lo_isCell_33
