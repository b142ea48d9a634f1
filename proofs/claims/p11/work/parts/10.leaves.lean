theorem d_SG_isWithin_0 : decode b_SG_isWithin 0 = .ok (.iload_n 0, 1) := by decide +kernel
theorem d_SG_isWithin_1 : decode b_SG_isWithin 1 = .ok (.iload_n 1, 1) := by decide +kernel
theorem d_SG_isWithin_2 : decode b_SG_isWithin 2 = .ok (.if_icmp .lt 12, 3) := by decide +kernel
theorem d_SG_isWithin_5 : decode b_SG_isWithin 5 = .ok (.iload_n 0, 1) := by decide +kernel
theorem d_SG_isWithin_6 : decode b_SG_isWithin 6 = .ok (.iload_n 2, 1) := by decide +kernel
theorem d_SG_isWithin_7 : decode b_SG_isWithin 7 = .ok (.if_icmp .gt 7, 3) := by decide +kernel
theorem d_SG_isWithin_10 : decode b_SG_isWithin 10 = .ok (.iconst 1, 1) := by decide +kernel
theorem d_SG_isWithin_11 : decode b_SG_isWithin 11 = .ok (.goto 4, 3) := by decide +kernel
theorem d_SG_isWithin_14 : decode b_SG_isWithin 14 = .ok (.iconst 0, 1) := by decide +kernel
theorem d_SG_isWithin_15 : decode b_SG_isWithin 15 = .ok (.ireturn, 1) := by decide +kernel
theorem d_SG_isEnd_0 : decode b_SG_isEnd 0 = .ok (.iload_n 0, 1) := by decide +kernel
theorem d_SG_isEnd_1 : decode b_SG_isEnd 1 = .ok (.iconst 0, 1) := by decide +kernel
theorem d_SG_isEnd_2 : decode b_SG_isEnd 2 = .ok (.iconst 1, 1) := by decide +kernel
theorem d_SG_isEnd_3 : decode b_SG_isEnd 3 = .ok (.invokestatic 91, 3) := by decide +kernel
theorem d_SG_isEnd_6 : decode b_SG_isEnd 6 = .ok (.ireturn, 1) := by decide +kernel
theorem d_SG_isTurn_0 : decode b_SG_isTurn 0 = .ok (.iload_n 0, 1) := by decide +kernel
theorem d_SG_isTurn_1 : decode b_SG_isTurn 1 = .ok (.iconst 0, 1) := by decide +kernel
theorem d_SG_isTurn_2 : decode b_SG_isTurn 2 = .ok (.iconst 1, 1) := by decide +kernel
theorem d_SG_isTurn_3 : decode b_SG_isTurn 3 = .ok (.invokestatic 91, 3) := by decide +kernel
theorem d_SG_isTurn_6 : decode b_SG_isTurn 6 = .ok (.ireturn, 1) := by decide +kernel
theorem d_Lo_isCell_0 : decode b_Lo_isCell 0 = .ok (.iload_n 1, 1) := by decide +kernel
theorem d_Lo_isCell_1 : decode b_Lo_isCell 1 = .ok (.iconst 0, 1) := by decide +kernel
theorem d_Lo_isCell_2 : decode b_Lo_isCell 2 = .ok (.aload_n 0, 1) := by decide +kernel
theorem d_Lo_isCell_3 : decode b_Lo_isCell 3 = .ok (.getfield 9, 3) := by decide +kernel
theorem d_Lo_isCell_6 : decode b_Lo_isCell 6 = .ok (.iconst 1, 1) := by decide +kernel
theorem d_Lo_isCell_7 : decode b_Lo_isCell 7 = .ok (.isub, 1) := by decide +kernel
theorem d_Lo_isCell_8 : decode b_Lo_isCell 8 = .ok (.invokestatic 29, 3) := by decide +kernel
theorem d_Lo_isCell_11 : decode b_Lo_isCell 11 = .ok (.ifCond .eq 21, 3) := by decide +kernel
theorem d_Lo_isCell_14 : decode b_Lo_isCell 14 = .ok (.iload_n 2, 1) := by decide +kernel
theorem d_Lo_isCell_15 : decode b_Lo_isCell 15 = .ok (.iconst 0, 1) := by decide +kernel
theorem d_Lo_isCell_16 : decode b_Lo_isCell 16 = .ok (.aload_n 0, 1) := by decide +kernel
theorem d_Lo_isCell_17 : decode b_Lo_isCell 17 = .ok (.getfield 9, 3) := by decide +kernel
theorem d_Lo_isCell_20 : decode b_Lo_isCell 20 = .ok (.iconst 1, 1) := by decide +kernel
theorem d_Lo_isCell_21 : decode b_Lo_isCell 21 = .ok (.isub, 1) := by decide +kernel
theorem d_Lo_isCell_22 : decode b_Lo_isCell 22 = .ok (.invokestatic 29, 3) := by decide +kernel
theorem d_Lo_isCell_25 : decode b_Lo_isCell 25 = .ok (.ifCond .eq 7, 3) := by decide +kernel
theorem d_Lo_isCell_28 : decode b_Lo_isCell 28 = .ok (.iconst 1, 1) := by decide +kernel
theorem d_Lo_isCell_29 : decode b_Lo_isCell 29 = .ok (.goto 4, 3) := by decide +kernel
theorem d_Lo_isCell_32 : decode b_Lo_isCell 32 = .ok (.iconst 0, 1) := by decide +kernel
theorem d_Lo_isCell_33 : decode b_Lo_isCell 33 = .ok (.ireturn, 1) := by decide +kernel
theorem d_Si_has_0 : decode b_Si_has 0 = .ok (.iload_n 1, 1) := by decide +kernel
theorem d_Si_has_1 : decode b_Si_has 1 = .ok (.iconst 0, 1) := by decide +kernel
theorem d_Si_has_2 : decode b_Si_has 2 = .ok (.aload_n 0, 1) := by decide +kernel
theorem d_Si_has_3 : decode b_Si_has 3 = .ok (.getfield 24, 3) := by decide +kernel
theorem d_Si_has_6 : decode b_Si_has 6 = .ok (.iconst 1, 1) := by decide +kernel
theorem d_Si_has_7 : decode b_Si_has 7 = .ok (.isub, 1) := by decide +kernel
theorem d_Si_has_8 : decode b_Si_has 8 = .ok (.invokestatic 28, 3) := by decide +kernel
theorem d_Si_has_11 : decode b_Si_has 11 = .ok (.ireturn, 1) := by decide +kernel
theorem d_Si_alongX_0 : decode b_Si_alongX 0 = .ok (.iload_n 2, 1) := by decide +kernel
theorem d_Si_alongX_1 : decode b_Si_alongX 1 = .ok (.ifCond .ne 12, 3) := by decide +kernel
theorem d_Si_alongX_4 : decode b_Si_alongX 4 = .ok (.aload_n 0, 1) := by decide +kernel
theorem d_Si_alongX_5 : decode b_Si_alongX 5 = .ok (.getfield 15, 3) := by decide +kernel
theorem d_Si_alongX_8 : decode b_Si_alongX 8 = .ok (.iload_n 1, 1) := by decide +kernel
theorem d_Si_alongX_9 : decode b_Si_alongX 9 = .ok (.iaload, 1) := by decide +kernel
theorem d_Si_alongX_10 : decode b_Si_alongX 10 = .ok (.goto 9, 3) := by decide +kernel
theorem d_Si_alongX_13 : decode b_Si_alongX 13 = .ok (.aload_n 0, 1) := by decide +kernel
theorem d_Si_alongX_14 : decode b_Si_alongX 14 = .ok (.getfield 9, 3) := by decide +kernel
theorem d_Si_alongX_17 : decode b_Si_alongX 17 = .ok (.iload_n 1, 1) := by decide +kernel
theorem d_Si_alongX_18 : decode b_Si_alongX 18 = .ok (.iaload, 1) := by decide +kernel
theorem d_Si_alongX_19 : decode b_Si_alongX 19 = .ok (.ireturn, 1) := by decide +kernel
theorem d_Si_alongY_0 : decode b_Si_alongY 0 = .ok (.iload_n 2, 1) := by decide +kernel
theorem d_Si_alongY_1 : decode b_Si_alongY 1 = .ok (.ifCond .ne 12, 3) := by decide +kernel
theorem d_Si_alongY_4 : decode b_Si_alongY 4 = .ok (.aload_n 0, 1) := by decide +kernel
theorem d_Si_alongY_5 : decode b_Si_alongY 5 = .ok (.getfield 9, 3) := by decide +kernel
theorem d_Si_alongY_8 : decode b_Si_alongY 8 = .ok (.iload_n 1, 1) := by decide +kernel
theorem d_Si_alongY_9 : decode b_Si_alongY 9 = .ok (.iaload, 1) := by decide +kernel
theorem d_Si_alongY_10 : decode b_Si_alongY 10 = .ok (.goto 9, 3) := by decide +kernel
theorem d_Si_alongY_13 : decode b_Si_alongY 13 = .ok (.aload_n 0, 1) := by decide +kernel
theorem d_Si_alongY_14 : decode b_Si_alongY 14 = .ok (.getfield 15, 3) := by decide +kernel
theorem d_Si_alongY_17 : decode b_Si_alongY 17 = .ok (.iload_n 1, 1) := by decide +kernel
theorem d_Si_alongY_18 : decode b_Si_alongY 18 = .ok (.iaload, 1) := by decide +kernel
theorem d_Si_alongY_19 : decode b_Si_alongY 19 = .ok (.ireturn, 1) := by decide +kernel
theorem d_Be_xAt_0 : decode b_Be_xAt 0 = .ok (.aload_n 0, 1) := by decide +kernel
theorem d_Be_xAt_1 : decode b_Be_xAt 1 = .ok (.getfield 45, 3) := by decide +kernel
theorem d_Be_xAt_4 : decode b_Be_xAt 4 = .ok (.ifCond .ne 7, 3) := by decide +kernel
theorem d_Be_xAt_7 : decode b_Be_xAt 7 = .ok (.iload_n 2, 1) := by decide +kernel
theorem d_Be_xAt_8 : decode b_Be_xAt 8 = .ok (.goto 4, 3) := by decide +kernel
theorem d_Be_xAt_11 : decode b_Be_xAt 11 = .ok (.iload_n 1, 1) := by decide +kernel
theorem d_Be_xAt_12 : decode b_Be_xAt 12 = .ok (.ireturn, 1) := by decide +kernel
theorem d_Be_yAt_0 : decode b_Be_yAt 0 = .ok (.aload_n 0, 1) := by decide +kernel
theorem d_Be_yAt_1 : decode b_Be_yAt 1 = .ok (.getfield 45, 3) := by decide +kernel
theorem d_Be_yAt_4 : decode b_Be_yAt 4 = .ok (.ifCond .ne 7, 3) := by decide +kernel
theorem d_Be_yAt_7 : decode b_Be_yAt 7 = .ok (.iload_n 1, 1) := by decide +kernel
theorem d_Be_yAt_8 : decode b_Be_yAt 8 = .ok (.goto 4, 3) := by decide +kernel
theorem d_Be_yAt_11 : decode b_Be_yAt 11 = .ok (.iload_n 2, 1) := by decide +kernel
theorem d_Be_yAt_12 : decode b_Be_yAt 12 = .ok (.ireturn, 1) := by decide +kernel
theorem d_Lo_sumIn_0 : decode b_Lo_sumIn 0 = .ok (.iload_n 2, 1) := by decide +kernel
theorem d_Lo_sumIn_1 : decode b_Lo_sumIn 1 = .ok (.ifCond .lt 29, 3) := by decide +kernel
theorem d_Lo_sumIn_4 : decode b_Lo_sumIn 4 = .ok (.iload_n 3, 1) := by decide +kernel
theorem d_Lo_sumIn_5 : decode b_Lo_sumIn 5 = .ok (.ifCond .lt 25, 3) := by decide +kernel
theorem d_Lo_sumIn_8 : decode b_Lo_sumIn 8 = .ok (.iload_n 2, 1) := by decide +kernel
theorem d_Lo_sumIn_9 : decode b_Lo_sumIn 9 = .ok (.aload_n 0, 1) := by decide +kernel
theorem d_Lo_sumIn_10 : decode b_Lo_sumIn 10 = .ok (.getfield 9, 3) := by decide +kernel
theorem d_Lo_sumIn_13 : decode b_Lo_sumIn 13 = .ok (.iload 4, 2) := by decide +kernel
theorem d_Lo_sumIn_15 : decode b_Lo_sumIn 15 = .ok (.isub, 1) := by decide +kernel
theorem d_Lo_sumIn_16 : decode b_Lo_sumIn 16 = .ok (.if_icmp .gt 14, 3) := by decide +kernel
theorem d_Lo_sumIn_19 : decode b_Lo_sumIn 19 = .ok (.iload_n 3, 1) := by decide +kernel
theorem d_Lo_sumIn_20 : decode b_Lo_sumIn 20 = .ok (.aload_n 0, 1) := by decide +kernel
theorem d_Lo_sumIn_21 : decode b_Lo_sumIn 21 = .ok (.getfield 9, 3) := by decide +kernel
theorem d_Lo_sumIn_24 : decode b_Lo_sumIn 24 = .ok (.iload 5, 2) := by decide +kernel
theorem d_Lo_sumIn_26 : decode b_Lo_sumIn 26 = .ok (.isub, 1) := by decide +kernel
theorem d_Lo_sumIn_27 : decode b_Lo_sumIn 27 = .ok (.if_icmp .le 5, 3) := by decide +kernel
theorem d_Lo_sumIn_30 : decode b_Lo_sumIn 30 = .ok (.iconst (-1), 1) := by decide +kernel
theorem d_Lo_sumIn_31 : decode b_Lo_sumIn 31 = .ok (.ireturn, 1) := by decide +kernel
theorem d_Lo_sumIn_32 : decode b_Lo_sumIn 32 = .ok (.iload_n 3, 1) := by decide +kernel
theorem d_Lo_sumIn_33 : decode b_Lo_sumIn 33 = .ok (.aload_n 0, 1) := by decide +kernel
theorem d_Lo_sumIn_34 : decode b_Lo_sumIn 34 = .ok (.getfield 9, 3) := by decide +kernel
theorem d_Lo_sumIn_37 : decode b_Lo_sumIn 37 = .ok (.iconst 1, 1) := by decide +kernel
theorem d_Lo_sumIn_38 : decode b_Lo_sumIn 38 = .ok (.iadd, 1) := by decide +kernel
theorem d_Lo_sumIn_39 : decode b_Lo_sumIn 39 = .ok (.imul, 1) := by decide +kernel
theorem d_Lo_sumIn_40 : decode b_Lo_sumIn 40 = .ok (.iload_n 2, 1) := by decide +kernel
theorem d_Lo_sumIn_41 : decode b_Lo_sumIn 41 = .ok (.iadd, 1) := by decide +kernel
theorem d_Lo_sumIn_42 : decode b_Lo_sumIn 42 = .ok (.istore 6, 2) := by decide +kernel
theorem d_Lo_sumIn_44 : decode b_Lo_sumIn 44 = .ok (.iload_n 3, 1) := by decide +kernel
theorem d_Lo_sumIn_45 : decode b_Lo_sumIn 45 = .ok (.iload 5, 2) := by decide +kernel
theorem d_Lo_sumIn_47 : decode b_Lo_sumIn 47 = .ok (.iadd, 1) := by decide +kernel
theorem d_Lo_sumIn_48 : decode b_Lo_sumIn 48 = .ok (.aload_n 0, 1) := by decide +kernel
theorem d_Lo_sumIn_49 : decode b_Lo_sumIn 49 = .ok (.getfield 9, 3) := by decide +kernel
theorem d_Lo_sumIn_52 : decode b_Lo_sumIn 52 = .ok (.iconst 1, 1) := by decide +kernel
theorem d_Lo_sumIn_53 : decode b_Lo_sumIn 53 = .ok (.iadd, 1) := by decide +kernel
theorem d_Lo_sumIn_54 : decode b_Lo_sumIn 54 = .ok (.imul, 1) := by decide +kernel
theorem d_Lo_sumIn_55 : decode b_Lo_sumIn 55 = .ok (.iload_n 2, 1) := by decide +kernel
theorem d_Lo_sumIn_56 : decode b_Lo_sumIn 56 = .ok (.iadd, 1) := by decide +kernel
theorem d_Lo_sumIn_57 : decode b_Lo_sumIn 57 = .ok (.istore 7, 2) := by decide +kernel
theorem d_Lo_sumIn_59 : decode b_Lo_sumIn 59 = .ok (.aload_n 1, 1) := by decide +kernel
theorem d_Lo_sumIn_60 : decode b_Lo_sumIn 60 = .ok (.iload 7, 2) := by decide +kernel
theorem d_Lo_sumIn_62 : decode b_Lo_sumIn 62 = .ok (.iload 4, 2) := by decide +kernel
theorem d_Lo_sumIn_64 : decode b_Lo_sumIn 64 = .ok (.iadd, 1) := by decide +kernel
theorem d_Lo_sumIn_65 : decode b_Lo_sumIn 65 = .ok (.iaload, 1) := by decide +kernel
theorem d_Lo_sumIn_66 : decode b_Lo_sumIn 66 = .ok (.aload_n 1, 1) := by decide +kernel
theorem d_Lo_sumIn_67 : decode b_Lo_sumIn 67 = .ok (.iload 7, 2) := by decide +kernel
theorem d_Lo_sumIn_69 : decode b_Lo_sumIn 69 = .ok (.iaload, 1) := by decide +kernel
theorem d_Lo_sumIn_70 : decode b_Lo_sumIn 70 = .ok (.isub, 1) := by decide +kernel
theorem d_Lo_sumIn_71 : decode b_Lo_sumIn 71 = .ok (.aload_n 1, 1) := by decide +kernel
theorem d_Lo_sumIn_72 : decode b_Lo_sumIn 72 = .ok (.iload 6, 2) := by decide +kernel
theorem d_Lo_sumIn_74 : decode b_Lo_sumIn 74 = .ok (.iload 4, 2) := by decide +kernel
theorem d_Lo_sumIn_76 : decode b_Lo_sumIn 76 = .ok (.iadd, 1) := by decide +kernel
theorem d_Lo_sumIn_77 : decode b_Lo_sumIn 77 = .ok (.iaload, 1) := by decide +kernel
theorem d_Lo_sumIn_78 : decode b_Lo_sumIn 78 = .ok (.isub, 1) := by decide +kernel
theorem d_Lo_sumIn_79 : decode b_Lo_sumIn 79 = .ok (.aload_n 1, 1) := by decide +kernel
theorem d_Lo_sumIn_80 : decode b_Lo_sumIn 80 = .ok (.iload 6, 2) := by decide +kernel
theorem d_Lo_sumIn_82 : decode b_Lo_sumIn 82 = .ok (.iaload, 1) := by decide +kernel
theorem d_Lo_sumIn_83 : decode b_Lo_sumIn 83 = .ok (.iadd, 1) := by decide +kernel
theorem d_Lo_sumIn_84 : decode b_Lo_sumIn 84 = .ok (.ireturn, 1) := by decide +kernel
set_option maxHeartbeats 4000000 in
set_option maxRecDepth 100000 in
theorem c_isWithin (l : Launch) (D : va_G) (cI cJ cZ : ClassId) (x : Int32) (a : Int32) (b : Int32) (zx : Int) (za : Int) (zb : Int) (ex : x.toInt = zx) (ea : a.toInt = za) (eb : b.toInt = zb) : kRead l y_SG_isWithin w_SG_isWithin ({ frames := 0, cells := 0, slots := 0, locals := 0 }) D vwCl (tyL cI cJ cZ) [] [.int x, .int a, .int b] (.int (pI (za ≤ zx ∧ zx ≤ zb))) := by
  refine Met.ofW (cc := b_SG_isWithin) (maxL := 3) (ret := (some (.boolean))) (by decide) rfl ?_
  intro p e s m args below meth c s₁ B hml hv
  obtain ⟨rfl, hP, hK, hZ⟩ := hv
  have hx := B.exec
  have hb := B.bytes
  have hr := B.returns
  have hts := atoms_spec (ws := w_SG_isWithin) B.pre
  have hown : s.vm.findClass R_SG = some m.cls := findClass_of_methodNamed B.named
  have hlocks := B.notSynchronized
  have hP : va_P D vwCl [] s.heap := hP
  have hl := lv_entry ([.int x, .int a, .int b]) (n := 3) (Nat.le_of_ble_eq_true rfl)
  rw [lg_entry_eq]
  generalize (lg_sl ([.int x, .int a, .int b]) ++ List.replicate (3 - (lg_sl ([.int x, .int a, .int b])).length) Slot.unset).toArray = ls at hl ⊢
  have hl : lv_has ls 3 [(0, .int x), (1, .int a), (2, .int b)] := hl
  refine lv_iload_n hx hb d_SG_isWithin_0 rfl (lv_at hl 0 rfl) ?_
  refine lv_iload_n hx hb d_SG_isWithin_1 rfl (lv_at hl 1 rfl) ?_
  refine kb_clt (tgt := 14) rfl rfl hx hb d_SG_isWithin_2 (by decide) (fun c_2 => ?_) (fun c_2 => ?_)
  · refine lv_iconst (v := nI 0) hx hb d_SG_isWithin_14 (by decide +kernel) ?_
    refine ka_i (y := pI (za ≤ zx ∧ zx ≤ zb)) (pI_z (fun h => by omega)) ?_
    exact krdz (pI_narrow _) hx hb hr hlocks d_SG_isWithin_15
  · refine lv_iload_n hx hb d_SG_isWithin_5 rfl (lv_at hl 0 rfl) ?_
    refine lv_iload_n hx hb d_SG_isWithin_6 rfl (lv_at hl 2 rfl) ?_
    refine kb_cgt (tgt := 14) rfl rfl hx hb d_SG_isWithin_7 (by decide) (fun c_7 => ?_) (fun c_7 => ?_)
    · refine lv_iconst (v := nI 0) hx hb d_SG_isWithin_14 (by decide +kernel) ?_
      refine ka_i (y := pI (za ≤ zx ∧ zx ≤ zb)) (pI_z (fun h => by omega)) ?_
      exact krdz (pI_narrow _) hx hb hr hlocks d_SG_isWithin_15
    · refine lv_iconst (v := nI 1) hx hb d_SG_isWithin_10 (by decide +kernel) ?_
      refine lv_goto (tgt := 15) hx hb d_SG_isWithin_11 (by decide) ?_
      refine ka_i (y := pI (za ≤ zx ∧ zx ≤ zb)) (pI_1 (by omega)) ?_
      exact krdz (pI_narrow _) hx hb hr hlocks d_SG_isWithin_15
set_option maxHeartbeats 4000000 in
set_option maxRecDepth 100000 in
theorem c_isEnd (l : Launch) (D : va_G) (cI cJ cZ : ClassId) (x : Int32)  : kRead l y_SG_isEnd w_SG_isEnd ({ frames := 1, cells := 0, slots := 0, locals := 22 }) D vwCl (tyL cI cJ cZ) [] [.int x] (.int (pI (0 ≤ x.toInt ∧ x.toInt ≤ 1))) := by
  refine Met.ofW (cc := b_SG_isEnd) (maxL := 1) (ret := (some (.boolean))) (by decide) rfl ?_
  intro p e s m args below meth c s₁ B hml hv
  obtain ⟨rfl, hP, hK, hZ⟩ := hv
  have hx := B.exec
  have hb := B.bytes
  have hr := B.returns
  have hts := atoms_spec (ws := w_SG_isEnd) B.pre
  have hown : s.vm.findClass R_SG = some m.cls := findClass_of_methodNamed B.named
  have hlocks := B.notSynchronized
  have hP : va_P D vwCl [] s.heap := hP
  have hl := lv_entry ([.int x]) (n := 1) (Nat.le_of_ble_eq_true rfl)
  rw [lg_entry_eq]
  generalize (lg_sl ([.int x]) ++ List.replicate (1 - (lg_sl ([.int x])).length) Slot.unset).toArray = ls at hl ⊢
  have hl : lv_has ls 1 [(0, .int x)] := hl
  refine lv_iload_n hx hb d_SG_isEnd_0 rfl (lv_at hl 0 rfl) ?_
  refine lv_iconst (v := nI 0) hx hb d_SG_isEnd_1 (by decide +kernel) ?_
  refine lv_iconst (v := nI 1) hx hb d_SG_isEnd_2 (by decide +kernel) ?_
  refine kcallR (r := .int (pI (((0 : Nat) : Int) ≤ x.toInt ∧ x.toInt ≤ ((1 : Nat) : Int)))) (va_runS (As := [.int x, .int (nI 0), .int (nI 1)]) (rest := []) ⟨hx, hb, hml, hown, hts⟩ (c_isWithin l D cI cJ cZ x (nI 0) (nI 1) x.toInt ((0 : Nat) : Int) ((1 : Nat) : Int) rfl (nI_t (by omega)) (nI_t (by omega))) ⟨callB_of 3 hts (gd kc_SG_isWithin) rfl rfl rfl (hts _ (List.mem_cons_of_mem _ k_1)) (hts _ (List.mem_cons_of_mem _ k_313)) (by decide +kernel) ⟨Nat.le_of_ble_eq_true rfl, Nat.le_of_ble_eq_true rfl⟩, hts _ (List.mem_cons_of_mem _ k_280)⟩ ⟨kR_blind, kR_at hP hK hZ [] rfl⟩ rfl rfl hl.1 rfl (lv_room (Nat.le_of_ble_eq_true rfl)) d_SG_isEnd_3 ⟨Nat.zero_le _, Nat.zero_le _⟩) ?_
  refine ka_i (y := pI (0 ≤ x.toInt ∧ x.toInt ≤ 1)) (pI_iff (by omega)) ?_
  exact krdz (pI_narrow _) hx hb hr hlocks d_SG_isEnd_6
set_option maxHeartbeats 4000000 in
set_option maxRecDepth 100000 in
theorem c_isTurn (l : Launch) (D : va_G) (cI cJ cZ : ClassId) (x : Int32)  : kRead l y_SG_isTurn w_SG_isTurn ({ frames := 1, cells := 0, slots := 0, locals := 22 }) D vwCl (tyL cI cJ cZ) [] [.int x] (.int (pI (0 ≤ x.toInt ∧ x.toInt ≤ 1))) := by
  refine Met.ofW (cc := b_SG_isTurn) (maxL := 1) (ret := (some (.boolean))) (by decide) rfl ?_
  intro p e s m args below meth c s₁ B hml hv
  obtain ⟨rfl, hP, hK, hZ⟩ := hv
  have hx := B.exec
  have hb := B.bytes
  have hr := B.returns
  have hts := atoms_spec (ws := w_SG_isTurn) B.pre
  have hown : s.vm.findClass R_SG = some m.cls := findClass_of_methodNamed B.named
  have hlocks := B.notSynchronized
  have hP : va_P D vwCl [] s.heap := hP
  have hl := lv_entry ([.int x]) (n := 1) (Nat.le_of_ble_eq_true rfl)
  rw [lg_entry_eq]
  generalize (lg_sl ([.int x]) ++ List.replicate (1 - (lg_sl ([.int x])).length) Slot.unset).toArray = ls at hl ⊢
  have hl : lv_has ls 1 [(0, .int x)] := hl
  refine lv_iload_n hx hb d_SG_isTurn_0 rfl (lv_at hl 0 rfl) ?_
  refine lv_iconst (v := nI 0) hx hb d_SG_isTurn_1 (by decide +kernel) ?_
  refine lv_iconst (v := nI 1) hx hb d_SG_isTurn_2 (by decide +kernel) ?_
  refine kcallR (r := .int (pI (((0 : Nat) : Int) ≤ x.toInt ∧ x.toInt ≤ ((1 : Nat) : Int)))) (va_runS (As := [.int x, .int (nI 0), .int (nI 1)]) (rest := []) ⟨hx, hb, hml, hown, hts⟩ (c_isWithin l D cI cJ cZ x (nI 0) (nI 1) x.toInt ((0 : Nat) : Int) ((1 : Nat) : Int) rfl (nI_t (by omega)) (nI_t (by omega))) ⟨callB_of 3 hts (gd kc_SG_isWithin) rfl rfl rfl (hts _ (List.mem_cons_of_mem _ k_1)) (hts _ (List.mem_cons_of_mem _ k_313)) (by decide +kernel) ⟨Nat.le_of_ble_eq_true rfl, Nat.le_of_ble_eq_true rfl⟩, hts _ (List.mem_cons_of_mem _ k_280)⟩ ⟨kR_blind, kR_at hP hK hZ [] rfl⟩ rfl rfl hl.1 rfl (lv_room (Nat.le_of_ble_eq_true rfl)) d_SG_isTurn_3 ⟨Nat.zero_le _, Nat.zero_le _⟩) ?_
  refine ka_i (y := pI (0 ≤ x.toInt ∧ x.toInt ≤ 1)) (pI_iff (by omega)) ?_
  exact krdz (pI_narrow _) hx hb hr hlocks d_SG_isTurn_6
set_option maxHeartbeats 4000000 in
set_option maxRecDepth 100000 in
theorem c_isCell (l : Launch) (D : va_G) (cI cJ cZ : ClassId) (h0 : Nat) (side : Nat) (a1 : Nat) (a2 : Nat) (a3 : Nat) (a4 : Nat) (sm : Prop) (x : Int32) (y : Int32) (s1 : 1 ≤ side) (s2 : side ≤ 20) : kRead l y_Lo_isCell w_Lo_isCell ({ frames := 1, cells := 0, slots := 0, locals := 22 }) D vwCl (tyL cI cJ cZ) [(h0, .inr (3, [.int (nI side), .ref a1, .ref a2, .ref a3, .ref a4, .int (pI sm)]))] [.ref h0, .int x, .int y] (.int (pI ((0 ≤ x.toInt ∧ x.toInt < (side : Int)) ∧ 0 ≤ y.toInt ∧ y.toInt < (side : Int)))) := by
  refine Met.ofW (cc := b_Lo_isCell) (maxL := 3) (ret := (some (.boolean))) (by decide) rfl ?_
  intro p e s m args below meth c s₁ B hml hv
  obtain ⟨rfl, hP, hK, hZ⟩ := hv
  have hx := B.exec
  have hb := B.bytes
  have hr := B.returns
  have hts := atoms_spec (ws := w_Lo_isCell) B.pre
  have hown : s.vm.findClass R_Lo = some m.cls := findClass_of_methodNamed B.named
  have hlocks := B.notSynchronized
  have hP : va_P D vwCl [(h0, .inr (3, [.int (nI side), .ref a1, .ref a2, .ref a3, .ref a4, .int (pI sm)]))] s.heap := hP
  have hl := lv_entry ([.ref h0, .int x, .int y]) (n := 3) (Nat.le_of_ble_eq_true rfl)
  rw [lg_entry_eq]
  generalize (lg_sl ([.ref h0, .int x, .int y]) ++ List.replicate (3 - (lg_sl ([.ref h0, .int x, .int y])).length) Slot.unset).toArray = ls at hl ⊢
  have hl : lv_has ls 3 [(0, .ref h0), (1, .int x), (2, .int y)] := hl
  refine lv_iload_n hx hb d_Lo_isCell_0 rfl (lv_at hl 1 rfl) ?_
  refine lv_iconst (v := nI 0) hx hb d_Lo_isCell_1 (by decide +kernel) ?_
  refine lv_aload_n hx hb d_Lo_isCell_2 rfl (lv_at hl 0 rfl) ?_
  refine va_get (D := D) (ci := 3) (v := .int (nI side)) (C := R_Lo) (T := T_Lo) (N := 6) hx hb hts (fun w h => List.mem_cons_of_mem _ (iw_Lo w h)) hown hK hP 0 rfl rfl 0 (by decide) (hts _ (List.mem_cons_of_mem _ k_35)) (fun _ h9 => h9) rfl d_Lo_isCell_3 ?_
  refine lv_iconst (v := nI 1) hx hb d_Lo_isCell_6 (by decide +kernel) ?_
  refine lv_isub hx hb d_Lo_isCell_7 ?_
  refine ka_i (y := nI (side - 1)) (pk_sub (by omega)) ?_
  refine kcallR (r := .int (pI (((0 : Nat) : Int) ≤ x.toInt ∧ x.toInt ≤ ((side - 1 : Nat) : Int)))) (va_runSN (As := [.int x, .int (nI 0), .int (nI (side - 1))]) (rest := []) ⟨hx, hb, hml, hown, hts⟩ (c_isWithin l D cI cJ cZ x (nI 0) (nI (side - 1)) x.toInt ((0 : Nat) : Int) ((side - 1 : Nat) : Int) rfl (nI_t (by omega)) (nI_t (by omega))) ⟨va_cnB 3 hts (gd kc_SG_isWithin) rfl rfl rfl (hZ _ kn_318) (hts _ (List.mem_cons_of_mem _ k_1)) (by decide +kernel) ⟨Nat.le_of_ble_eq_true rfl, Nat.le_of_ble_eq_true rfl⟩, hts _ (List.mem_cons_of_mem _ k_280), trivial⟩ ⟨kR_blind, kR_at hP hK hZ [] rfl⟩ rfl rfl hl.1 rfl (lv_room (Nat.le_of_ble_eq_true rfl)) d_Lo_isCell_8 ⟨Nat.zero_le _, Nat.zero_le _⟩) ?_
  refine kb_eqP (tgt := 32) hx hb d_Lo_isCell_11 (by decide) (fun c_11 => ?_) (fun c_11 => ?_)
  · refine lv_iconst (v := nI 0) hx hb d_Lo_isCell_32 (by decide +kernel) ?_
    refine ka_i (y := pI ((0 ≤ x.toInt ∧ x.toInt < (side : Int)) ∧ 0 ≤ y.toInt ∧ y.toInt < (side : Int))) (pI_z (fun h => by omega)) ?_
    exact krdz (pI_narrow _) hx hb hr hlocks d_Lo_isCell_33
  · refine lv_iload_n hx hb d_Lo_isCell_14 rfl (lv_at hl 2 rfl) ?_
    refine lv_iconst (v := nI 0) hx hb d_Lo_isCell_15 (by decide +kernel) ?_
    refine lv_aload_n hx hb d_Lo_isCell_16 rfl (lv_at hl 0 rfl) ?_
    refine va_get (D := D) (ci := 3) (v := .int (nI side)) (C := R_Lo) (T := T_Lo) (N := 6) hx hb hts (fun w h => List.mem_cons_of_mem _ (iw_Lo w h)) hown hK hP 0 rfl rfl 0 (by decide) (hts _ (List.mem_cons_of_mem _ k_35)) (fun _ h9 => h9) rfl d_Lo_isCell_17 ?_
    refine lv_iconst (v := nI 1) hx hb d_Lo_isCell_20 (by decide +kernel) ?_
    refine lv_isub hx hb d_Lo_isCell_21 ?_
    refine ka_i (y := nI (side - 1)) (pk_sub (by omega)) ?_
    refine kcallR (r := .int (pI (((0 : Nat) : Int) ≤ y.toInt ∧ y.toInt ≤ ((side - 1 : Nat) : Int)))) (va_runSN (As := [.int y, .int (nI 0), .int (nI (side - 1))]) (rest := []) ⟨hx, hb, hml, hown, hts⟩ (c_isWithin l D cI cJ cZ y (nI 0) (nI (side - 1)) y.toInt ((0 : Nat) : Int) ((side - 1 : Nat) : Int) rfl (nI_t (by omega)) (nI_t (by omega))) ⟨va_cnB 3 hts (gd kc_SG_isWithin) rfl rfl rfl (hZ _ kn_318) (hts _ (List.mem_cons_of_mem _ k_1)) (by decide +kernel) ⟨Nat.le_of_ble_eq_true rfl, Nat.le_of_ble_eq_true rfl⟩, hts _ (List.mem_cons_of_mem _ k_280), trivial⟩ ⟨kR_blind, kR_at hP hK hZ [] rfl⟩ rfl rfl hl.1 rfl (lv_room (Nat.le_of_ble_eq_true rfl)) d_Lo_isCell_22 ⟨Nat.zero_le _, Nat.zero_le _⟩) ?_
    refine kb_eqP (tgt := 32) hx hb d_Lo_isCell_25 (by decide) (fun c_25 => ?_) (fun c_25 => ?_)
    · refine lv_iconst (v := nI 0) hx hb d_Lo_isCell_32 (by decide +kernel) ?_
      refine ka_i (y := pI ((0 ≤ x.toInt ∧ x.toInt < (side : Int)) ∧ 0 ≤ y.toInt ∧ y.toInt < (side : Int))) (pI_z (fun h => by omega)) ?_
      exact krdz (pI_narrow _) hx hb hr hlocks d_Lo_isCell_33
    · refine lv_iconst (v := nI 1) hx hb d_Lo_isCell_28 (by decide +kernel) ?_
      refine lv_goto (tgt := 33) hx hb d_Lo_isCell_29 (by decide) ?_
      refine ka_i (y := pI ((0 ≤ x.toInt ∧ x.toInt < (side : Int)) ∧ 0 ≤ y.toInt ∧ y.toInt < (side : Int))) (pI_1 (by omega)) ?_
      exact krdz (pI_narrow _) hx hb hr hlocks d_Lo_isCell_33
set_option maxHeartbeats 4000000 in
set_option maxRecDepth 100000 in
theorem c_has (l : Launch) (D : va_G) (cI cJ cZ : ClassId) (hz : Nat) (t1 : Nat) (t2 : Nat) (t3 : Nat) (t4 : Nat) (cn : Nat) (x : Int32) (n1 : cn ≤ 8) : kRead l y_Si_has w_Si_has ({ frames := 1, cells := 0, slots := 0, locals := 22 }) D vwCl (tyL cI cJ cZ) [(hz, .inr (5, [.ref t1, .ref t2, .ref t3, .ref t4, .int (nI cn)]))] [.ref hz, .int x] (.int (pI (0 ≤ x.toInt ∧ x.toInt < (cn : Int)))) := by
  refine Met.ofW (cc := b_Si_has) (maxL := 2) (ret := (some (.boolean))) (by decide) rfl ?_
  intro p e s m args below meth c s₁ B hml hv
  obtain ⟨rfl, hP, hK, hZ⟩ := hv
  have hx := B.exec
  have hb := B.bytes
  have hr := B.returns
  have hts := atoms_spec (ws := w_Si_has) B.pre
  have hown : s.vm.findClass R_Si = some m.cls := findClass_of_methodNamed B.named
  have hlocks := B.notSynchronized
  have hP : va_P D vwCl [(hz, .inr (5, [.ref t1, .ref t2, .ref t3, .ref t4, .int (nI cn)]))] s.heap := hP
  have hl := lv_entry ([.ref hz, .int x]) (n := 2) (Nat.le_of_ble_eq_true rfl)
  rw [lg_entry_eq]
  generalize (lg_sl ([.ref hz, .int x]) ++ List.replicate (2 - (lg_sl ([.ref hz, .int x])).length) Slot.unset).toArray = ls at hl ⊢
  have hl : lv_has ls 2 [(0, .ref hz), (1, .int x)] := hl
  refine lv_iload_n hx hb d_Si_has_0 rfl (lv_at hl 1 rfl) ?_
  refine lv_iconst (v := nI 0) hx hb d_Si_has_1 (by decide +kernel) ?_
  refine lv_aload_n hx hb d_Si_has_2 rfl (lv_at hl 0 rfl) ?_
  refine va_get (D := D) (ci := 5) (v := .int (nI cn)) (C := R_Si) (T := T_Si) (N := 5) hx hb hts (fun w h => List.mem_cons_of_mem _ (iw_Si w h)) hown hK hP 0 rfl rfl 4 (by decide) (hts _ (List.mem_cons_of_mem _ k_73)) (fun _ h9 => h9) rfl d_Si_has_3 ?_
  refine lv_iconst (v := nI 1) hx hb d_Si_has_6 (by decide +kernel) ?_
  refine lv_isub hx hb d_Si_has_7 ?_
  refine ka_i (y := iI (((cn : Nat) : Int) - ((1 : Nat) : Int))) (by rw [iI_of cn, iI_of 1]; exact iI_sub _ _) ?_
  refine kcallR (r := .int (pI (((0 : Nat) : Int) ≤ x.toInt ∧ x.toInt ≤ (((cn : Nat) : Int) - ((1 : Nat) : Int))))) (va_runSN (As := [.int x, .int (nI 0), .int (iI (((cn : Nat) : Int) - ((1 : Nat) : Int)))]) (rest := []) ⟨hx, hb, hml, hown, hts⟩ (c_isWithin l D cI cJ cZ x (nI 0) (iI (((cn : Nat) : Int) - ((1 : Nat) : Int))) x.toInt ((0 : Nat) : Int) (((cn : Nat) : Int) - ((1 : Nat) : Int)) rfl (nI_t (by omega)) (iI_t (by omega) (by omega))) ⟨va_cnB 3 hts (gd kc_SG_isWithin) rfl rfl rfl (hZ _ kn_279) (hts _ (List.mem_cons_of_mem _ k_1)) (by decide +kernel) ⟨Nat.le_of_ble_eq_true rfl, Nat.le_of_ble_eq_true rfl⟩, hts _ (List.mem_cons_of_mem _ k_280), trivial⟩ ⟨kR_blind, kR_at hP hK hZ [] rfl⟩ rfl rfl hl.1 rfl (lv_room (Nat.le_of_ble_eq_true rfl)) d_Si_has_8 ⟨Nat.zero_le _, Nat.zero_le _⟩) ?_
  refine ka_i (y := pI (0 ≤ x.toInt ∧ x.toInt < (cn : Int))) (pI_iff (by omega)) ?_
  exact krdz (pI_narrow _) hx hb hr hlocks d_Si_has_11
set_option maxHeartbeats 4000000 in
set_option maxRecDepth 100000 in
theorem c_alongX (l : Launch) (D : va_G) (cI cJ cZ : ClassId) (hz : Nat) (t1 : Nat) (t2 : Nat) (t3 : Nat) (t4 : Nat) (cn : Nat) (th : Nat → Nat) (wi : Nat → Nat) (i : Nat) (tn : Int32) (tz : Int) (i8 : i < 8) (et : tn.toInt = tz) : kRead l y_Si_alongX w_Si_alongX ({ frames := 0, cells := 0, slots := 0, locals := 0 }) D vwCl (tyL cI cJ cZ) [(hz, .inr (5, [.ref t1, .ref t2, .ref t3, .ref t4, .int (nI cn)])), (t1, .inl (cI, 8, .inl (fun j => nI (th j)))), (t2, .inl (cI, 8, .inl (fun j => nI (wi j))))] [.ref hz, .int (nI i), .int tn] (.int (nI (if tz = 0 then wi i else th i))) := by
  refine Met.ofW (cc := b_Si_alongX) (maxL := 3) (ret := (some (.int))) (by decide) rfl ?_
  intro p e s m args below meth c s₁ B hml hv
  obtain ⟨rfl, hP, hK, hZ⟩ := hv
  have hx := B.exec
  have hb := B.bytes
  have hr := B.returns
  have hts := atoms_spec (ws := w_Si_alongX) B.pre
  have hown : s.vm.findClass R_Si = some m.cls := findClass_of_methodNamed B.named
  have hlocks := B.notSynchronized
  have hP : va_P D vwCl [(hz, .inr (5, [.ref t1, .ref t2, .ref t3, .ref t4, .int (nI cn)])), (t1, .inl (cI, 8, .inl (fun j => nI (th j)))), (t2, .inl (cI, 8, .inl (fun j => nI (wi j))))] s.heap := hP
  have hl := lv_entry ([.ref hz, .int (nI i), .int tn]) (n := 3) (Nat.le_of_ble_eq_true rfl)
  rw [lg_entry_eq]
  generalize (lg_sl ([.ref hz, .int (nI i), .int tn]) ++ List.replicate (3 - (lg_sl ([.ref hz, .int (nI i), .int tn])).length) Slot.unset).toArray = ls at hl ⊢
  have hl : lv_has ls 3 [(0, .ref hz), (1, .int (nI i)), (2, .int tn)] := hl
  refine lv_iload_n hx hb d_Si_alongX_0 rfl (lv_at hl 2 rfl) ?_
  refine kb_ne (tgt := 13) rfl hx hb d_Si_alongX_1 (by decide) (fun c_1 => ?_) (fun c_1 => ?_)
  · refine lv_aload_n hx hb d_Si_alongX_13 rfl (lv_at hl 0 rfl) ?_
    refine va_get (D := D) (ci := 5) (v := .ref t1) (C := R_Si) (T := T_Si) (N := 5) hx hb hts (fun w h => List.mem_cons_of_mem _ (iw_Si w h)) hown hK hP 0 rfl rfl 0 (by decide) (hts _ (List.mem_cons_of_mem _ k_65)) (fun _ h9 => h9) rfl d_Si_alongX_14 ?_
    refine lv_iload_n hx hb d_Si_alongX_17 rfl (lv_at hl 1 rfl) ?_
    refine ka_iald (k := i) (n := 8) (f := fun j => nI (th j)) (nI_t (by omega)) (by omega) hx hb hK hP 1 0 rfl rfl d_Si_alongX_18 ?_
    refine ka_i (y := nI (if tz = 0 then wi i else th i)) (by rw [if_neg (by omega)]) ?_
    exact krdi hx hb hr hlocks d_Si_alongX_19
  · refine lv_aload_n hx hb d_Si_alongX_4 rfl (lv_at hl 0 rfl) ?_
    refine va_get (D := D) (ci := 5) (v := .ref t2) (C := R_Si) (T := T_Si) (N := 5) hx hb hts (fun w h => List.mem_cons_of_mem _ (iw_Si w h)) hown hK hP 0 rfl rfl 1 (by decide) (hts _ (List.mem_cons_of_mem _ k_67)) (fun _ h9 => h9) rfl d_Si_alongX_5 ?_
    refine lv_iload_n hx hb d_Si_alongX_8 rfl (lv_at hl 1 rfl) ?_
    refine ka_iald (k := i) (n := 8) (f := fun j => nI (wi j)) (nI_t (by omega)) (by omega) hx hb hK hP 2 0 rfl rfl d_Si_alongX_9 ?_
    refine lv_goto (tgt := 19) hx hb d_Si_alongX_10 (by decide) ?_
    refine ka_i (y := nI (if tz = 0 then wi i else th i)) (by rw [if_pos (by omega)]) ?_
    exact krdi hx hb hr hlocks d_Si_alongX_19
set_option maxHeartbeats 4000000 in
set_option maxRecDepth 100000 in
theorem c_alongY (l : Launch) (D : va_G) (cI cJ cZ : ClassId) (hz : Nat) (t1 : Nat) (t2 : Nat) (t3 : Nat) (t4 : Nat) (cn : Nat) (th : Nat → Nat) (wi : Nat → Nat) (i : Nat) (tn : Int32) (tz : Int) (i8 : i < 8) (et : tn.toInt = tz) : kRead l y_Si_alongY w_Si_alongY ({ frames := 0, cells := 0, slots := 0, locals := 0 }) D vwCl (tyL cI cJ cZ) [(hz, .inr (5, [.ref t1, .ref t2, .ref t3, .ref t4, .int (nI cn)])), (t1, .inl (cI, 8, .inl (fun j => nI (th j)))), (t2, .inl (cI, 8, .inl (fun j => nI (wi j))))] [.ref hz, .int (nI i), .int tn] (.int (nI (if tz = 0 then th i else wi i))) := by
  refine Met.ofW (cc := b_Si_alongY) (maxL := 3) (ret := (some (.int))) (by decide) rfl ?_
  intro p e s m args below meth c s₁ B hml hv
  obtain ⟨rfl, hP, hK, hZ⟩ := hv
  have hx := B.exec
  have hb := B.bytes
  have hr := B.returns
  have hts := atoms_spec (ws := w_Si_alongY) B.pre
  have hown : s.vm.findClass R_Si = some m.cls := findClass_of_methodNamed B.named
  have hlocks := B.notSynchronized
  have hP : va_P D vwCl [(hz, .inr (5, [.ref t1, .ref t2, .ref t3, .ref t4, .int (nI cn)])), (t1, .inl (cI, 8, .inl (fun j => nI (th j)))), (t2, .inl (cI, 8, .inl (fun j => nI (wi j))))] s.heap := hP
  have hl := lv_entry ([.ref hz, .int (nI i), .int tn]) (n := 3) (Nat.le_of_ble_eq_true rfl)
  rw [lg_entry_eq]
  generalize (lg_sl ([.ref hz, .int (nI i), .int tn]) ++ List.replicate (3 - (lg_sl ([.ref hz, .int (nI i), .int tn])).length) Slot.unset).toArray = ls at hl ⊢
  have hl : lv_has ls 3 [(0, .ref hz), (1, .int (nI i)), (2, .int tn)] := hl
  refine lv_iload_n hx hb d_Si_alongY_0 rfl (lv_at hl 2 rfl) ?_
  refine kb_ne (tgt := 13) rfl hx hb d_Si_alongY_1 (by decide) (fun c_1 => ?_) (fun c_1 => ?_)
  · refine lv_aload_n hx hb d_Si_alongY_13 rfl (lv_at hl 0 rfl) ?_
    refine va_get (D := D) (ci := 5) (v := .ref t2) (C := R_Si) (T := T_Si) (N := 5) hx hb hts (fun w h => List.mem_cons_of_mem _ (iw_Si w h)) hown hK hP 0 rfl rfl 1 (by decide) (hts _ (List.mem_cons_of_mem _ k_67)) (fun _ h9 => h9) rfl d_Si_alongY_14 ?_
    refine lv_iload_n hx hb d_Si_alongY_17 rfl (lv_at hl 1 rfl) ?_
    refine ka_iald (k := i) (n := 8) (f := fun j => nI (wi j)) (nI_t (by omega)) (by omega) hx hb hK hP 2 0 rfl rfl d_Si_alongY_18 ?_
    refine ka_i (y := nI (if tz = 0 then th i else wi i)) (by rw [if_neg (by omega)]) ?_
    exact krdi hx hb hr hlocks d_Si_alongY_19
  · refine lv_aload_n hx hb d_Si_alongY_4 rfl (lv_at hl 0 rfl) ?_
    refine va_get (D := D) (ci := 5) (v := .ref t1) (C := R_Si) (T := T_Si) (N := 5) hx hb hts (fun w h => List.mem_cons_of_mem _ (iw_Si w h)) hown hK hP 0 rfl rfl 0 (by decide) (hts _ (List.mem_cons_of_mem _ k_65)) (fun _ h9 => h9) rfl d_Si_alongY_5 ?_
    refine lv_iload_n hx hb d_Si_alongY_8 rfl (lv_at hl 1 rfl) ?_
    refine ka_iald (k := i) (n := 8) (f := fun j => nI (th j)) (nI_t (by omega)) (by omega) hx hb hK hP 1 0 rfl rfl d_Si_alongY_9 ?_
    refine lv_goto (tgt := 19) hx hb d_Si_alongY_10 (by decide) ?_
    refine ka_i (y := nI (if tz = 0 then th i else wi i)) (by rw [if_pos (by omega)]) ?_
    exact krdi hx hb hr hlocks d_Si_alongY_19
set_option maxHeartbeats 4000000 in
set_option maxRecDepth 100000 in
theorem c_xAt (l : Launch) (D : va_G) (cI cJ cZ : ClassId) (hb_ : Nat) (bo : Nat) (hz : Nat) (side : Nat) (kf : Nat) (tn : Nat) (r1 : Nat) (r2 : Nat) (r3 : Nat) (r4 : Nat) (row : Nat) (col : Nat) (tn1 : tn ≤ 1) : kRead l y_Be_xAt w_Be_xAt ({ frames := 0, cells := 0, slots := 0, locals := 0 }) D vwCl (tyL cI cJ cZ) [(hb_, .inr (1, [.ref bo, .ref hz, .int (nI side), .int (nI kf), .int (nI tn), .ref r1, .ref r2, .ref r3, .ref r4]))] [.ref hb_, .int (nI row), .int (nI col)] (.int (nI (if tn = 0 then col else row))) := by
  refine Met.ofW (cc := b_Be_xAt) (maxL := 3) (ret := (some (.int))) (by decide) rfl ?_
  intro p e s m args below meth c s₁ B hml hv
  obtain ⟨rfl, hP, hK, hZ⟩ := hv
  have hx := B.exec
  have hb := B.bytes
  have hr := B.returns
  have hts := atoms_spec (ws := w_Be_xAt) B.pre
  have hown : s.vm.findClass R_Be = some m.cls := findClass_of_methodNamed B.named
  have hlocks := B.notSynchronized
  have hP : va_P D vwCl [(hb_, .inr (1, [.ref bo, .ref hz, .int (nI side), .int (nI kf), .int (nI tn), .ref r1, .ref r2, .ref r3, .ref r4]))] s.heap := hP
  have hl := lv_entry ([.ref hb_, .int (nI row), .int (nI col)]) (n := 3) (Nat.le_of_ble_eq_true rfl)
  rw [lg_entry_eq]
  generalize (lg_sl ([.ref hb_, .int (nI row), .int (nI col)]) ++ List.replicate (3 - (lg_sl ([.ref hb_, .int (nI row), .int (nI col)])).length) Slot.unset).toArray = ls at hl ⊢
  have hl : lv_has ls 3 [(0, .ref hb_), (1, .int (nI row)), (2, .int (nI col))] := hl
  refine lv_aload_n hx hb d_Be_xAt_0 rfl (lv_at hl 0 rfl) ?_
  refine va_get (D := D) (ci := 1) (v := .int (nI tn)) (C := R_Be) (T := T_Be) (N := 9) hx hb hts (fun w h => List.mem_cons_of_mem _ (iw_Be w h)) hown hK hP 0 rfl rfl 4 (by decide) (hts _ (List.mem_cons_of_mem _ k_111)) (fun _ h9 => h9) rfl d_Be_xAt_1 ?_
  refine kb_ne (tgt := 11) (nI_t (by omega)) hx hb d_Be_xAt_4 (by decide) (fun c_4 => ?_) (fun c_4 => ?_)
  · refine lv_iload_n hx hb d_Be_xAt_11 rfl (lv_at hl 1 rfl) ?_
    refine ka_i (y := nI (if tn = 0 then col else row)) (by rw [if_neg (by omega)]) ?_
    exact krdi hx hb hr hlocks d_Be_xAt_12
  · refine lv_iload_n hx hb d_Be_xAt_7 rfl (lv_at hl 2 rfl) ?_
    refine lv_goto (tgt := 12) hx hb d_Be_xAt_8 (by decide) ?_
    refine ka_i (y := nI (if tn = 0 then col else row)) (by rw [if_pos (by omega)]) ?_
    exact krdi hx hb hr hlocks d_Be_xAt_12
set_option maxHeartbeats 4000000 in
set_option maxRecDepth 100000 in
theorem c_yAt (l : Launch) (D : va_G) (cI cJ cZ : ClassId) (hb_ : Nat) (bo : Nat) (hz : Nat) (side : Nat) (kf : Nat) (tn : Nat) (r1 : Nat) (r2 : Nat) (r3 : Nat) (r4 : Nat) (row : Nat) (col : Nat) (tn1 : tn ≤ 1) : kRead l y_Be_yAt w_Be_yAt ({ frames := 0, cells := 0, slots := 0, locals := 0 }) D vwCl (tyL cI cJ cZ) [(hb_, .inr (1, [.ref bo, .ref hz, .int (nI side), .int (nI kf), .int (nI tn), .ref r1, .ref r2, .ref r3, .ref r4]))] [.ref hb_, .int (nI row), .int (nI col)] (.int (nI (if tn = 0 then row else col))) := by
  refine Met.ofW (cc := b_Be_yAt) (maxL := 3) (ret := (some (.int))) (by decide) rfl ?_
  intro p e s m args below meth c s₁ B hml hv
  obtain ⟨rfl, hP, hK, hZ⟩ := hv
  have hx := B.exec
  have hb := B.bytes
  have hr := B.returns
  have hts := atoms_spec (ws := w_Be_yAt) B.pre
  have hown : s.vm.findClass R_Be = some m.cls := findClass_of_methodNamed B.named
  have hlocks := B.notSynchronized
  have hP : va_P D vwCl [(hb_, .inr (1, [.ref bo, .ref hz, .int (nI side), .int (nI kf), .int (nI tn), .ref r1, .ref r2, .ref r3, .ref r4]))] s.heap := hP
  have hl := lv_entry ([.ref hb_, .int (nI row), .int (nI col)]) (n := 3) (Nat.le_of_ble_eq_true rfl)
  rw [lg_entry_eq]
  generalize (lg_sl ([.ref hb_, .int (nI row), .int (nI col)]) ++ List.replicate (3 - (lg_sl ([.ref hb_, .int (nI row), .int (nI col)])).length) Slot.unset).toArray = ls at hl ⊢
  have hl : lv_has ls 3 [(0, .ref hb_), (1, .int (nI row)), (2, .int (nI col))] := hl
  refine lv_aload_n hx hb d_Be_yAt_0 rfl (lv_at hl 0 rfl) ?_
  refine va_get (D := D) (ci := 1) (v := .int (nI tn)) (C := R_Be) (T := T_Be) (N := 9) hx hb hts (fun w h => List.mem_cons_of_mem _ (iw_Be w h)) hown hK hP 0 rfl rfl 4 (by decide) (hts _ (List.mem_cons_of_mem _ k_111)) (fun _ h9 => h9) rfl d_Be_yAt_1 ?_
  refine kb_ne (tgt := 11) (nI_t (by omega)) hx hb d_Be_yAt_4 (by decide) (fun c_4 => ?_) (fun c_4 => ?_)
  · refine lv_iload_n hx hb d_Be_yAt_11 rfl (lv_at hl 2 rfl) ?_
    refine ka_i (y := nI (if tn = 0 then row else col)) (by rw [if_neg (by omega)]) ?_
    exact krdi hx hb hr hlocks d_Be_yAt_12
  · refine lv_iload_n hx hb d_Be_yAt_7 rfl (lv_at hl 1 rfl) ?_
    refine lv_goto (tgt := 12) hx hb d_Be_yAt_8 (by decide) ?_
    refine ka_i (y := nI (if tn = 0 then row else col)) (by rw [if_pos (by omega)]) ?_
    exact krdi hx hb hr hlocks d_Be_yAt_12
set_option maxHeartbeats 4000000 in
set_option maxRecDepth 100000 in
theorem c_sumIn (l : Launch) (D : va_G) (cI cJ cZ : ClassId) (h0 : Nat) (side : Nat) (a1 : Nat) (a2 : Nat) (a3 : Nat) (a4 : Nat) (sm : Prop) (ab : Nat) (F : Nat → Nat) (f : Nat → Nat → Nat) (x : Int32) (y : Int32) (zx : Int) (zy : Int) (ax : Nat) (ay : Nat) (s2 : side ≤ 20) (hax : ax ≤ 20) (hay : ay ≤ 20) (ex : x.toInt = zx) (ey : y.toInt = zy) (hF : ∀ X Y, X ≤ side → Y ≤ side → F (Y * (side + 1) + X) = psm f X Y) (hf : ∀ i j, i < side → j < side → f i j ≤ 10000) : kRead l y_Lo_sumIn w_Lo_sumIn ({ frames := 0, cells := 0, slots := 0, locals := 0 }) D vwCl (tyL cI cJ cZ) [(h0, .inr (3, [.int (nI side), .ref a1, .ref a2, .ref a3, .ref a4, .int (pI sm)])), (ab, .inl (cI, ((side + 1) * (side + 1)), .inl (fun j => nI (F j))))] [.ref h0, .ref ab, .int x, .int y, .int (nI ax), .int (nI ay)] (.int (iI (sumZ f side zx zy ax ay))) := by
  refine Met.ofW (cc := b_Lo_sumIn) (maxL := 8) (ret := (some (.int))) (by decide) rfl ?_
  intro p e s m args below meth c s₁ B hml hv
  obtain ⟨rfl, hP, hK, hZ⟩ := hv
  have hx := B.exec
  have hb := B.bytes
  have hr := B.returns
  have hts := atoms_spec (ws := w_Lo_sumIn) B.pre
  have hown : s.vm.findClass R_Lo = some m.cls := findClass_of_methodNamed B.named
  have hlocks := B.notSynchronized
  have hP : va_P D vwCl [(h0, .inr (3, [.int (nI side), .ref a1, .ref a2, .ref a3, .ref a4, .int (pI sm)])), (ab, .inl (cI, ((side + 1) * (side + 1)), .inl (fun j => nI (F j))))] s.heap := hP
  have hl := lv_entry ([.ref h0, .ref ab, .int x, .int y, .int (nI ax), .int (nI ay)]) (n := 8) (Nat.le_of_ble_eq_true rfl)
  rw [lg_entry_eq]
  generalize (lg_sl ([.ref h0, .ref ab, .int x, .int y, .int (nI ax), .int (nI ay)]) ++ List.replicate (8 - (lg_sl ([.ref h0, .ref ab, .int x, .int y, .int (nI ax), .int (nI ay)])).length) Slot.unset).toArray = ls at hl ⊢
  have hl : lv_has ls 8 [(0, .ref h0), (1, .ref ab), (2, .int x), (3, .int y), (4, .int (nI ax)), (5, .int (nI ay))] := hl
  refine lv_iload_n hx hb d_Lo_sumIn_0 rfl (lv_at hl 2 rfl) ?_
  refine kb_lt (tgt := 30) rfl hx hb d_Lo_sumIn_1 (by decide) (fun c1 => ?_) (fun c1 => ?_)
  · refine lv_iconst (v := iI (-1)) hx hb d_Lo_sumIn_30 (by decide +kernel) ?_
    refine ka_i (y := iI (sumZ f side zx zy ax ay)) (by rw [sumZ_no (by omega)]) ?_
    exact krdi hx hb hr hlocks d_Lo_sumIn_31
  · refine lv_iload_n hx hb d_Lo_sumIn_4 rfl (lv_at hl 3 rfl) ?_
    refine kb_lt (tgt := 30) rfl hx hb d_Lo_sumIn_5 (by decide) (fun c2 => ?_) (fun c2 => ?_)
    · refine lv_iconst (v := iI (-1)) hx hb d_Lo_sumIn_30 (by decide +kernel) ?_
      refine ka_i (y := iI (sumZ f side zx zy ax ay)) (by rw [sumZ_no (by omega)]) ?_
      exact krdi hx hb hr hlocks d_Lo_sumIn_31
    · refine lv_iload_n hx hb d_Lo_sumIn_8 rfl (lv_at hl 2 rfl) ?_
      refine lv_aload_n hx hb d_Lo_sumIn_9 rfl (lv_at hl 0 rfl) ?_
      refine va_get (D := D) (ci := 3) (v := .int (nI side)) (C := R_Lo) (T := T_Lo) (N := 6) hx hb hts (fun w h => List.mem_cons_of_mem _ (iw_Lo w h)) hown hK hP 0 rfl rfl 0 (by decide) (hts _ (List.mem_cons_of_mem _ k_35)) (fun _ h9 => h9) rfl d_Lo_sumIn_10 ?_
      refine lv_iload hx hb d_Lo_sumIn_13 (lv_at hl 4 rfl) ?_
      refine lv_isub hx hb d_Lo_sumIn_15 ?_
      refine ka_i (y := iI (((side : Nat) : Int) - ((ax : Nat) : Int))) (by rw [iI_of side, iI_of ax]; exact iI_sub _ _) ?_
      refine kb_cgt (tgt := 30) rfl (iI_t (by omega) (by omega)) hx hb d_Lo_sumIn_16 (by decide) (fun c3 => ?_) (fun c3 => ?_)
      · refine lv_iconst (v := iI (-1)) hx hb d_Lo_sumIn_30 (by decide +kernel) ?_
        refine ka_i (y := iI (sumZ f side zx zy ax ay)) (by rw [sumZ_no (by omega)]) ?_
        exact krdi hx hb hr hlocks d_Lo_sumIn_31
      · refine lv_iload_n hx hb d_Lo_sumIn_19 rfl (lv_at hl 3 rfl) ?_
        refine lv_aload_n hx hb d_Lo_sumIn_20 rfl (lv_at hl 0 rfl) ?_
        refine va_get (D := D) (ci := 3) (v := .int (nI side)) (C := R_Lo) (T := T_Lo) (N := 6) hx hb hts (fun w h => List.mem_cons_of_mem _ (iw_Lo w h)) hown hK hP 0 rfl rfl 0 (by decide) (hts _ (List.mem_cons_of_mem _ k_35)) (fun _ h9 => h9) rfl d_Lo_sumIn_21 ?_
        refine lv_iload hx hb d_Lo_sumIn_24 (lv_at hl 5 rfl) ?_
        refine lv_isub hx hb d_Lo_sumIn_26 ?_
        refine ka_i (y := iI (((side : Nat) : Int) - ((ay : Nat) : Int))) (by rw [iI_of side, iI_of ay]; exact iI_sub _ _) ?_
        refine kb_cle (tgt := 32) rfl (iI_t (by omega) (by omega)) hx hb d_Lo_sumIn_27 (by decide) (fun c4 => ?_) (fun c4 => ?_)
        · obtain ⟨X, hX, rfl, eX⟩ := nI_ofI c1
          obtain ⟨Y, hY, rfl, eY⟩ := nI_ofI c2
          have q1 := idxC (X := X) (Y := Y) (n := side) (by omega) (by omega)
          have q2 := idxC (X := X + ax) (Y := Y) (n := side) (by omega) (by omega)
          have q3 := idxC (X := X) (Y := Y + ay) (n := side) (by omega) (by omega)
          have q4 := idxC (X := X + ax) (Y := Y + ay) (n := side) (by omega) (by omega)
          have q5 := (sq20 s2).1
          refine lv_iload_n hx hb d_Lo_sumIn_32 rfl (lv_at hl 3 rfl) ?_
          refine lv_aload_n hx hb d_Lo_sumIn_33 rfl (lv_at hl 0 rfl) ?_
          refine va_get (D := D) (ci := 3) (v := .int (nI side)) (C := R_Lo) (T := T_Lo) (N := 6) hx hb hts (fun w h => List.mem_cons_of_mem _ (iw_Lo w h)) hown hK hP 0 rfl rfl 0 (by decide) (hts _ (List.mem_cons_of_mem _ k_35)) (fun _ h9 => h9) rfl d_Lo_sumIn_34 ?_
          refine lv_iconst (v := nI 1) hx hb d_Lo_sumIn_37 (by decide +kernel) ?_
          refine lv_iadd hx hb d_Lo_sumIn_38 ?_
          refine ka_i (y := nI (side + 1)) (nI_add _ _) ?_
          refine lv_imul hx hb d_Lo_sumIn_39 ?_
          refine ka_i (y := nI (Y * (side + 1))) (pk_mul _ _) ?_
          refine lv_iload_n hx hb d_Lo_sumIn_40 rfl (lv_at hl 2 rfl) ?_
          refine lv_iadd hx hb d_Lo_sumIn_41 ?_
          refine ka_i (y := nI ((Y * (side + 1)) + X)) (nI_add _ _) ?_
          refine lv_istore (lv' := [(6, .int (nI ((Y * (side + 1)) + X))), (0, .ref h0), (1, .ref ab), (2, .int (nI X)), (3, .int (nI Y)), (4, .int (nI ax)), (5, .int (nI ay))]) hx hb d_Lo_sumIn_42 hl (by decide) rfl (fun ls hl => ?_)
          refine lv_iload_n hx hb d_Lo_sumIn_44 rfl (lv_at hl 4 rfl) ?_
          refine lv_iload hx hb d_Lo_sumIn_45 (lv_at hl 6 rfl) ?_
          refine lv_iadd hx hb d_Lo_sumIn_47 ?_
          refine ka_i (y := nI (Y + ay)) (nI_add _ _) ?_
          refine lv_aload_n hx hb d_Lo_sumIn_48 rfl (lv_at hl 1 rfl) ?_
          refine va_get (D := D) (ci := 3) (v := .int (nI side)) (C := R_Lo) (T := T_Lo) (N := 6) hx hb hts (fun w h => List.mem_cons_of_mem _ (iw_Lo w h)) hown hK hP 0 rfl rfl 0 (by decide) (hts _ (List.mem_cons_of_mem _ k_35)) (fun _ h9 => h9) rfl d_Lo_sumIn_49 ?_
          refine lv_iconst (v := nI 1) hx hb d_Lo_sumIn_52 (by decide +kernel) ?_
          refine lv_iadd hx hb d_Lo_sumIn_53 ?_
          refine ka_i (y := nI (side + 1)) (nI_add _ _) ?_
          refine lv_imul hx hb d_Lo_sumIn_54 ?_
          refine ka_i (y := nI ((Y + ay) * (side + 1))) (pk_mul _ _) ?_
          refine lv_iload_n hx hb d_Lo_sumIn_55 rfl (lv_at hl 3 rfl) ?_
          refine lv_iadd hx hb d_Lo_sumIn_56 ?_
          refine ka_i (y := nI (((Y + ay) * (side + 1)) + X)) (nI_add _ _) ?_
          refine lv_istore (lv' := [(7, .int (nI (((Y + ay) * (side + 1)) + X))), (6, .int (nI ((Y * (side + 1)) + X))), (0, .ref h0), (1, .ref ab), (2, .int (nI X)), (3, .int (nI Y)), (4, .int (nI ax)), (5, .int (nI ay))]) hx hb d_Lo_sumIn_57 hl (by decide) rfl (fun ls hl => ?_)
          refine lv_aload_n hx hb d_Lo_sumIn_59 rfl (lv_at hl 3 rfl) ?_
          refine lv_iload hx hb d_Lo_sumIn_60 (lv_at hl 0 rfl) ?_
          refine lv_iload hx hb d_Lo_sumIn_62 (lv_at hl 6 rfl) ?_
          refine lv_iadd hx hb d_Lo_sumIn_64 ?_
          refine ka_i (y := nI ((((Y + ay) * (side + 1)) + X) + ax)) (nI_add _ _) ?_
          refine ka_iald (k := ((((Y + ay) * (side + 1)) + X) + ax)) (n := ((side + 1) * (side + 1))) (f := fun j => nI (F j)) (nI_t (by omega)) (by omega) hx hb hK hP 1 0 rfl rfl d_Lo_sumIn_65 ?_
          refine lv_aload_n hx hb d_Lo_sumIn_66 rfl (lv_at hl 3 rfl) ?_
          refine lv_iload hx hb d_Lo_sumIn_67 (lv_at hl 0 rfl) ?_
          refine ka_iald (k := (((Y + ay) * (side + 1)) + X)) (n := ((side + 1) * (side + 1))) (f := fun j => nI (F j)) (nI_t (by omega)) (by omega) hx hb hK hP 1 0 rfl rfl d_Lo_sumIn_69 ?_
          refine lv_isub hx hb d_Lo_sumIn_70 ?_
          refine ka_i (y := iI (((F ((((Y + ay) * (side + 1)) + X) + ax) : Nat) : Int) - ((F (((Y + ay) * (side + 1)) + X) : Nat) : Int))) (by rw [iI_of (F ((((Y + ay) * (side + 1)) + X) + ax)), iI_of (F (((Y + ay) * (side + 1)) + X))]; exact iI_sub _ _) ?_
          refine lv_aload_n hx hb d_Lo_sumIn_71 rfl (lv_at hl 3 rfl) ?_
          refine lv_iload hx hb d_Lo_sumIn_72 (lv_at hl 1 rfl) ?_
          refine lv_iload hx hb d_Lo_sumIn_74 (lv_at hl 6 rfl) ?_
          refine lv_iadd hx hb d_Lo_sumIn_76 ?_
          refine ka_i (y := nI (((Y * (side + 1)) + X) + ax)) (nI_add _ _) ?_
          refine ka_iald (k := (((Y * (side + 1)) + X) + ax)) (n := ((side + 1) * (side + 1))) (f := fun j => nI (F j)) (nI_t (by omega)) (by omega) hx hb hK hP 1 0 rfl rfl d_Lo_sumIn_77 ?_
          refine lv_isub hx hb d_Lo_sumIn_78 ?_
          refine ka_i (y := iI ((((F ((((Y + ay) * (side + 1)) + X) + ax) : Nat) : Int) - ((F (((Y + ay) * (side + 1)) + X) : Nat) : Int)) - ((F (((Y * (side + 1)) + X) + ax) : Nat) : Int))) (by rw [iI_of (F (((Y * (side + 1)) + X) + ax))]; exact iI_sub _ _) ?_
          refine lv_aload_n hx hb d_Lo_sumIn_79 rfl (lv_at hl 3 rfl) ?_
          refine lv_iload hx hb d_Lo_sumIn_80 (lv_at hl 1 rfl) ?_
          refine ka_iald (k := ((Y * (side + 1)) + X)) (n := ((side + 1) * (side + 1))) (f := fun j => nI (F j)) (nI_t (by omega)) (by omega) hx hb hK hP 1 0 rfl rfl d_Lo_sumIn_82 ?_
          refine lv_iadd hx hb d_Lo_sumIn_83 ?_
          refine ka_i (y := iI (((((F ((((Y + ay) * (side + 1)) + X) + ax) : Nat) : Int) - ((F (((Y + ay) * (side + 1)) + X) : Nat) : Int)) - ((F (((Y * (side + 1)) + X) + ax) : Nat) : Int)) + ((F ((Y * (side + 1)) + X) : Nat) : Int))) (by rw [iI_of (F ((Y * (side + 1)) + X))]; exact iI_add _ _) ?_
          refine ka_i (y := iI (sumZ f side zx zy ax ay)) (congrArg iI (by
            have e1 := hF X Y (by omega) (by omega)
            have e2 := hF (X + ax) Y (by omega) (by omega)
            have e3 := hF X (Y + ay) (by omega) (by omega)
            have e4 := hF (X + ax) (Y + ay) (by omega) (by omega)
            have k := rcs_psm f X Y ax ay
            rw [sumZ_in (X := X) (Y := Y) (by omega) (by omega) (by omega) (by omega)]
            rw [← Nat.add_assoc] at e2 e4
            omega)) ?_
          exact krdi hx hb hr hlocks d_Lo_sumIn_84
        · refine lv_iconst (v := iI (-1)) hx hb d_Lo_sumIn_30 (by decide +kernel) ?_
          refine ka_i (y := iI (sumZ f side zx zy ax ay)) (by rw [sumZ_no (by omega)]) ?_
          exact krdi hx hb hr hlocks d_Lo_sumIn_31
