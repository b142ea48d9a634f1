theorem d_Lo_mark_0 : decode b_Lo_mark 0 = .ok (.iload_n 1, 1) := by decide +kernel
theorem d_Lo_mark_1 : decode b_Lo_mark 1 = .ok (.aload_n 0, 1) := by decide +kernel
theorem d_Lo_mark_2 : decode b_Lo_mark 2 = .ok (.getfield 9, 3) := by decide +kernel
theorem d_Lo_mark_5 : decode b_Lo_mark 5 = .ok (.imul, 1) := by decide +kernel
theorem d_Lo_mark_6 : decode b_Lo_mark 6 = .ok (.aload_n 0, 1) := by decide +kernel
theorem d_Lo_mark_7 : decode b_Lo_mark 7 = .ok (.getfield 9, 3) := by decide +kernel
theorem d_Lo_mark_10 : decode b_Lo_mark 10 = .ok (.imul, 1) := by decide +kernel
theorem d_Lo_mark_11 : decode b_Lo_mark 11 = .ok (.iload_n 3, 1) := by decide +kernel
theorem d_Lo_mark_12 : decode b_Lo_mark 12 = .ok (.aload_n 0, 1) := by decide +kernel
theorem d_Lo_mark_13 : decode b_Lo_mark 13 = .ok (.getfield 9, 3) := by decide +kernel
theorem d_Lo_mark_16 : decode b_Lo_mark 16 = .ok (.imul, 1) := by decide +kernel
theorem d_Lo_mark_17 : decode b_Lo_mark 17 = .ok (.iadd, 1) := by decide +kernel
theorem d_Lo_mark_18 : decode b_Lo_mark 18 = .ok (.iload_n 2, 1) := by decide +kernel
theorem d_Lo_mark_19 : decode b_Lo_mark 19 = .ok (.iadd, 1) := by decide +kernel
theorem d_Lo_mark_20 : decode b_Lo_mark 20 = .ok (.istore 5, 2) := by decide +kernel
theorem d_Lo_mark_22 : decode b_Lo_mark 22 = .ok (.aload_n 0, 1) := by decide +kernel
theorem d_Lo_mark_23 : decode b_Lo_mark 23 = .ok (.getfield 15, 3) := by decide +kernel
theorem d_Lo_mark_26 : decode b_Lo_mark 26 = .ok (.iload 5, 2) := by decide +kernel
theorem d_Lo_mark_28 : decode b_Lo_mark 28 = .ok (.baload, 1) := by decide +kernel
theorem d_Lo_mark_29 : decode b_Lo_mark 29 = .ok (.iload 4, 2) := by decide +kernel
theorem d_Lo_mark_31 : decode b_Lo_mark 31 = .ok (.if_icmp .eq 7, 3) := by decide +kernel
theorem d_Lo_mark_34 : decode b_Lo_mark 34 = .ok (.iconst 1, 1) := by decide +kernel
theorem d_Lo_mark_35 : decode b_Lo_mark 35 = .ok (.goto 4, 3) := by decide +kernel
theorem d_Lo_mark_38 : decode b_Lo_mark 38 = .ok (.iconst 0, 1) := by decide +kernel
theorem d_Lo_mark_39 : decode b_Lo_mark 39 = .ok (.istore 6, 2) := by decide +kernel
theorem d_Lo_mark_41 : decode b_Lo_mark 41 = .ok (.aload_n 0, 1) := by decide +kernel
theorem d_Lo_mark_42 : decode b_Lo_mark 42 = .ok (.getfield 15, 3) := by decide +kernel
theorem d_Lo_mark_45 : decode b_Lo_mark 45 = .ok (.iload 5, 2) := by decide +kernel
theorem d_Lo_mark_47 : decode b_Lo_mark 47 = .ok (.iload 4, 2) := by decide +kernel
theorem d_Lo_mark_49 : decode b_Lo_mark 49 = .ok (.bastore, 1) := by decide +kernel
theorem d_Lo_mark_50 : decode b_Lo_mark 50 = .ok (.aload_n 0, 1) := by decide +kernel
theorem d_Lo_mark_51 : decode b_Lo_mark 51 = .ok (.iconst 0, 1) := by decide +kernel
theorem d_Lo_mark_52 : decode b_Lo_mark 52 = .ok (.putfield 33, 3) := by decide +kernel
theorem d_Lo_mark_55 : decode b_Lo_mark 55 = .ok (.iload 6, 2) := by decide +kernel
theorem d_Lo_mark_57 : decode b_Lo_mark 57 = .ok (.ireturn, 1) := by decide +kernel
theorem d_Lo_tie_0 : decode b_Lo_tie 0 = .ok (.iload_n 2, 1) := by decide +kernel
theorem d_Lo_tie_1 : decode b_Lo_tie 1 = .ok (.aload_n 0, 1) := by decide +kernel
theorem d_Lo_tie_2 : decode b_Lo_tie 2 = .ok (.getfield 9, 3) := by decide +kernel
theorem d_Lo_tie_5 : decode b_Lo_tie 5 = .ok (.imul, 1) := by decide +kernel
theorem d_Lo_tie_6 : decode b_Lo_tie 6 = .ok (.iload_n 1, 1) := by decide +kernel
theorem d_Lo_tie_7 : decode b_Lo_tie 7 = .ok (.iadd, 1) := by decide +kernel
theorem d_Lo_tie_8 : decode b_Lo_tie 8 = .ok (.istore 4, 2) := by decide +kernel
theorem d_Lo_tie_10 : decode b_Lo_tie 10 = .ok (.aload_n 0, 1) := by decide +kernel
theorem d_Lo_tie_11 : decode b_Lo_tie 11 = .ok (.getfield 19, 3) := by decide +kernel
theorem d_Lo_tie_14 : decode b_Lo_tie 14 = .ok (.iload 4, 2) := by decide +kernel
theorem d_Lo_tie_16 : decode b_Lo_tie 16 = .ok (.iaload, 1) := by decide +kernel
theorem d_Lo_tie_17 : decode b_Lo_tie 17 = .ok (.iload_n 3, 1) := by decide +kernel
theorem d_Lo_tie_18 : decode b_Lo_tie 18 = .ok (.if_icmp .eq 7, 3) := by decide +kernel
theorem d_Lo_tie_21 : decode b_Lo_tie 21 = .ok (.iconst 1, 1) := by decide +kernel
theorem d_Lo_tie_22 : decode b_Lo_tie 22 = .ok (.goto 4, 3) := by decide +kernel
theorem d_Lo_tie_25 : decode b_Lo_tie 25 = .ok (.iconst 0, 1) := by decide +kernel
theorem d_Lo_tie_26 : decode b_Lo_tie 26 = .ok (.istore 5, 2) := by decide +kernel
theorem d_Lo_tie_28 : decode b_Lo_tie 28 = .ok (.aload_n 0, 1) := by decide +kernel
theorem d_Lo_tie_29 : decode b_Lo_tie 29 = .ok (.getfield 19, 3) := by decide +kernel
theorem d_Lo_tie_32 : decode b_Lo_tie 32 = .ok (.iload 4, 2) := by decide +kernel
theorem d_Lo_tie_34 : decode b_Lo_tie 34 = .ok (.iload_n 3, 1) := by decide +kernel
theorem d_Lo_tie_35 : decode b_Lo_tie 35 = .ok (.iastore, 1) := by decide +kernel
theorem d_Lo_tie_36 : decode b_Lo_tie 36 = .ok (.aload_n 0, 1) := by decide +kernel
theorem d_Lo_tie_37 : decode b_Lo_tie 37 = .ok (.iconst 0, 1) := by decide +kernel
theorem d_Lo_tie_38 : decode b_Lo_tie 38 = .ok (.putfield 33, 3) := by decide +kernel
theorem d_Lo_tie_41 : decode b_Lo_tie 41 = .ok (.iload 5, 2) := by decide +kernel
theorem d_Lo_tie_43 : decode b_Lo_tie 43 = .ok (.ireturn, 1) := by decide +kernel
theorem d_Lo_sumUpRow_0 : decode b_Lo_sumUpRow 0 = .ok (.iconst 0, 1) := by decide +kernel
theorem d_Lo_sumUpRow_1 : decode b_Lo_sumUpRow 1 = .ok (.istore_n 2, 1) := by decide +kernel
theorem d_Lo_sumUpRow_2 : decode b_Lo_sumUpRow 2 = .ok (.iconst 0, 1) := by decide +kernel
theorem d_Lo_sumUpRow_3 : decode b_Lo_sumUpRow 3 = .ok (.istore_n 3, 1) := by decide +kernel
theorem d_Lo_sumUpRow_4 : decode b_Lo_sumUpRow 4 = .ok (.iconst 0, 1) := by decide +kernel
theorem d_Lo_sumUpRow_5 : decode b_Lo_sumUpRow 5 = .ok (.istore 4, 2) := by decide +kernel
theorem d_Lo_sumUpRow_7 : decode b_Lo_sumUpRow 7 = .ok (.iload 4, 2) := by decide +kernel
theorem d_Lo_sumUpRow_9 : decode b_Lo_sumUpRow 9 = .ok (.aload_n 0, 1) := by decide +kernel
theorem d_Lo_sumUpRow_10 : decode b_Lo_sumUpRow 10 = .ok (.getfield 9, 3) := by decide +kernel
theorem d_Lo_sumUpRow_13 : decode b_Lo_sumUpRow 13 = .ok (.if_icmp .ge 126, 3) := by decide +kernel
theorem d_Lo_sumUpRow_16 : decode b_Lo_sumUpRow 16 = .ok (.iload_n 1, 1) := by decide +kernel
theorem d_Lo_sumUpRow_17 : decode b_Lo_sumUpRow 17 = .ok (.aload_n 0, 1) := by decide +kernel
theorem d_Lo_sumUpRow_18 : decode b_Lo_sumUpRow 18 = .ok (.getfield 9, 3) := by decide +kernel
theorem d_Lo_sumUpRow_21 : decode b_Lo_sumUpRow 21 = .ok (.imul, 1) := by decide +kernel
theorem d_Lo_sumUpRow_22 : decode b_Lo_sumUpRow 22 = .ok (.iload 4, 2) := by decide +kernel
theorem d_Lo_sumUpRow_24 : decode b_Lo_sumUpRow 24 = .ok (.iadd, 1) := by decide +kernel
theorem d_Lo_sumUpRow_25 : decode b_Lo_sumUpRow 25 = .ok (.istore 5, 2) := by decide +kernel
theorem d_Lo_sumUpRow_27 : decode b_Lo_sumUpRow 27 = .ok (.iload_n 2, 1) := by decide +kernel
theorem d_Lo_sumUpRow_28 : decode b_Lo_sumUpRow 28 = .ok (.aload_n 0, 1) := by decide +kernel
theorem d_Lo_sumUpRow_29 : decode b_Lo_sumUpRow 29 = .ok (.getfield 15, 3) := by decide +kernel
theorem d_Lo_sumUpRow_32 : decode b_Lo_sumUpRow 32 = .ok (.iload 5, 2) := by decide +kernel
theorem d_Lo_sumUpRow_34 : decode b_Lo_sumUpRow 34 = .ok (.baload, 1) := by decide +kernel
theorem d_Lo_sumUpRow_35 : decode b_Lo_sumUpRow 35 = .ok (.ifCond .eq 27, 3) := by decide +kernel
theorem d_Lo_sumUpRow_38 : decode b_Lo_sumUpRow 38 = .ok (.aload_n 0, 1) := by decide +kernel
theorem d_Lo_sumUpRow_39 : decode b_Lo_sumUpRow 39 = .ok (.getfield 15, 3) := by decide +kernel
theorem d_Lo_sumUpRow_42 : decode b_Lo_sumUpRow 42 = .ok (.aload_n 0, 1) := by decide +kernel
theorem d_Lo_sumUpRow_43 : decode b_Lo_sumUpRow 43 = .ok (.getfield 9, 3) := by decide +kernel
theorem d_Lo_sumUpRow_46 : decode b_Lo_sumUpRow 46 = .ok (.aload_n 0, 1) := by decide +kernel
theorem d_Lo_sumUpRow_47 : decode b_Lo_sumUpRow 47 = .ok (.getfield 9, 3) := by decide +kernel
theorem d_Lo_sumUpRow_50 : decode b_Lo_sumUpRow 50 = .ok (.imul, 1) := by decide +kernel
theorem d_Lo_sumUpRow_51 : decode b_Lo_sumUpRow 51 = .ok (.iload 5, 2) := by decide +kernel
theorem d_Lo_sumUpRow_53 : decode b_Lo_sumUpRow 53 = .ok (.iadd, 1) := by decide +kernel
theorem d_Lo_sumUpRow_54 : decode b_Lo_sumUpRow 54 = .ok (.baload, 1) := by decide +kernel
theorem d_Lo_sumUpRow_55 : decode b_Lo_sumUpRow 55 = .ok (.ifCond .eq 7, 3) := by decide +kernel
theorem d_Lo_sumUpRow_58 : decode b_Lo_sumUpRow 58 = .ok (.iconst 0, 1) := by decide +kernel
theorem d_Lo_sumUpRow_59 : decode b_Lo_sumUpRow 59 = .ok (.goto 4, 3) := by decide +kernel
theorem d_Lo_sumUpRow_62 : decode b_Lo_sumUpRow 62 = .ok (.iconst 1, 1) := by decide +kernel
theorem d_Lo_sumUpRow_63 : decode b_Lo_sumUpRow 63 = .ok (.iadd, 1) := by decide +kernel
theorem d_Lo_sumUpRow_64 : decode b_Lo_sumUpRow 64 = .ok (.istore_n 2, 1) := by decide +kernel
theorem d_Lo_sumUpRow_65 : decode b_Lo_sumUpRow 65 = .ok (.iload_n 3, 1) := by decide +kernel
theorem d_Lo_sumUpRow_66 : decode b_Lo_sumUpRow 66 = .ok (.aload_n 0, 1) := by decide +kernel
theorem d_Lo_sumUpRow_67 : decode b_Lo_sumUpRow 67 = .ok (.getfield 19, 3) := by decide +kernel
theorem d_Lo_sumUpRow_70 : decode b_Lo_sumUpRow 70 = .ok (.iload 5, 2) := by decide +kernel
theorem d_Lo_sumUpRow_72 : decode b_Lo_sumUpRow 72 = .ok (.iaload, 1) := by decide +kernel
theorem d_Lo_sumUpRow_73 : decode b_Lo_sumUpRow 73 = .ok (.iadd, 1) := by decide +kernel
theorem d_Lo_sumUpRow_74 : decode b_Lo_sumUpRow 74 = .ok (.istore_n 3, 1) := by decide +kernel
theorem d_Lo_sumUpRow_75 : decode b_Lo_sumUpRow 75 = .ok (.iload_n 1, 1) := by decide +kernel
theorem d_Lo_sumUpRow_76 : decode b_Lo_sumUpRow 76 = .ok (.aload_n 0, 1) := by decide +kernel
theorem d_Lo_sumUpRow_77 : decode b_Lo_sumUpRow 77 = .ok (.getfield 9, 3) := by decide +kernel
theorem d_Lo_sumUpRow_80 : decode b_Lo_sumUpRow 80 = .ok (.iconst 1, 1) := by decide +kernel
theorem d_Lo_sumUpRow_81 : decode b_Lo_sumUpRow 81 = .ok (.iadd, 1) := by decide +kernel
theorem d_Lo_sumUpRow_82 : decode b_Lo_sumUpRow 82 = .ok (.imul, 1) := by decide +kernel
theorem d_Lo_sumUpRow_83 : decode b_Lo_sumUpRow 83 = .ok (.iload 4, 2) := by decide +kernel
theorem d_Lo_sumUpRow_85 : decode b_Lo_sumUpRow 85 = .ok (.iadd, 1) := by decide +kernel
theorem d_Lo_sumUpRow_86 : decode b_Lo_sumUpRow 86 = .ok (.iconst 1, 1) := by decide +kernel
theorem d_Lo_sumUpRow_87 : decode b_Lo_sumUpRow 87 = .ok (.iadd, 1) := by decide +kernel
theorem d_Lo_sumUpRow_88 : decode b_Lo_sumUpRow 88 = .ok (.istore 6, 2) := by decide +kernel
theorem d_Lo_sumUpRow_90 : decode b_Lo_sumUpRow 90 = .ok (.iload 6, 2) := by decide +kernel
theorem d_Lo_sumUpRow_92 : decode b_Lo_sumUpRow 92 = .ok (.aload_n 0, 1) := by decide +kernel
theorem d_Lo_sumUpRow_93 : decode b_Lo_sumUpRow 93 = .ok (.getfield 9, 3) := by decide +kernel
theorem d_Lo_sumUpRow_96 : decode b_Lo_sumUpRow 96 = .ok (.iadd, 1) := by decide +kernel
theorem d_Lo_sumUpRow_97 : decode b_Lo_sumUpRow 97 = .ok (.iconst 1, 1) := by decide +kernel
theorem d_Lo_sumUpRow_98 : decode b_Lo_sumUpRow 98 = .ok (.iadd, 1) := by decide +kernel
theorem d_Lo_sumUpRow_99 : decode b_Lo_sumUpRow 99 = .ok (.istore 7, 2) := by decide +kernel
theorem d_Lo_sumUpRow_101 : decode b_Lo_sumUpRow 101 = .ok (.aload_n 0, 1) := by decide +kernel
theorem d_Lo_sumUpRow_102 : decode b_Lo_sumUpRow 102 = .ok (.getfield 23, 3) := by decide +kernel
theorem d_Lo_sumUpRow_105 : decode b_Lo_sumUpRow 105 = .ok (.iload 7, 2) := by decide +kernel
theorem d_Lo_sumUpRow_107 : decode b_Lo_sumUpRow 107 = .ok (.aload_n 0, 1) := by decide +kernel
theorem d_Lo_sumUpRow_108 : decode b_Lo_sumUpRow 108 = .ok (.getfield 23, 3) := by decide +kernel
theorem d_Lo_sumUpRow_111 : decode b_Lo_sumUpRow 111 = .ok (.iload 6, 2) := by decide +kernel
theorem d_Lo_sumUpRow_113 : decode b_Lo_sumUpRow 113 = .ok (.iaload, 1) := by decide +kernel
theorem d_Lo_sumUpRow_114 : decode b_Lo_sumUpRow 114 = .ok (.iload_n 2, 1) := by decide +kernel
theorem d_Lo_sumUpRow_115 : decode b_Lo_sumUpRow 115 = .ok (.iadd, 1) := by decide +kernel
theorem d_Lo_sumUpRow_116 : decode b_Lo_sumUpRow 116 = .ok (.iastore, 1) := by decide +kernel
theorem d_Lo_sumUpRow_117 : decode b_Lo_sumUpRow 117 = .ok (.aload_n 0, 1) := by decide +kernel
theorem d_Lo_sumUpRow_118 : decode b_Lo_sumUpRow 118 = .ok (.getfield 26, 3) := by decide +kernel
theorem d_Lo_sumUpRow_121 : decode b_Lo_sumUpRow 121 = .ok (.iload 7, 2) := by decide +kernel
theorem d_Lo_sumUpRow_123 : decode b_Lo_sumUpRow 123 = .ok (.aload_n 0, 1) := by decide +kernel
theorem d_Lo_sumUpRow_124 : decode b_Lo_sumUpRow 124 = .ok (.getfield 26, 3) := by decide +kernel
theorem d_Lo_sumUpRow_127 : decode b_Lo_sumUpRow 127 = .ok (.iload 6, 2) := by decide +kernel
theorem d_Lo_sumUpRow_129 : decode b_Lo_sumUpRow 129 = .ok (.iaload, 1) := by decide +kernel
theorem d_Lo_sumUpRow_130 : decode b_Lo_sumUpRow 130 = .ok (.iload_n 3, 1) := by decide +kernel
theorem d_Lo_sumUpRow_131 : decode b_Lo_sumUpRow 131 = .ok (.iadd, 1) := by decide +kernel
theorem d_Lo_sumUpRow_132 : decode b_Lo_sumUpRow 132 = .ok (.iastore, 1) := by decide +kernel
theorem d_Lo_sumUpRow_133 : decode b_Lo_sumUpRow 133 = .ok (.iinc 4 1, 3) := by decide +kernel
theorem d_Lo_sumUpRow_136 : decode b_Lo_sumUpRow 136 = .ok (.goto (-129), 3) := by decide +kernel
theorem d_Lo_sumUpRow_139 : decode b_Lo_sumUpRow 139 = .ok (.return_, 1) := by decide +kernel
theorem d_Lo_sumUp_0 : decode b_Lo_sumUp 0 = .ok (.aload_n 0, 1) := by decide +kernel
theorem d_Lo_sumUp_1 : decode b_Lo_sumUp 1 = .ok (.getfield 33, 3) := by decide +kernel
theorem d_Lo_sumUp_4 : decode b_Lo_sumUp 4 = .ok (.ifCond .eq 4, 3) := by decide +kernel
theorem d_Lo_sumUp_7 : decode b_Lo_sumUp 7 = .ok (.return_, 1) := by decide +kernel
theorem d_Lo_sumUp_8 : decode b_Lo_sumUp 8 = .ok (.iconst 0, 1) := by decide +kernel
theorem d_Lo_sumUp_9 : decode b_Lo_sumUp 9 = .ok (.istore_n 1, 1) := by decide +kernel
theorem d_Lo_sumUp_10 : decode b_Lo_sumUp 10 = .ok (.iload_n 1, 1) := by decide +kernel
theorem d_Lo_sumUp_11 : decode b_Lo_sumUp 11 = .ok (.aload_n 0, 1) := by decide +kernel
theorem d_Lo_sumUp_12 : decode b_Lo_sumUp 12 = .ok (.getfield 9, 3) := by decide +kernel
theorem d_Lo_sumUp_15 : decode b_Lo_sumUp 15 = .ok (.if_icmp .ge 14, 3) := by decide +kernel
theorem d_Lo_sumUp_18 : decode b_Lo_sumUp 18 = .ok (.aload_n 0, 1) := by decide +kernel
theorem d_Lo_sumUp_19 : decode b_Lo_sumUp 19 = .ok (.iload_n 1, 1) := by decide +kernel
theorem d_Lo_sumUp_20 : decode b_Lo_sumUp 20 = .ok (.invokevirtual 41, 3) := by decide +kernel
theorem d_Lo_sumUp_23 : decode b_Lo_sumUp 23 = .ok (.iinc 1 1, 3) := by decide +kernel
theorem d_Lo_sumUp_26 : decode b_Lo_sumUp 26 = .ok (.goto (-16), 3) := by decide +kernel
theorem d_Lo_sumUp_29 : decode b_Lo_sumUp 29 = .ok (.aload_n 0, 1) := by decide +kernel
theorem d_Lo_sumUp_30 : decode b_Lo_sumUp 30 = .ok (.iconst 1, 1) := by decide +kernel
theorem d_Lo_sumUp_31 : decode b_Lo_sumUp 31 = .ok (.putfield 33, 3) := by decide +kernel
theorem d_Lo_sumUp_34 : decode b_Lo_sumUp 34 = .ok (.return_, 1) := by decide +kernel
set_option maxHeartbeats 4000000 in
set_option maxRecDepth 100000 in
theorem c_mark (l : Launch) (D : va_G) (cI cJ cZ : ClassId) (sz : Nat) (h0 : Nat) (side : Nat) (a1 : Nat) (a2 : Nat) (a3 : Nat) (a4 : Nat) (sm : Prop) (IN : Nat → Prop) (en : Nat) (x : Nat) (y : Nat) (b : Prop) (s2 : side ≤ 20) (he : en ≤ 1) (hx_ : x < side) (hy_ : y < side) : Met l y_Lo_mark w_Lo_mark ({ frames := 0, cells := 0, slots := 0, locals := 0 }) (va_Pc [.ref h0, .int (nI en), .int (nI x), .int (nI y), .int (pI b)] (kB D vwCl (tyL cI cJ cZ) sz [(h0, .inr (3, [.int (nI side), .ref a1, .ref a2, .ref a3, .ref a4, .int (pI sm)])), (a1, .inl (cZ, ((2 * side) * side), .inl (fun j => pI (IN j))))])) (va_Qi (fun (r : Int32) (_ : Unit) => r = pI (¬ (IN ((en * side) * side + y * side + x) ↔ b))) (fun (_ : Unit) t => kE D vwCl (va_A [(h0, .inr (3, [.int (nI side), .ref a1, .ref a2, .ref a3, .ref a4, .int (pI sm)])), (a1, .inl (cZ, ((2 * side) * side), .inl (fun j => pI (IN j))))] sz) [(h0, .inr (3, [.int (nI side), .ref a1, .ref a2, .ref a3, .ref a4, .int (pI False)])), (a1, .inl (cZ, ((2 * side) * side), .inl (fun j => pI ((va_up IN ((en * side) * side + y * side + x) b) j))))] t) (va_A [(h0, .inr (3, [.int (nI side), .ref a1, .ref a2, .ref a3, .ref a4, .int (pI sm)])), (a1, .inl (cZ, ((2 * side) * side), .inl (fun j => pI (IN j))))] sz)) 0 0 (va_A [(h0, .inr (3, [.int (nI side), .ref a1, .ref a2, .ref a3, .ref a4, .int (pI sm)])), (a1, .inl (cZ, ((2 * side) * side), .inl (fun j => pI (IN j))))] sz) := by
  refine Met.ofW (cc := b_Lo_mark) (maxL := 7) (ret := (some (.boolean))) (by decide) rfl ?_
  intro p e s m args below meth c s₁ B hml hv
  obtain ⟨rfl, hsz, hP, hK, hD0, hZ⟩ := hv
  have hx := B.exec
  have hb := B.bytes
  have hr := B.returns
  have hts := atoms_spec (ws := w_Lo_mark) B.pre
  have hown : s.vm.findClass R_Lo = some m.cls := findClass_of_methodNamed B.named
  have hlocks := B.notSynchronized
  subst hsz
  have hD := hD0.self (sz := s.heap.size)
  generalize hAe : va_A [(h0, .inr (3, [.int (nI side), .ref a1, .ref a2, .ref a3, .ref a4, .int (pI sm)])), (a1, .inl (cZ, ((2 * side) * side), .inl (fun j => pI (IN j))))] s.heap.size = A at hD ⊢
  have hA : ∀ q : Nat, s.heap.size ≤ q → A q := fun q h => by rw [← hAe]; exact Or.inr h
  have hS : va_S A s.heap s.heap [] := va_S.rf
  have hP : va_P D vwCl [(h0, .inr (3, [.int (nI side), .ref a1, .ref a2, .ref a3, .ref a4, .int (pI sm)])), (a1, .inl (cZ, ((2 * side) * side), .inl (fun j => pI (IN j))))] s.heap := hP
  have hl := lv_entry ([.ref h0, .int (nI en), .int (nI x), .int (nI y), .int (pI b)]) (n := 7) (Nat.le_of_ble_eq_true rfl)
  rw [lg_entry_eq]
  generalize (lg_sl ([.ref h0, .int (nI en), .int (nI x), .int (nI y), .int (pI b)]) ++ List.replicate (7 - (lg_sl ([.ref h0, .int (nI en), .int (nI x), .int (nI y), .int (pI b)])).length) Slot.unset).toArray = ls at hl ⊢
  have hl : lv_has ls 7 [(0, .ref h0), (1, .int (nI en)), (2, .int (nI x)), (3, .int (nI y)), (4, .int (pI b))] := hl
  have q1 := idxE he hx_ hy_
  have q2 := sq2 s2
  refine lv_iload_n hx hb d_Lo_mark_0 rfl (lv_at hl 1 rfl) ?_
  refine lv_aload_n hx hb d_Lo_mark_1 rfl (lv_at hl 0 rfl) ?_
  refine va_get (D := D) (ci := 3) (v := .int (nI side)) (C := R_Lo) (T := T_Lo) (N := 6) hx hb hts (fun w h => List.mem_cons_of_mem _ (iw_Lo w h)) hown hK hP 0 rfl rfl 0 (by decide) (hts _ (List.mem_cons_of_mem _ k_35)) (fun _ h9 => h9) rfl d_Lo_mark_2 ?_
  refine lv_imul hx hb d_Lo_mark_5 ?_
  refine ka_i (y := nI (en * side)) (pk_mul _ _) ?_
  refine lv_aload_n hx hb d_Lo_mark_6 rfl (lv_at hl 0 rfl) ?_
  refine va_get (D := D) (ci := 3) (v := .int (nI side)) (C := R_Lo) (T := T_Lo) (N := 6) hx hb hts (fun w h => List.mem_cons_of_mem _ (iw_Lo w h)) hown hK hP 0 rfl rfl 0 (by decide) (hts _ (List.mem_cons_of_mem _ k_35)) (fun _ h9 => h9) rfl d_Lo_mark_7 ?_
  refine lv_imul hx hb d_Lo_mark_10 ?_
  refine ka_i (y := nI ((en * side) * side)) (pk_mul _ _) ?_
  refine lv_iload_n hx hb d_Lo_mark_11 rfl (lv_at hl 3 rfl) ?_
  refine lv_aload_n hx hb d_Lo_mark_12 rfl (lv_at hl 0 rfl) ?_
  refine va_get (D := D) (ci := 3) (v := .int (nI side)) (C := R_Lo) (T := T_Lo) (N := 6) hx hb hts (fun w h => List.mem_cons_of_mem _ (iw_Lo w h)) hown hK hP 0 rfl rfl 0 (by decide) (hts _ (List.mem_cons_of_mem _ k_35)) (fun _ h9 => h9) rfl d_Lo_mark_13 ?_
  refine lv_imul hx hb d_Lo_mark_16 ?_
  refine ka_i (y := nI (y * side)) (pk_mul _ _) ?_
  refine lv_iadd hx hb d_Lo_mark_17 ?_
  refine ka_i (y := nI (((en * side) * side) + (y * side))) (nI_add _ _) ?_
  refine lv_iload_n hx hb d_Lo_mark_18 rfl (lv_at hl 2 rfl) ?_
  refine lv_iadd hx hb d_Lo_mark_19 ?_
  refine ka_i (y := nI ((((en * side) * side) + (y * side)) + x)) (nI_add _ _) ?_
  refine lv_istore (lv' := [(5, .int (nI ((((en * side) * side) + (y * side)) + x))), (0, .ref h0), (1, .int (nI en)), (2, .int (nI x)), (3, .int (nI y)), (4, .int (pI b))]) hx hb d_Lo_mark_20 hl (by decide) rfl (fun ls hl => ?_)
  refine lv_aload_n hx hb d_Lo_mark_22 rfl (lv_at hl 1 rfl) ?_
  refine va_get (D := D) (ci := 3) (v := .ref a1) (C := R_Lo) (T := T_Lo) (N := 6) hx hb hts (fun w h => List.mem_cons_of_mem _ (iw_Lo w h)) hown hK hP 0 rfl rfl 1 (by decide) (hts _ (List.mem_cons_of_mem _ k_37)) (fun _ h9 => h9) rfl d_Lo_mark_23 ?_
  refine lv_iload hx hb d_Lo_mark_26 (lv_at hl 0 rfl) ?_
  refine ka_zald (k := ((((en * side) * side) + (y * side)) + x)) (n := ((2 * side) * side)) (f := fun j => pI (IN j)) (nI_t (by omega)) (by omega) hx hb hK hP 1 2 rfl rfl d_Lo_mark_28 ?_
  refine lv_iload hx hb d_Lo_mark_29 (lv_at hl 5 rfl) ?_
  refine kb_ceqP (tgt := 38) hx hb d_Lo_mark_31 (by decide) (fun ce => ?_) (fun ce => ?_)
  · refine lv_iconst (v := nI 0) hx hb d_Lo_mark_38 (by decide +kernel) ?_
    refine ka_i (y := pI (¬ (IN ((en * side) * side + y * side + x) ↔ b))) (pI_z (fun h => h ce)) ?_
    refine lv_istore (lv' := [(6, .int (pI (¬ (IN ((en * side) * side + y * side + x) ↔ b)))), (5, .int (nI ((((en * side) * side) + (y * side)) + x))), (0, .ref h0), (1, .int (nI en)), (2, .int (nI x)), (3, .int (nI y)), (4, .int (pI b))]) hx hb d_Lo_mark_39 hl (by decide) rfl (fun ls hl => ?_)
    refine lv_aload_n hx hb d_Lo_mark_41 rfl (lv_at hl 2 rfl) ?_
    refine va_get (D := D) (ci := 3) (v := .ref a1) (C := R_Lo) (T := T_Lo) (N := 6) hx hb hts (fun w h => List.mem_cons_of_mem _ (iw_Lo w h)) hown hK hP 0 rfl rfl 1 (by decide) (hts _ (List.mem_cons_of_mem _ k_37)) (fun _ h9 => h9) rfl d_Lo_mark_42 ?_
    refine lv_iload hx hb d_Lo_mark_45 (lv_at hl 1 rfl) ?_
    refine lv_iload hx hb d_Lo_mark_47 (lv_at hl 6 rfl) ?_
    refine ka_zastP (F := IN) (v := b) (k := ((((en * side) * side) + (y * side)) + x)) (n := ((2 * side) * side)) (nI_t (by omega)) (by omega) hx hb hK hP hD hS 1 2 rfl rfl d_Lo_mark_49 (fun H locs hP hD hS => ?_)
    have hP : va_P D vwCl [(h0, .inr (3, [.int (nI side), .ref a1, .ref a2, .ref a3, .ref a4, .int (pI sm)])), (a1, .inl (cZ, ((2 * side) * side), .inl (fun j => pI ((va_up IN ((((en * side) * side) + (y * side)) + x) b) j))))] H := hP
    have hD : va_D A [(h0, .inr (3, [.int (nI side), .ref a1, .ref a2, .ref a3, .ref a4, .int (pI sm)])), (a1, .inl (cZ, ((2 * side) * side), .inl (fun j => pI ((va_up IN ((((en * side) * side) + (y * side)) + x) b) j))))] := hD
    refine lv_aload_n hx hb d_Lo_mark_50 rfl (lv_at hl 2 rfl) ?_
    refine lv_iconst (v := nI 0) hx hb d_Lo_mark_51 (by decide +kernel) ?_
    refine ka_i (y := pI False) (pI_z (fun h => h)) ?_
    refine va_put (D := D) (ci := 3) (v := .int (pI False)) (ty := .boolean) (C := R_Lo) (T := T_Lo) (N := 6) hx hb hts (fun w h => List.mem_cons_of_mem _ (iw_Lo w h)) ty_Lo tyok_Lo nm_Lo hown hK hP hD hS 0 rfl rfl 5 (by decide) (hts _ (List.mem_cons_of_mem _ k_43)) (fun _ h9 => h9) rfl (by decide +kernel) (pI_narrow _) (pI_fits _) (Nat.le_of_ble_eq_true rfl) d_Lo_mark_52 (fun H locs hP hD hS => ?_)
    have hP : va_P D vwCl [(h0, .inr (3, [.int (nI side), .ref a1, .ref a2, .ref a3, .ref a4, .int (pI False)])), (a1, .inl (cZ, ((2 * side) * side), .inl (fun j => pI ((va_up IN ((((en * side) * side) + (y * side)) + x) b) j))))] H := hP
    have hD : va_D A [(h0, .inr (3, [.int (nI side), .ref a1, .ref a2, .ref a3, .ref a4, .int (pI False)])), (a1, .inl (cZ, ((2 * side) * side), .inl (fun j => pI ((va_up IN ((((en * side) * side) + (y * side)) + x) b) j))))] := hD
    refine lv_iload hx hb d_Lo_mark_55 (lv_at hl 0 rfl) ?_
    exact kretz (u := ()) (pI_narrow _) hx hb hr hP hD hS hlocks rfl (rfl) d_Lo_mark_57
  · refine lv_iconst (v := nI 1) hx hb d_Lo_mark_34 (by decide +kernel) ?_
    refine ka_i (y := pI (¬ (IN ((en * side) * side + y * side + x) ↔ b))) (pI_1 (ce)) ?_
    refine lv_goto (tgt := 39) hx hb d_Lo_mark_35 (by decide) ?_
    refine lv_istore (lv' := [(6, .int (pI (¬ (IN ((en * side) * side + y * side + x) ↔ b)))), (5, .int (nI ((((en * side) * side) + (y * side)) + x))), (0, .ref h0), (1, .int (nI en)), (2, .int (nI x)), (3, .int (nI y)), (4, .int (pI b))]) hx hb d_Lo_mark_39 hl (by decide) rfl (fun ls hl => ?_)
    refine lv_aload_n hx hb d_Lo_mark_41 rfl (lv_at hl 2 rfl) ?_
    refine va_get (D := D) (ci := 3) (v := .ref a1) (C := R_Lo) (T := T_Lo) (N := 6) hx hb hts (fun w h => List.mem_cons_of_mem _ (iw_Lo w h)) hown hK hP 0 rfl rfl 1 (by decide) (hts _ (List.mem_cons_of_mem _ k_37)) (fun _ h9 => h9) rfl d_Lo_mark_42 ?_
    refine lv_iload hx hb d_Lo_mark_45 (lv_at hl 1 rfl) ?_
    refine lv_iload hx hb d_Lo_mark_47 (lv_at hl 6 rfl) ?_
    refine ka_zastP (F := IN) (v := b) (k := ((((en * side) * side) + (y * side)) + x)) (n := ((2 * side) * side)) (nI_t (by omega)) (by omega) hx hb hK hP hD hS 1 2 rfl rfl d_Lo_mark_49 (fun H locs hP hD hS => ?_)
    have hP : va_P D vwCl [(h0, .inr (3, [.int (nI side), .ref a1, .ref a2, .ref a3, .ref a4, .int (pI sm)])), (a1, .inl (cZ, ((2 * side) * side), .inl (fun j => pI ((va_up IN ((((en * side) * side) + (y * side)) + x) b) j))))] H := hP
    have hD : va_D A [(h0, .inr (3, [.int (nI side), .ref a1, .ref a2, .ref a3, .ref a4, .int (pI sm)])), (a1, .inl (cZ, ((2 * side) * side), .inl (fun j => pI ((va_up IN ((((en * side) * side) + (y * side)) + x) b) j))))] := hD
    refine lv_aload_n hx hb d_Lo_mark_50 rfl (lv_at hl 2 rfl) ?_
    refine lv_iconst (v := nI 0) hx hb d_Lo_mark_51 (by decide +kernel) ?_
    refine ka_i (y := pI False) (pI_z (fun h => h)) ?_
    refine va_put (D := D) (ci := 3) (v := .int (pI False)) (ty := .boolean) (C := R_Lo) (T := T_Lo) (N := 6) hx hb hts (fun w h => List.mem_cons_of_mem _ (iw_Lo w h)) ty_Lo tyok_Lo nm_Lo hown hK hP hD hS 0 rfl rfl 5 (by decide) (hts _ (List.mem_cons_of_mem _ k_43)) (fun _ h9 => h9) rfl (by decide +kernel) (pI_narrow _) (pI_fits _) (Nat.le_of_ble_eq_true rfl) d_Lo_mark_52 (fun H locs hP hD hS => ?_)
    have hP : va_P D vwCl [(h0, .inr (3, [.int (nI side), .ref a1, .ref a2, .ref a3, .ref a4, .int (pI False)])), (a1, .inl (cZ, ((2 * side) * side), .inl (fun j => pI ((va_up IN ((((en * side) * side) + (y * side)) + x) b) j))))] H := hP
    have hD : va_D A [(h0, .inr (3, [.int (nI side), .ref a1, .ref a2, .ref a3, .ref a4, .int (pI False)])), (a1, .inl (cZ, ((2 * side) * side), .inl (fun j => pI ((va_up IN ((((en * side) * side) + (y * side)) + x) b) j))))] := hD
    refine lv_iload hx hb d_Lo_mark_55 (lv_at hl 0 rfl) ?_
    exact kretz (u := ()) (pI_narrow _) hx hb hr hP hD hS hlocks rfl (rfl) d_Lo_mark_57
set_option maxHeartbeats 4000000 in
set_option maxRecDepth 100000 in
theorem c_tie (l : Launch) (D : va_G) (cI cJ cZ : ClassId) (sz : Nat) (h0 : Nat) (side : Nat) (a1 : Nat) (a2 : Nat) (a3 : Nat) (a4 : Nat) (sm : Prop) (LO : Nat → Nat) (x : Nat) (y : Nat) (v : Nat) (s2 : side ≤ 20) (hx_ : x < side) (hy_ : y < side) (hv : v ≤ 10000) (hL : ∀ k, k < side * side → LO k ≤ 10000) : Met l y_Lo_tie w_Lo_tie ({ frames := 0, cells := 0, slots := 0, locals := 0 }) (va_Pc [.ref h0, .int (nI x), .int (nI y), .int (nI v)] (kB D vwCl (tyL cI cJ cZ) sz [(h0, .inr (3, [.int (nI side), .ref a1, .ref a2, .ref a3, .ref a4, .int (pI sm)])), (a2, .inl (cI, (side * side), .inl (fun j => nI (LO j))))])) (va_Qi (fun (r : Int32) (_ : Unit) => r = pI (¬ LO (y * side + x) = v)) (fun (_ : Unit) t => kE D vwCl (va_A [(h0, .inr (3, [.int (nI side), .ref a1, .ref a2, .ref a3, .ref a4, .int (pI sm)])), (a2, .inl (cI, (side * side), .inl (fun j => nI (LO j))))] sz) [(h0, .inr (3, [.int (nI side), .ref a1, .ref a2, .ref a3, .ref a4, .int (pI False)])), (a2, .inl (cI, (side * side), .inl (fun j => nI ((va_up LO (y * side + x) v) j))))] t) (va_A [(h0, .inr (3, [.int (nI side), .ref a1, .ref a2, .ref a3, .ref a4, .int (pI sm)])), (a2, .inl (cI, (side * side), .inl (fun j => nI (LO j))))] sz)) 0 0 (va_A [(h0, .inr (3, [.int (nI side), .ref a1, .ref a2, .ref a3, .ref a4, .int (pI sm)])), (a2, .inl (cI, (side * side), .inl (fun j => nI (LO j))))] sz) := by
  refine Met.ofW (cc := b_Lo_tie) (maxL := 6) (ret := (some (.boolean))) (by decide) rfl ?_
  intro p e s m args below meth c s₁ B hml hv
  obtain ⟨rfl, hsz, hP, hK, hD0, hZ⟩ := hv
  have hx := B.exec
  have hb := B.bytes
  have hr := B.returns
  have hts := atoms_spec (ws := w_Lo_tie) B.pre
  have hown : s.vm.findClass R_Lo = some m.cls := findClass_of_methodNamed B.named
  have hlocks := B.notSynchronized
  subst hsz
  have hD := hD0.self (sz := s.heap.size)
  generalize hAe : va_A [(h0, .inr (3, [.int (nI side), .ref a1, .ref a2, .ref a3, .ref a4, .int (pI sm)])), (a2, .inl (cI, (side * side), .inl (fun j => nI (LO j))))] s.heap.size = A at hD ⊢
  have hA : ∀ q : Nat, s.heap.size ≤ q → A q := fun q h => by rw [← hAe]; exact Or.inr h
  have hS : va_S A s.heap s.heap [] := va_S.rf
  have hP : va_P D vwCl [(h0, .inr (3, [.int (nI side), .ref a1, .ref a2, .ref a3, .ref a4, .int (pI sm)])), (a2, .inl (cI, (side * side), .inl (fun j => nI (LO j))))] s.heap := hP
  have hl := lv_entry ([.ref h0, .int (nI x), .int (nI y), .int (nI v)]) (n := 6) (Nat.le_of_ble_eq_true rfl)
  rw [lg_entry_eq]
  generalize (lg_sl ([.ref h0, .int (nI x), .int (nI y), .int (nI v)]) ++ List.replicate (6 - (lg_sl ([.ref h0, .int (nI x), .int (nI y), .int (nI v)])).length) Slot.unset).toArray = ls at hl ⊢
  have hl : lv_has ls 6 [(0, .ref h0), (1, .int (nI x)), (2, .int (nI y)), (3, .int (nI v))] := hl
  have q1 := idxS hx_ hy_
  have q2 := (sq20 s2).2
  have q3 := hL _ q1
  refine lv_iload_n hx hb d_Lo_tie_0 rfl (lv_at hl 2 rfl) ?_
  refine lv_aload_n hx hb d_Lo_tie_1 rfl (lv_at hl 0 rfl) ?_
  refine va_get (D := D) (ci := 3) (v := .int (nI side)) (C := R_Lo) (T := T_Lo) (N := 6) hx hb hts (fun w h => List.mem_cons_of_mem _ (iw_Lo w h)) hown hK hP 0 rfl rfl 0 (by decide) (hts _ (List.mem_cons_of_mem _ k_35)) (fun _ h9 => h9) rfl d_Lo_tie_2 ?_
  refine lv_imul hx hb d_Lo_tie_5 ?_
  refine ka_i (y := nI (y * side)) (pk_mul _ _) ?_
  refine lv_iload_n hx hb d_Lo_tie_6 rfl (lv_at hl 1 rfl) ?_
  refine lv_iadd hx hb d_Lo_tie_7 ?_
  refine ka_i (y := nI ((y * side) + x)) (nI_add _ _) ?_
  refine lv_istore (lv' := [(4, .int (nI ((y * side) + x))), (0, .ref h0), (1, .int (nI x)), (2, .int (nI y)), (3, .int (nI v))]) hx hb d_Lo_tie_8 hl (by decide) rfl (fun ls hl => ?_)
  refine lv_aload_n hx hb d_Lo_tie_10 rfl (lv_at hl 1 rfl) ?_
  refine va_get (D := D) (ci := 3) (v := .ref a2) (C := R_Lo) (T := T_Lo) (N := 6) hx hb hts (fun w h => List.mem_cons_of_mem _ (iw_Lo w h)) hown hK hP 0 rfl rfl 2 (by decide) (hts _ (List.mem_cons_of_mem _ k_38)) (fun _ h9 => h9) rfl d_Lo_tie_11 ?_
  refine lv_iload hx hb d_Lo_tie_14 (lv_at hl 0 rfl) ?_
  refine ka_iald (k := ((y * side) + x)) (n := (side * side)) (f := fun j => nI (LO j)) (nI_t (by omega)) (by omega) hx hb hK hP 1 0 rfl rfl d_Lo_tie_16 ?_
  refine lv_iload_n hx hb d_Lo_tie_17 rfl (lv_at hl 4 rfl) ?_
  refine kb_ceq (tgt := 25) (nI_t (by omega)) (nI_t (by omega)) hx hb d_Lo_tie_18 (by decide) (fun ce => ?_) (fun ce => ?_)
  · refine lv_iconst (v := nI 0) hx hb d_Lo_tie_25 (by decide +kernel) ?_
    refine ka_i (y := pI (¬ LO (y * side + x) = v)) (pI_z (fun h => h (by omega))) ?_
    refine lv_istore (lv' := [(5, .int (pI (¬ LO (y * side + x) = v))), (4, .int (nI ((y * side) + x))), (0, .ref h0), (1, .int (nI x)), (2, .int (nI y)), (3, .int (nI v))]) hx hb d_Lo_tie_26 hl (by decide) rfl (fun ls hl => ?_)
    refine lv_aload_n hx hb d_Lo_tie_28 rfl (lv_at hl 2 rfl) ?_
    refine va_get (D := D) (ci := 3) (v := .ref a2) (C := R_Lo) (T := T_Lo) (N := 6) hx hb hts (fun w h => List.mem_cons_of_mem _ (iw_Lo w h)) hown hK hP 0 rfl rfl 2 (by decide) (hts _ (List.mem_cons_of_mem _ k_38)) (fun _ h9 => h9) rfl d_Lo_tie_29 ?_
    refine lv_iload hx hb d_Lo_tie_32 (lv_at hl 1 rfl) ?_
    refine lv_iload_n hx hb d_Lo_tie_34 rfl (lv_at hl 5 rfl) ?_
    refine ka_iastN (F := LO) (v := v) (k := ((y * side) + x)) (n := (side * side)) (nI_t (by omega)) (by omega) hx hb hK hP hD hS 1 0 rfl rfl d_Lo_tie_35 (fun H locs hP hD hS => ?_)
    have hP : va_P D vwCl [(h0, .inr (3, [.int (nI side), .ref a1, .ref a2, .ref a3, .ref a4, .int (pI sm)])), (a2, .inl (cI, (side * side), .inl (fun j => nI ((va_up LO ((y * side) + x) v) j))))] H := hP
    have hD : va_D A [(h0, .inr (3, [.int (nI side), .ref a1, .ref a2, .ref a3, .ref a4, .int (pI sm)])), (a2, .inl (cI, (side * side), .inl (fun j => nI ((va_up LO ((y * side) + x) v) j))))] := hD
    refine lv_aload_n hx hb d_Lo_tie_36 rfl (lv_at hl 2 rfl) ?_
    refine lv_iconst (v := nI 0) hx hb d_Lo_tie_37 (by decide +kernel) ?_
    refine ka_i (y := pI False) (pI_z (fun h => h)) ?_
    refine va_put (D := D) (ci := 3) (v := .int (pI False)) (ty := .boolean) (C := R_Lo) (T := T_Lo) (N := 6) hx hb hts (fun w h => List.mem_cons_of_mem _ (iw_Lo w h)) ty_Lo tyok_Lo nm_Lo hown hK hP hD hS 0 rfl rfl 5 (by decide) (hts _ (List.mem_cons_of_mem _ k_43)) (fun _ h9 => h9) rfl (by decide +kernel) (pI_narrow _) (pI_fits _) (Nat.le_of_ble_eq_true rfl) d_Lo_tie_38 (fun H locs hP hD hS => ?_)
    have hP : va_P D vwCl [(h0, .inr (3, [.int (nI side), .ref a1, .ref a2, .ref a3, .ref a4, .int (pI False)])), (a2, .inl (cI, (side * side), .inl (fun j => nI ((va_up LO ((y * side) + x) v) j))))] H := hP
    have hD : va_D A [(h0, .inr (3, [.int (nI side), .ref a1, .ref a2, .ref a3, .ref a4, .int (pI False)])), (a2, .inl (cI, (side * side), .inl (fun j => nI ((va_up LO ((y * side) + x) v) j))))] := hD
    refine lv_iload hx hb d_Lo_tie_41 (lv_at hl 0 rfl) ?_
    exact kretz (u := ()) (pI_narrow _) hx hb hr hP hD hS hlocks rfl (rfl) d_Lo_tie_43
  · refine lv_iconst (v := nI 1) hx hb d_Lo_tie_21 (by decide +kernel) ?_
    refine ka_i (y := pI (¬ LO (y * side + x) = v)) (pI_1 (by omega)) ?_
    refine lv_goto (tgt := 26) hx hb d_Lo_tie_22 (by decide) ?_
    refine lv_istore (lv' := [(5, .int (pI (¬ LO (y * side + x) = v))), (4, .int (nI ((y * side) + x))), (0, .ref h0), (1, .int (nI x)), (2, .int (nI y)), (3, .int (nI v))]) hx hb d_Lo_tie_26 hl (by decide) rfl (fun ls hl => ?_)
    refine lv_aload_n hx hb d_Lo_tie_28 rfl (lv_at hl 2 rfl) ?_
    refine va_get (D := D) (ci := 3) (v := .ref a2) (C := R_Lo) (T := T_Lo) (N := 6) hx hb hts (fun w h => List.mem_cons_of_mem _ (iw_Lo w h)) hown hK hP 0 rfl rfl 2 (by decide) (hts _ (List.mem_cons_of_mem _ k_38)) (fun _ h9 => h9) rfl d_Lo_tie_29 ?_
    refine lv_iload hx hb d_Lo_tie_32 (lv_at hl 1 rfl) ?_
    refine lv_iload_n hx hb d_Lo_tie_34 rfl (lv_at hl 5 rfl) ?_
    refine ka_iastN (F := LO) (v := v) (k := ((y * side) + x)) (n := (side * side)) (nI_t (by omega)) (by omega) hx hb hK hP hD hS 1 0 rfl rfl d_Lo_tie_35 (fun H locs hP hD hS => ?_)
    have hP : va_P D vwCl [(h0, .inr (3, [.int (nI side), .ref a1, .ref a2, .ref a3, .ref a4, .int (pI sm)])), (a2, .inl (cI, (side * side), .inl (fun j => nI ((va_up LO ((y * side) + x) v) j))))] H := hP
    have hD : va_D A [(h0, .inr (3, [.int (nI side), .ref a1, .ref a2, .ref a3, .ref a4, .int (pI sm)])), (a2, .inl (cI, (side * side), .inl (fun j => nI ((va_up LO ((y * side) + x) v) j))))] := hD
    refine lv_aload_n hx hb d_Lo_tie_36 rfl (lv_at hl 2 rfl) ?_
    refine lv_iconst (v := nI 0) hx hb d_Lo_tie_37 (by decide +kernel) ?_
    refine ka_i (y := pI False) (pI_z (fun h => h)) ?_
    refine va_put (D := D) (ci := 3) (v := .int (pI False)) (ty := .boolean) (C := R_Lo) (T := T_Lo) (N := 6) hx hb hts (fun w h => List.mem_cons_of_mem _ (iw_Lo w h)) ty_Lo tyok_Lo nm_Lo hown hK hP hD hS 0 rfl rfl 5 (by decide) (hts _ (List.mem_cons_of_mem _ k_43)) (fun _ h9 => h9) rfl (by decide +kernel) (pI_narrow _) (pI_fits _) (Nat.le_of_ble_eq_true rfl) d_Lo_tie_38 (fun H locs hP hD hS => ?_)
    have hP : va_P D vwCl [(h0, .inr (3, [.int (nI side), .ref a1, .ref a2, .ref a3, .ref a4, .int (pI False)])), (a2, .inl (cI, (side * side), .inl (fun j => nI ((va_up LO ((y * side) + x) v) j))))] H := hP
    have hD : va_D A [(h0, .inr (3, [.int (nI side), .ref a1, .ref a2, .ref a3, .ref a4, .int (pI False)])), (a2, .inl (cI, (side * side), .inl (fun j => nI ((va_up LO ((y * side) + x) v) j))))] := hD
    refine lv_iload hx hb d_Lo_tie_41 (lv_at hl 0 rfl) ?_
    exact kretz (u := ()) (pI_narrow _) hx hb hr hP hD hS hlocks rfl (rfl) d_Lo_tie_43
set_option maxHeartbeats 4000000 in
set_option maxRecDepth 100000 in
theorem c_sumUpRow (l : Launch) (D : va_G) (cI cJ cZ : ClassId) (sz : Nat) (h0 : Nat) (side : Nat) (a1 : Nat) (a2 : Nat) (a3 : Nat) (a4 : Nat) (sm : Prop) (IN : Nat → Prop) (LO : Nat → Nat) (F3 : Nat → Nat) (F4 : Nat → Nat) (y : Nat) (s2 : side ≤ 20) (hy_ : y < side) : Met l y_Lo_sumUpRow w_Lo_sumUpRow ({ frames := 0, cells := 0, slots := 0, locals := 0 }) (va_Pc [.ref h0, .int (nI y)] (kB D vwCl (tyL cI cJ cZ) sz [(h0, .inr (3, [.int (nI side), .ref a1, .ref a2, .ref a3, .ref a4, .int (pI sm)])), (a1, .inl (cZ, ((2 * side) * side), .inl (fun j => pI (IN j)))), (a2, .inl (cI, (side * side), .inl (fun j => nI (LO j)))), (a3, .inl (cI, ((side + 1) * (side + 1)), .inl (fun j => nI (F3 j)))), (a4, .inl (cI, ((side + 1) * (side + 1)), .inl (fun j => nI (F4 j))))])) (va_Qv (fun (_ : Unit) => True) (fun (_ : Unit) t => kE D vwCl (va_A [(h0, .inr (3, [.int (nI side), .ref a1, .ref a2, .ref a3, .ref a4, .int (pI sm)])), (a1, .inl (cZ, ((2 * side) * side), .inl (fun j => pI (IN j)))), (a2, .inl (cI, (side * side), .inl (fun j => nI (LO j)))), (a3, .inl (cI, ((side + 1) * (side + 1)), .inl (fun j => nI (F3 j)))), (a4, .inl (cI, ((side + 1) * (side + 1)), .inl (fun j => nI (F4 j))))] sz) [(h0, .inr (3, [.int (nI side), .ref a1, .ref a2, .ref a3, .ref a4, .int (pI sm)])), (a1, .inl (cZ, ((2 * side) * side), .inl (fun j => pI (IN j)))), (a2, .inl (cI, (side * side), .inl (fun j => nI (LO j)))), (a3, .inl (cI, ((side + 1) * (side + 1)), .inl (fun j => nI ((rowUp side y (fun i_ => fbare side IN i_ y) F3 side) j)))), (a4, .inl (cI, ((side + 1) * (side + 1)), .inl (fun j => nI ((rowUp side y (fun i_ => floss side LO i_ y) F4 side) j))))] t) (va_A [(h0, .inr (3, [.int (nI side), .ref a1, .ref a2, .ref a3, .ref a4, .int (pI sm)])), (a1, .inl (cZ, ((2 * side) * side), .inl (fun j => pI (IN j)))), (a2, .inl (cI, (side * side), .inl (fun j => nI (LO j)))), (a3, .inl (cI, ((side + 1) * (side + 1)), .inl (fun j => nI (F3 j)))), (a4, .inl (cI, ((side + 1) * (side + 1)), .inl (fun j => nI (F4 j))))] sz)) 0 0 (va_A [(h0, .inr (3, [.int (nI side), .ref a1, .ref a2, .ref a3, .ref a4, .int (pI sm)])), (a1, .inl (cZ, ((2 * side) * side), .inl (fun j => pI (IN j)))), (a2, .inl (cI, (side * side), .inl (fun j => nI (LO j)))), (a3, .inl (cI, ((side + 1) * (side + 1)), .inl (fun j => nI (F3 j)))), (a4, .inl (cI, ((side + 1) * (side + 1)), .inl (fun j => nI (F4 j))))] sz) := by
  refine Met.ofW (cc := b_Lo_sumUpRow) (maxL := 8) (ret := none) (by decide) rfl ?_
  intro p e s m args below meth c s₁ B hml hv
  obtain ⟨rfl, hsz, hP, hK, hD0, hZ⟩ := hv
  have hx := B.exec
  have hb := B.bytes
  have hr := B.returns
  have hts := atoms_spec (ws := w_Lo_sumUpRow) B.pre
  have hown : s.vm.findClass R_Lo = some m.cls := findClass_of_methodNamed B.named
  have hlocks := B.notSynchronized
  subst hsz
  have hD := hD0.self (sz := s.heap.size)
  generalize hAe : va_A [(h0, .inr (3, [.int (nI side), .ref a1, .ref a2, .ref a3, .ref a4, .int (pI sm)])), (a1, .inl (cZ, ((2 * side) * side), .inl (fun j => pI (IN j)))), (a2, .inl (cI, (side * side), .inl (fun j => nI (LO j)))), (a3, .inl (cI, ((side + 1) * (side + 1)), .inl (fun j => nI (F3 j)))), (a4, .inl (cI, ((side + 1) * (side + 1)), .inl (fun j => nI (F4 j))))] s.heap.size = A at hD ⊢
  have hA : ∀ q : Nat, s.heap.size ≤ q → A q := fun q h => by rw [← hAe]; exact Or.inr h
  have hS : va_S A s.heap s.heap [] := va_S.rf
  have hP : va_P D vwCl [(h0, .inr (3, [.int (nI side), .ref a1, .ref a2, .ref a3, .ref a4, .int (pI sm)])), (a1, .inl (cZ, ((2 * side) * side), .inl (fun j => pI (IN j)))), (a2, .inl (cI, (side * side), .inl (fun j => nI (LO j)))), (a3, .inl (cI, ((side + 1) * (side + 1)), .inl (fun j => nI (F3 j)))), (a4, .inl (cI, ((side + 1) * (side + 1)), .inl (fun j => nI (F4 j))))] s.heap := hP
  have hl := lv_entry ([.ref h0, .int (nI y)]) (n := 8) (Nat.le_of_ble_eq_true rfl)
  rw [lg_entry_eq]
  generalize (lg_sl ([.ref h0, .int (nI y)]) ++ List.replicate (8 - (lg_sl ([.ref h0, .int (nI y)])).length) Slot.unset).toArray = ls at hl ⊢
  have hl : lv_has ls 8 [(0, .ref h0), (1, .int (nI y))] := hl
  have q2 := (sq20 s2).2
  have q5 := (sq20 s2).1
  have q6 := sq2 s2
  have q7 : 2 * side * side = side * side + side * side := by rw [Nat.mul_assoc]; omega
  refine lv_iconst (v := nI 0) hx hb d_Lo_sumUpRow_0 (by decide +kernel) ?_
  refine lv_istore_n (lv' := [(2, .int (nI 0)), (0, .ref h0), (1, .int (nI y))]) hx hb d_Lo_sumUpRow_1 rfl hl (by decide) rfl (fun ls hl => ?_)
  refine lv_iconst (v := nI 0) hx hb d_Lo_sumUpRow_2 (by decide +kernel) ?_
  refine lv_istore_n (lv' := [(3, .int (nI 0)), (2, .int (nI 0)), (0, .ref h0), (1, .int (nI y))]) hx hb d_Lo_sumUpRow_3 rfl hl (by decide) rfl (fun ls hl => ?_)
  refine lv_iconst (v := nI 0) hx hb d_Lo_sumUpRow_4 (by decide +kernel) ?_
  refine lv_istore (lv' := [(4, .int (nI 0)), (3, .int (nI 0)), (2, .int (nI 0)), (0, .ref h0), (1, .int (nI y))]) hx hb d_Lo_sumUpRow_5 hl (by decide) rfl (fun ls hl => ?_)
  have lp : ∀ (n : Nat) (t : Nat), (t + n = side) → ∀ (H : Heap) (locs : List Loc), va_P D vwCl [(h0, .inr (3, [.int (nI side), .ref a1, .ref a2, .ref a3, .ref a4, .int (pI sm)])), (a1, .inl (cZ, ((2 * side) * side), .inl (fun j => pI (IN j)))), (a2, .inl (cI, (side * side), .inl (fun j => nI (LO j)))), (a3, .inl (cI, ((side + 1) * (side + 1)), .inl (fun j => nI ((rowUp side y (fun i_ => fbare side IN i_ y) F3 t) j)))), (a4, .inl (cI, ((side + 1) * (side + 1)), .inl (fun j => nI ((rowUp side y (fun i_ => floss side LO i_ y) F4 t) j))))] H → va_D A [(h0, .inr (3, [.int (nI side), .ref a1, .ref a2, .ref a3, .ref a4, .int (pI sm)])), (a1, .inl (cZ, ((2 * side) * side), .inl (fun j => pI (IN j)))), (a2, .inl (cI, (side * side), .inl (fun j => nI (LO j)))), (a3, .inl (cI, ((side + 1) * (side + 1)), .inl (fun j => nI ((rowUp side y (fun i_ => fbare side IN i_ y) F3 t) j)))), (a4, .inl (cI, ((side + 1) * (side + 1)), .inl (fun j => nI ((rowUp side y (fun i_ => floss side LO i_ y) F4 t) j))))] → va_S A s.heap H locs → ∀ ls : Array Slot, lv_has ls 8 [(4, .int (nI t)), (3, .int (nI (sN (fun i_ => floss side LO i_ y) t))), (2, .int (nI (sN (fun i_ => fbare side IN i_ y) t))), (0, .ref h0), (1, .int (nI y))] → W p l e (headSpec w_Lo_sumUpRow ({ frames := 0, cells := 0, slots := 0, locals := 0 })).room s m ([.ref h0, .int (nI y)]).toArray below meth c H locs 0 0 (MQ below (va_Qv (fun (_ : Unit) => True) (fun (_ : Unit) t => kE D vwCl A [(h0, .inr (3, [.int (nI side), .ref a1, .ref a2, .ref a3, .ref a4, .int (pI sm)])), (a1, .inl (cZ, ((2 * side) * side), .inl (fun j => pI (IN j)))), (a2, .inl (cI, (side * side), .inl (fun j => nI (LO j)))), (a3, .inl (cI, ((side + 1) * (side + 1)), .inl (fun j => nI ((rowUp side y (fun i_ => fbare side IN i_ y) F3 side) j)))), (a4, .inl (cI, ((side + 1) * (side + 1)), .inl (fun j => nI ((rowUp side y (fun i_ => floss side LO i_ y) F4 side) j))))] t) A) ([.ref h0, .int (nI y)]).toArray s 0 0 A) (F0 m 7 ls []) := by
    intro n
    induction n with
    | zero =>
      intro t hi H locs hP hD hS ls hl
      refine lv_iload hx hb d_Lo_sumUpRow_7 (lv_at hl 0 rfl) ?_
      refine lv_aload_n hx hb d_Lo_sumUpRow_9 rfl (lv_at hl 3 rfl) ?_
      refine va_get (D := D) (ci := 3) (v := .int (nI side)) (C := R_Lo) (T := T_Lo) (N := 6) hx hb hts (fun w h => List.mem_cons_of_mem _ (iw_Lo w h)) hown hK hP 0 rfl rfl 0 (by decide) (hts _ (List.mem_cons_of_mem _ k_35)) (fun _ h9 => h9) rfl d_Lo_sumUpRow_10 ?_
      refine kb_cge (tgt := 139) (nI_t (by omega)) (nI_t (by omega)) hx hb d_Lo_sumUpRow_13 (by decide) (fun c_13 => ?_) (fun c_13 => ?_)
      · have et : side = t := by omega
        subst et
        exact kretv (u := ()) hx hb hr hP hD hS hlocks rfl (trivial) d_Lo_sumUpRow_139
      · exfalso; omega
    | succ n ih =>
      intro t hi H locs hP hD hS ls hl
      refine lv_iload hx hb d_Lo_sumUpRow_7 (lv_at hl 0 rfl) ?_
      refine lv_aload_n hx hb d_Lo_sumUpRow_9 rfl (lv_at hl 3 rfl) ?_
      refine va_get (D := D) (ci := 3) (v := .int (nI side)) (C := R_Lo) (T := T_Lo) (N := 6) hx hb hts (fun w h => List.mem_cons_of_mem _ (iw_Lo w h)) hown hK hP 0 rfl rfl 0 (by decide) (hts _ (List.mem_cons_of_mem _ k_35)) (fun _ h9 => h9) rfl d_Lo_sumUpRow_10 ?_
      refine kb_cge (tgt := 139) (nI_t (by omega)) (nI_t (by omega)) hx hb d_Lo_sumUpRow_13 (by decide) (fun c_13 => ?_) (fun c_13 => ?_)
      · exfalso; omega
      · have q1 := idxS (X := t) (Y := y) (n := side) (by omega) hy_
        have q8 := idxC (X := t + 1) (Y := y) (n := side) (by omega) (by omega)
        have q9 := idxC (X := t + 1) (Y := y + 1) (n := side) (by omega) (by omega)
        have q10 := corner_eq side y t
        refine lv_iload_n hx hb d_Lo_sumUpRow_16 rfl (lv_at hl 4 rfl) ?_
        refine lv_aload_n hx hb d_Lo_sumUpRow_17 rfl (lv_at hl 3 rfl) ?_
        refine va_get (D := D) (ci := 3) (v := .int (nI side)) (C := R_Lo) (T := T_Lo) (N := 6) hx hb hts (fun w h => List.mem_cons_of_mem _ (iw_Lo w h)) hown hK hP 0 rfl rfl 0 (by decide) (hts _ (List.mem_cons_of_mem _ k_35)) (fun _ h9 => h9) rfl d_Lo_sumUpRow_18 ?_
        refine lv_imul hx hb d_Lo_sumUpRow_21 ?_
        refine ka_i (y := nI (y * side)) (pk_mul _ _) ?_
        refine lv_iload hx hb d_Lo_sumUpRow_22 (lv_at hl 0 rfl) ?_
        refine lv_iadd hx hb d_Lo_sumUpRow_24 ?_
        refine ka_i (y := nI ((y * side) + t)) (nI_add _ _) ?_
        refine lv_istore (lv' := [(5, .int (nI ((y * side) + t))), (4, .int (nI t)), (3, .int (nI (sN (fun i_ => floss side LO i_ y) t))), (2, .int (nI (sN (fun i_ => fbare side IN i_ y) t))), (0, .ref h0), (1, .int (nI y))]) hx hb d_Lo_sumUpRow_25 hl (by decide) rfl (fun ls hl => ?_)
        refine lv_iload_n hx hb d_Lo_sumUpRow_27 rfl (lv_at hl 3 rfl) ?_
        refine lv_aload_n hx hb d_Lo_sumUpRow_28 rfl (lv_at hl 4 rfl) ?_
        refine va_get (D := D) (ci := 3) (v := .ref a1) (C := R_Lo) (T := T_Lo) (N := 6) hx hb hts (fun w h => List.mem_cons_of_mem _ (iw_Lo w h)) hown hK hP 0 rfl rfl 1 (by decide) (hts _ (List.mem_cons_of_mem _ k_37)) (fun _ h9 => h9) rfl d_Lo_sumUpRow_29 ?_
        refine lv_iload hx hb d_Lo_sumUpRow_32 (lv_at hl 0 rfl) ?_
        refine ka_zald (k := ((y * side) + t)) (n := ((2 * side) * side)) (f := fun j => pI (IN j)) (nI_t (by omega)) (by omega) hx hb hK hP 1 2 rfl rfl d_Lo_sumUpRow_34 ?_
        refine kb_eqP (tgt := 62) hx hb d_Lo_sumUpRow_35 (by decide) (fun w1 => ?_) (fun w1 => ?_)
        · refine lv_iconst (v := nI 1) hx hb d_Lo_sumUpRow_62 (by decide +kernel) ?_
          refine lv_iadd hx hb d_Lo_sumUpRow_63 ?_
          refine ka_i (y := nI ((sN (fun i_ => fbare side IN i_ y) t) + 1)) (nI_add _ _) ?_
          refine ka_i (y := nI (sN (fun i_ => fbare side IN i_ y) (t + 1))) (congrArg nI (by
            show _ = sN (fun i_ => fbare side IN i_ y) t + bareN (IN (y * side + t) ∧ IN (side * side + (y * side + t)))
            rw [bareN_f (fun h => w1 h.1)])) ?_
          refine lv_istore_n (lv' := [(2, .int (nI (sN (fun i_ => fbare side IN i_ y) (t + 1)))), (5, .int (nI ((y * side) + t))), (4, .int (nI t)), (3, .int (nI (sN (fun i_ => floss side LO i_ y) t))), (0, .ref h0), (1, .int (nI y))]) hx hb d_Lo_sumUpRow_64 rfl hl (by decide) rfl (fun ls hl => ?_)
          refine lv_iload_n hx hb d_Lo_sumUpRow_65 rfl (lv_at hl 3 rfl) ?_
          refine lv_aload_n hx hb d_Lo_sumUpRow_66 rfl (lv_at hl 4 rfl) ?_
          refine va_get (D := D) (ci := 3) (v := .ref a2) (C := R_Lo) (T := T_Lo) (N := 6) hx hb hts (fun w h => List.mem_cons_of_mem _ (iw_Lo w h)) hown hK hP 0 rfl rfl 2 (by decide) (hts _ (List.mem_cons_of_mem _ k_38)) (fun _ h9 => h9) rfl d_Lo_sumUpRow_67 ?_
          refine lv_iload hx hb d_Lo_sumUpRow_70 (lv_at hl 1 rfl) ?_
          refine ka_iald (k := ((y * side) + t)) (n := (side * side)) (f := fun j => nI (LO j)) (nI_t (by omega)) (by omega) hx hb hK hP 2 0 rfl rfl d_Lo_sumUpRow_72 ?_
          refine lv_iadd hx hb d_Lo_sumUpRow_73 ?_
          refine ka_i (y := nI ((sN (fun i_ => floss side LO i_ y) t) + (LO ((y * side) + t)))) (nI_add _ _) ?_
          refine ka_i (y := nI (sN (fun i_ => floss side LO i_ y) (t + 1))) (rfl) ?_
          refine lv_istore_n (lv' := [(3, .int (nI (sN (fun i_ => floss side LO i_ y) (t + 1)))), (2, .int (nI (sN (fun i_ => fbare side IN i_ y) (t + 1)))), (5, .int (nI ((y * side) + t))), (4, .int (nI t)), (0, .ref h0), (1, .int (nI y))]) hx hb d_Lo_sumUpRow_74 rfl hl (by decide) rfl (fun ls hl => ?_)
          refine lv_iload_n hx hb d_Lo_sumUpRow_75 rfl (lv_at hl 5 rfl) ?_
          refine lv_aload_n hx hb d_Lo_sumUpRow_76 rfl (lv_at hl 4 rfl) ?_
          refine va_get (D := D) (ci := 3) (v := .int (nI side)) (C := R_Lo) (T := T_Lo) (N := 6) hx hb hts (fun w h => List.mem_cons_of_mem _ (iw_Lo w h)) hown hK hP 0 rfl rfl 0 (by decide) (hts _ (List.mem_cons_of_mem _ k_35)) (fun _ h9 => h9) rfl d_Lo_sumUpRow_77 ?_
          refine lv_iconst (v := nI 1) hx hb d_Lo_sumUpRow_80 (by decide +kernel) ?_
          refine lv_iadd hx hb d_Lo_sumUpRow_81 ?_
          refine ka_i (y := nI (side + 1)) (nI_add _ _) ?_
          refine lv_imul hx hb d_Lo_sumUpRow_82 ?_
          refine ka_i (y := nI (y * (side + 1))) (pk_mul _ _) ?_
          refine lv_iload hx hb d_Lo_sumUpRow_83 (lv_at hl 3 rfl) ?_
          refine lv_iadd hx hb d_Lo_sumUpRow_85 ?_
          refine ka_i (y := nI ((y * (side + 1)) + t)) (nI_add _ _) ?_
          refine lv_iconst (v := nI 1) hx hb d_Lo_sumUpRow_86 (by decide +kernel) ?_
          refine lv_iadd hx hb d_Lo_sumUpRow_87 ?_
          refine ka_i (y := nI (((y * (side + 1)) + t) + 1)) (nI_add _ _) ?_
          refine lv_istore (lv' := [(6, .int (nI (((y * (side + 1)) + t) + 1))), (3, .int (nI (sN (fun i_ => floss side LO i_ y) (t + 1)))), (2, .int (nI (sN (fun i_ => fbare side IN i_ y) (t + 1)))), (5, .int (nI ((y * side) + t))), (4, .int (nI t)), (0, .ref h0), (1, .int (nI y))]) hx hb d_Lo_sumUpRow_88 hl (by decide) rfl (fun ls hl => ?_)
          refine lv_iload hx hb d_Lo_sumUpRow_90 (lv_at hl 0 rfl) ?_
          refine lv_aload_n hx hb d_Lo_sumUpRow_92 rfl (lv_at hl 5 rfl) ?_
          refine va_get (D := D) (ci := 3) (v := .int (nI side)) (C := R_Lo) (T := T_Lo) (N := 6) hx hb hts (fun w h => List.mem_cons_of_mem _ (iw_Lo w h)) hown hK hP 0 rfl rfl 0 (by decide) (hts _ (List.mem_cons_of_mem _ k_35)) (fun _ h9 => h9) rfl d_Lo_sumUpRow_93 ?_
          refine lv_iadd hx hb d_Lo_sumUpRow_96 ?_
          refine ka_i (y := nI ((((y * (side + 1)) + t) + 1) + side)) (nI_add _ _) ?_
          refine lv_iconst (v := nI 1) hx hb d_Lo_sumUpRow_97 (by decide +kernel) ?_
          refine lv_iadd hx hb d_Lo_sumUpRow_98 ?_
          refine ka_i (y := nI (((((y * (side + 1)) + t) + 1) + side) + 1)) (nI_add _ _) ?_
          refine lv_istore (lv' := [(7, .int (nI (((((y * (side + 1)) + t) + 1) + side) + 1))), (6, .int (nI (((y * (side + 1)) + t) + 1))), (3, .int (nI (sN (fun i_ => floss side LO i_ y) (t + 1)))), (2, .int (nI (sN (fun i_ => fbare side IN i_ y) (t + 1)))), (5, .int (nI ((y * side) + t))), (4, .int (nI t)), (0, .ref h0), (1, .int (nI y))]) hx hb d_Lo_sumUpRow_99 hl (by decide) rfl (fun ls hl => ?_)
          refine lv_aload_n hx hb d_Lo_sumUpRow_101 rfl (lv_at hl 6 rfl) ?_
          refine va_get (D := D) (ci := 3) (v := .ref a3) (C := R_Lo) (T := T_Lo) (N := 6) hx hb hts (fun w h => List.mem_cons_of_mem _ (iw_Lo w h)) hown hK hP 0 rfl rfl 3 (by decide) (hts _ (List.mem_cons_of_mem _ k_39)) (fun _ h9 => h9) rfl d_Lo_sumUpRow_102 ?_
          refine lv_iload hx hb d_Lo_sumUpRow_105 (lv_at hl 0 rfl) ?_
          refine lv_aload_n hx hb d_Lo_sumUpRow_107 rfl (lv_at hl 6 rfl) ?_
          refine va_get (D := D) (ci := 3) (v := .ref a3) (C := R_Lo) (T := T_Lo) (N := 6) hx hb hts (fun w h => List.mem_cons_of_mem _ (iw_Lo w h)) hown hK hP 0 rfl rfl 3 (by decide) (hts _ (List.mem_cons_of_mem _ k_39)) (fun _ h9 => h9) rfl d_Lo_sumUpRow_108 ?_
          refine lv_iload hx hb d_Lo_sumUpRow_111 (lv_at hl 1 rfl) ?_
          refine ka_iald (k := (((y * (side + 1)) + t) + 1)) (n := ((side + 1) * (side + 1))) (f := fun j => nI ((rowUp side y (fun i_ => fbare side IN i_ y) F3 t) j)) (nI_t (by omega)) (by omega) hx hb hK hP 3 0 rfl rfl d_Lo_sumUpRow_113 ?_
          refine lv_iload_n hx hb d_Lo_sumUpRow_114 rfl (lv_at hl 3 rfl) ?_
          refine lv_iadd hx hb d_Lo_sumUpRow_115 ?_
          refine ka_i (y := nI (((rowUp side y (fun i_ => fbare side IN i_ y) F3 t) (((y * (side + 1)) + t) + 1)) + (sN (fun i_ => fbare side IN i_ y) (t + 1)))) (nI_add _ _) ?_
          refine ka_iastN (F := (rowUp side y (fun i_ => fbare side IN i_ y) F3 t)) (v := (((rowUp side y (fun i_ => fbare side IN i_ y) F3 t) (((y * (side + 1)) + t) + 1)) + (sN (fun i_ => fbare side IN i_ y) (t + 1)))) (k := (((((y * (side + 1)) + t) + 1) + side) + 1)) (n := ((side + 1) * (side + 1))) (nI_t (by omega)) (by omega) hx hb hK hP hD hS 3 0 rfl rfl d_Lo_sumUpRow_116 (fun H locs hP hD hS => ?_)
          have hP : va_P D vwCl [(h0, .inr (3, [.int (nI side), .ref a1, .ref a2, .ref a3, .ref a4, .int (pI sm)])), (a1, .inl (cZ, ((2 * side) * side), .inl (fun j => pI (IN j)))), (a2, .inl (cI, (side * side), .inl (fun j => nI (LO j)))), (a3, .inl (cI, ((side + 1) * (side + 1)), .inl (fun j => nI ((va_up (rowUp side y (fun i_ => fbare side IN i_ y) F3 t) (((((y * (side + 1)) + t) + 1) + side) + 1) (((rowUp side y (fun i_ => fbare side IN i_ y) F3 t) (((y * (side + 1)) + t) + 1)) + (sN (fun i_ => fbare side IN i_ y) (t + 1)))) j)))), (a4, .inl (cI, ((side + 1) * (side + 1)), .inl (fun j => nI ((rowUp side y (fun i_ => floss side LO i_ y) F4 t) j))))] H := hP
          have hD : va_D A [(h0, .inr (3, [.int (nI side), .ref a1, .ref a2, .ref a3, .ref a4, .int (pI sm)])), (a1, .inl (cZ, ((2 * side) * side), .inl (fun j => pI (IN j)))), (a2, .inl (cI, (side * side), .inl (fun j => nI (LO j)))), (a3, .inl (cI, ((side + 1) * (side + 1)), .inl (fun j => nI ((va_up (rowUp side y (fun i_ => fbare side IN i_ y) F3 t) (((((y * (side + 1)) + t) + 1) + side) + 1) (((rowUp side y (fun i_ => fbare side IN i_ y) F3 t) (((y * (side + 1)) + t) + 1)) + (sN (fun i_ => fbare side IN i_ y) (t + 1)))) j)))), (a4, .inl (cI, ((side + 1) * (side + 1)), .inl (fun j => nI ((rowUp side y (fun i_ => floss side LO i_ y) F4 t) j))))] := hD
          refine lv_aload_n hx hb d_Lo_sumUpRow_117 rfl (lv_at hl 6 rfl) ?_
          refine va_get (D := D) (ci := 3) (v := .ref a4) (C := R_Lo) (T := T_Lo) (N := 6) hx hb hts (fun w h => List.mem_cons_of_mem _ (iw_Lo w h)) hown hK hP 0 rfl rfl 4 (by decide) (hts _ (List.mem_cons_of_mem _ k_41)) (fun _ h9 => h9) rfl d_Lo_sumUpRow_118 ?_
          refine lv_iload hx hb d_Lo_sumUpRow_121 (lv_at hl 0 rfl) ?_
          refine lv_aload_n hx hb d_Lo_sumUpRow_123 rfl (lv_at hl 6 rfl) ?_
          refine va_get (D := D) (ci := 3) (v := .ref a4) (C := R_Lo) (T := T_Lo) (N := 6) hx hb hts (fun w h => List.mem_cons_of_mem _ (iw_Lo w h)) hown hK hP 0 rfl rfl 4 (by decide) (hts _ (List.mem_cons_of_mem _ k_41)) (fun _ h9 => h9) rfl d_Lo_sumUpRow_124 ?_
          refine lv_iload hx hb d_Lo_sumUpRow_127 (lv_at hl 1 rfl) ?_
          refine ka_iald (k := (((y * (side + 1)) + t) + 1)) (n := ((side + 1) * (side + 1))) (f := fun j => nI ((rowUp side y (fun i_ => floss side LO i_ y) F4 t) j)) (nI_t (by omega)) (by omega) hx hb hK hP 4 0 rfl rfl d_Lo_sumUpRow_129 ?_
          refine lv_iload_n hx hb d_Lo_sumUpRow_130 rfl (lv_at hl 2 rfl) ?_
          refine lv_iadd hx hb d_Lo_sumUpRow_131 ?_
          refine ka_i (y := nI (((rowUp side y (fun i_ => floss side LO i_ y) F4 t) (((y * (side + 1)) + t) + 1)) + (sN (fun i_ => floss side LO i_ y) (t + 1)))) (nI_add _ _) ?_
          refine ka_iastN (F := (rowUp side y (fun i_ => floss side LO i_ y) F4 t)) (v := (((rowUp side y (fun i_ => floss side LO i_ y) F4 t) (((y * (side + 1)) + t) + 1)) + (sN (fun i_ => floss side LO i_ y) (t + 1)))) (k := (((((y * (side + 1)) + t) + 1) + side) + 1)) (n := ((side + 1) * (side + 1))) (nI_t (by omega)) (by omega) hx hb hK hP hD hS 4 0 rfl rfl d_Lo_sumUpRow_132 (fun H locs hP hD hS => ?_)
          have hP : va_P D vwCl [(h0, .inr (3, [.int (nI side), .ref a1, .ref a2, .ref a3, .ref a4, .int (pI sm)])), (a1, .inl (cZ, ((2 * side) * side), .inl (fun j => pI (IN j)))), (a2, .inl (cI, (side * side), .inl (fun j => nI (LO j)))), (a3, .inl (cI, ((side + 1) * (side + 1)), .inl (fun j => nI ((va_up (rowUp side y (fun i_ => fbare side IN i_ y) F3 t) (((((y * (side + 1)) + t) + 1) + side) + 1) (((rowUp side y (fun i_ => fbare side IN i_ y) F3 t) (((y * (side + 1)) + t) + 1)) + (sN (fun i_ => fbare side IN i_ y) (t + 1)))) j)))), (a4, .inl (cI, ((side + 1) * (side + 1)), .inl (fun j => nI ((va_up (rowUp side y (fun i_ => floss side LO i_ y) F4 t) (((((y * (side + 1)) + t) + 1) + side) + 1) (((rowUp side y (fun i_ => floss side LO i_ y) F4 t) (((y * (side + 1)) + t) + 1)) + (sN (fun i_ => floss side LO i_ y) (t + 1)))) j))))] H := hP
          have hD : va_D A [(h0, .inr (3, [.int (nI side), .ref a1, .ref a2, .ref a3, .ref a4, .int (pI sm)])), (a1, .inl (cZ, ((2 * side) * side), .inl (fun j => pI (IN j)))), (a2, .inl (cI, (side * side), .inl (fun j => nI (LO j)))), (a3, .inl (cI, ((side + 1) * (side + 1)), .inl (fun j => nI ((va_up (rowUp side y (fun i_ => fbare side IN i_ y) F3 t) (((((y * (side + 1)) + t) + 1) + side) + 1) (((rowUp side y (fun i_ => fbare side IN i_ y) F3 t) (((y * (side + 1)) + t) + 1)) + (sN (fun i_ => fbare side IN i_ y) (t + 1)))) j)))), (a4, .inl (cI, ((side + 1) * (side + 1)), .inl (fun j => nI ((va_up (rowUp side y (fun i_ => floss side LO i_ y) F4 t) (((((y * (side + 1)) + t) + 1) + side) + 1) (((rowUp side y (fun i_ => floss side LO i_ y) F4 t) (((y * (side + 1)) + t) + 1)) + (sN (fun i_ => floss side LO i_ y) (t + 1)))) j))))] := hD
          refine lv_iinc (v := nI (t + 1)) (lv' := [(4, .int (nI (t + 1))), (7, .int (nI (((((y * (side + 1)) + t) + 1) + side) + 1))), (6, .int (nI (((y * (side + 1)) + t) + 1))), (3, .int (nI (sN (fun i_ => floss side LO i_ y) (t + 1)))), (2, .int (nI (sN (fun i_ => fbare side IN i_ y) (t + 1)))), (5, .int (nI ((y * side) + t))), (0, .ref h0), (1, .int (nI y))]) hx hb d_Lo_sumUpRow_133 hl (k := 5) rfl (nI_add _ 1) (by decide) rfl (fun ls hl => ?_)
          refine lv_goto (tgt := 7) hx hb d_Lo_sumUpRow_136 (by decide) ?_
          exact ih (t + 1) (by omega) _ _ hP hD hS ls (lv_sub hl [0, 3, 4, 6, 7] rfl)
        · refine lv_aload_n hx hb d_Lo_sumUpRow_38 rfl (lv_at hl 4 rfl) ?_
          refine va_get (D := D) (ci := 3) (v := .ref a1) (C := R_Lo) (T := T_Lo) (N := 6) hx hb hts (fun w h => List.mem_cons_of_mem _ (iw_Lo w h)) hown hK hP 0 rfl rfl 1 (by decide) (hts _ (List.mem_cons_of_mem _ k_37)) (fun _ h9 => h9) rfl d_Lo_sumUpRow_39 ?_
          refine lv_aload_n hx hb d_Lo_sumUpRow_42 rfl (lv_at hl 4 rfl) ?_
          refine va_get (D := D) (ci := 3) (v := .int (nI side)) (C := R_Lo) (T := T_Lo) (N := 6) hx hb hts (fun w h => List.mem_cons_of_mem _ (iw_Lo w h)) hown hK hP 0 rfl rfl 0 (by decide) (hts _ (List.mem_cons_of_mem _ k_35)) (fun _ h9 => h9) rfl d_Lo_sumUpRow_43 ?_
          refine lv_aload_n hx hb d_Lo_sumUpRow_46 rfl (lv_at hl 4 rfl) ?_
          refine va_get (D := D) (ci := 3) (v := .int (nI side)) (C := R_Lo) (T := T_Lo) (N := 6) hx hb hts (fun w h => List.mem_cons_of_mem _ (iw_Lo w h)) hown hK hP 0 rfl rfl 0 (by decide) (hts _ (List.mem_cons_of_mem _ k_35)) (fun _ h9 => h9) rfl d_Lo_sumUpRow_47 ?_
          refine lv_imul hx hb d_Lo_sumUpRow_50 ?_
          refine ka_i (y := nI (side * side)) (pk_mul _ _) ?_
          refine lv_iload hx hb d_Lo_sumUpRow_51 (lv_at hl 0 rfl) ?_
          refine lv_iadd hx hb d_Lo_sumUpRow_53 ?_
          refine ka_i (y := nI ((side * side) + ((y * side) + t))) (nI_add _ _) ?_
          refine ka_zald (k := ((side * side) + ((y * side) + t))) (n := ((2 * side) * side)) (f := fun j => pI (IN j)) (nI_t (by omega)) (by omega) hx hb hK hP 1 2 rfl rfl d_Lo_sumUpRow_54 ?_
          refine kb_eqP (tgt := 62) hx hb d_Lo_sumUpRow_55 (by decide) (fun w2 => ?_) (fun w2 => ?_)
          · refine lv_iconst (v := nI 1) hx hb d_Lo_sumUpRow_62 (by decide +kernel) ?_
            refine lv_iadd hx hb d_Lo_sumUpRow_63 ?_
            refine ka_i (y := nI ((sN (fun i_ => fbare side IN i_ y) t) + 1)) (nI_add _ _) ?_
            refine ka_i (y := nI (sN (fun i_ => fbare side IN i_ y) (t + 1))) (congrArg nI (by
              show _ = sN (fun i_ => fbare side IN i_ y) t + bareN (IN (y * side + t) ∧ IN (side * side + (y * side + t)))
              rw [bareN_f (fun h => w2 h.2)])) ?_
            refine lv_istore_n (lv' := [(2, .int (nI (sN (fun i_ => fbare side IN i_ y) (t + 1)))), (5, .int (nI ((y * side) + t))), (4, .int (nI t)), (3, .int (nI (sN (fun i_ => floss side LO i_ y) t))), (0, .ref h0), (1, .int (nI y))]) hx hb d_Lo_sumUpRow_64 rfl hl (by decide) rfl (fun ls hl => ?_)
            refine lv_iload_n hx hb d_Lo_sumUpRow_65 rfl (lv_at hl 3 rfl) ?_
            refine lv_aload_n hx hb d_Lo_sumUpRow_66 rfl (lv_at hl 4 rfl) ?_
            refine va_get (D := D) (ci := 3) (v := .ref a2) (C := R_Lo) (T := T_Lo) (N := 6) hx hb hts (fun w h => List.mem_cons_of_mem _ (iw_Lo w h)) hown hK hP 0 rfl rfl 2 (by decide) (hts _ (List.mem_cons_of_mem _ k_38)) (fun _ h9 => h9) rfl d_Lo_sumUpRow_67 ?_
            refine lv_iload hx hb d_Lo_sumUpRow_70 (lv_at hl 1 rfl) ?_
            refine ka_iald (k := ((y * side) + t)) (n := (side * side)) (f := fun j => nI (LO j)) (nI_t (by omega)) (by omega) hx hb hK hP 2 0 rfl rfl d_Lo_sumUpRow_72 ?_
            refine lv_iadd hx hb d_Lo_sumUpRow_73 ?_
            refine ka_i (y := nI ((sN (fun i_ => floss side LO i_ y) t) + (LO ((y * side) + t)))) (nI_add _ _) ?_
            refine ka_i (y := nI (sN (fun i_ => floss side LO i_ y) (t + 1))) (rfl) ?_
            refine lv_istore_n (lv' := [(3, .int (nI (sN (fun i_ => floss side LO i_ y) (t + 1)))), (2, .int (nI (sN (fun i_ => fbare side IN i_ y) (t + 1)))), (5, .int (nI ((y * side) + t))), (4, .int (nI t)), (0, .ref h0), (1, .int (nI y))]) hx hb d_Lo_sumUpRow_74 rfl hl (by decide) rfl (fun ls hl => ?_)
            refine lv_iload_n hx hb d_Lo_sumUpRow_75 rfl (lv_at hl 5 rfl) ?_
            refine lv_aload_n hx hb d_Lo_sumUpRow_76 rfl (lv_at hl 4 rfl) ?_
            refine va_get (D := D) (ci := 3) (v := .int (nI side)) (C := R_Lo) (T := T_Lo) (N := 6) hx hb hts (fun w h => List.mem_cons_of_mem _ (iw_Lo w h)) hown hK hP 0 rfl rfl 0 (by decide) (hts _ (List.mem_cons_of_mem _ k_35)) (fun _ h9 => h9) rfl d_Lo_sumUpRow_77 ?_
            refine lv_iconst (v := nI 1) hx hb d_Lo_sumUpRow_80 (by decide +kernel) ?_
            refine lv_iadd hx hb d_Lo_sumUpRow_81 ?_
            refine ka_i (y := nI (side + 1)) (nI_add _ _) ?_
            refine lv_imul hx hb d_Lo_sumUpRow_82 ?_
            refine ka_i (y := nI (y * (side + 1))) (pk_mul _ _) ?_
            refine lv_iload hx hb d_Lo_sumUpRow_83 (lv_at hl 3 rfl) ?_
            refine lv_iadd hx hb d_Lo_sumUpRow_85 ?_
            refine ka_i (y := nI ((y * (side + 1)) + t)) (nI_add _ _) ?_
            refine lv_iconst (v := nI 1) hx hb d_Lo_sumUpRow_86 (by decide +kernel) ?_
            refine lv_iadd hx hb d_Lo_sumUpRow_87 ?_
            refine ka_i (y := nI (((y * (side + 1)) + t) + 1)) (nI_add _ _) ?_
            refine lv_istore (lv' := [(6, .int (nI (((y * (side + 1)) + t) + 1))), (3, .int (nI (sN (fun i_ => floss side LO i_ y) (t + 1)))), (2, .int (nI (sN (fun i_ => fbare side IN i_ y) (t + 1)))), (5, .int (nI ((y * side) + t))), (4, .int (nI t)), (0, .ref h0), (1, .int (nI y))]) hx hb d_Lo_sumUpRow_88 hl (by decide) rfl (fun ls hl => ?_)
            refine lv_iload hx hb d_Lo_sumUpRow_90 (lv_at hl 0 rfl) ?_
            refine lv_aload_n hx hb d_Lo_sumUpRow_92 rfl (lv_at hl 5 rfl) ?_
            refine va_get (D := D) (ci := 3) (v := .int (nI side)) (C := R_Lo) (T := T_Lo) (N := 6) hx hb hts (fun w h => List.mem_cons_of_mem _ (iw_Lo w h)) hown hK hP 0 rfl rfl 0 (by decide) (hts _ (List.mem_cons_of_mem _ k_35)) (fun _ h9 => h9) rfl d_Lo_sumUpRow_93 ?_
            refine lv_iadd hx hb d_Lo_sumUpRow_96 ?_
            refine ka_i (y := nI ((((y * (side + 1)) + t) + 1) + side)) (nI_add _ _) ?_
            refine lv_iconst (v := nI 1) hx hb d_Lo_sumUpRow_97 (by decide +kernel) ?_
            refine lv_iadd hx hb d_Lo_sumUpRow_98 ?_
            refine ka_i (y := nI (((((y * (side + 1)) + t) + 1) + side) + 1)) (nI_add _ _) ?_
            refine lv_istore (lv' := [(7, .int (nI (((((y * (side + 1)) + t) + 1) + side) + 1))), (6, .int (nI (((y * (side + 1)) + t) + 1))), (3, .int (nI (sN (fun i_ => floss side LO i_ y) (t + 1)))), (2, .int (nI (sN (fun i_ => fbare side IN i_ y) (t + 1)))), (5, .int (nI ((y * side) + t))), (4, .int (nI t)), (0, .ref h0), (1, .int (nI y))]) hx hb d_Lo_sumUpRow_99 hl (by decide) rfl (fun ls hl => ?_)
            refine lv_aload_n hx hb d_Lo_sumUpRow_101 rfl (lv_at hl 6 rfl) ?_
            refine va_get (D := D) (ci := 3) (v := .ref a3) (C := R_Lo) (T := T_Lo) (N := 6) hx hb hts (fun w h => List.mem_cons_of_mem _ (iw_Lo w h)) hown hK hP 0 rfl rfl 3 (by decide) (hts _ (List.mem_cons_of_mem _ k_39)) (fun _ h9 => h9) rfl d_Lo_sumUpRow_102 ?_
            refine lv_iload hx hb d_Lo_sumUpRow_105 (lv_at hl 0 rfl) ?_
            refine lv_aload_n hx hb d_Lo_sumUpRow_107 rfl (lv_at hl 6 rfl) ?_
            refine va_get (D := D) (ci := 3) (v := .ref a3) (C := R_Lo) (T := T_Lo) (N := 6) hx hb hts (fun w h => List.mem_cons_of_mem _ (iw_Lo w h)) hown hK hP 0 rfl rfl 3 (by decide) (hts _ (List.mem_cons_of_mem _ k_39)) (fun _ h9 => h9) rfl d_Lo_sumUpRow_108 ?_
            refine lv_iload hx hb d_Lo_sumUpRow_111 (lv_at hl 1 rfl) ?_
            refine ka_iald (k := (((y * (side + 1)) + t) + 1)) (n := ((side + 1) * (side + 1))) (f := fun j => nI ((rowUp side y (fun i_ => fbare side IN i_ y) F3 t) j)) (nI_t (by omega)) (by omega) hx hb hK hP 3 0 rfl rfl d_Lo_sumUpRow_113 ?_
            refine lv_iload_n hx hb d_Lo_sumUpRow_114 rfl (lv_at hl 3 rfl) ?_
            refine lv_iadd hx hb d_Lo_sumUpRow_115 ?_
            refine ka_i (y := nI (((rowUp side y (fun i_ => fbare side IN i_ y) F3 t) (((y * (side + 1)) + t) + 1)) + (sN (fun i_ => fbare side IN i_ y) (t + 1)))) (nI_add _ _) ?_
            refine ka_iastN (F := (rowUp side y (fun i_ => fbare side IN i_ y) F3 t)) (v := (((rowUp side y (fun i_ => fbare side IN i_ y) F3 t) (((y * (side + 1)) + t) + 1)) + (sN (fun i_ => fbare side IN i_ y) (t + 1)))) (k := (((((y * (side + 1)) + t) + 1) + side) + 1)) (n := ((side + 1) * (side + 1))) (nI_t (by omega)) (by omega) hx hb hK hP hD hS 3 0 rfl rfl d_Lo_sumUpRow_116 (fun H locs hP hD hS => ?_)
            have hP : va_P D vwCl [(h0, .inr (3, [.int (nI side), .ref a1, .ref a2, .ref a3, .ref a4, .int (pI sm)])), (a1, .inl (cZ, ((2 * side) * side), .inl (fun j => pI (IN j)))), (a2, .inl (cI, (side * side), .inl (fun j => nI (LO j)))), (a3, .inl (cI, ((side + 1) * (side + 1)), .inl (fun j => nI ((va_up (rowUp side y (fun i_ => fbare side IN i_ y) F3 t) (((((y * (side + 1)) + t) + 1) + side) + 1) (((rowUp side y (fun i_ => fbare side IN i_ y) F3 t) (((y * (side + 1)) + t) + 1)) + (sN (fun i_ => fbare side IN i_ y) (t + 1)))) j)))), (a4, .inl (cI, ((side + 1) * (side + 1)), .inl (fun j => nI ((rowUp side y (fun i_ => floss side LO i_ y) F4 t) j))))] H := hP
            have hD : va_D A [(h0, .inr (3, [.int (nI side), .ref a1, .ref a2, .ref a3, .ref a4, .int (pI sm)])), (a1, .inl (cZ, ((2 * side) * side), .inl (fun j => pI (IN j)))), (a2, .inl (cI, (side * side), .inl (fun j => nI (LO j)))), (a3, .inl (cI, ((side + 1) * (side + 1)), .inl (fun j => nI ((va_up (rowUp side y (fun i_ => fbare side IN i_ y) F3 t) (((((y * (side + 1)) + t) + 1) + side) + 1) (((rowUp side y (fun i_ => fbare side IN i_ y) F3 t) (((y * (side + 1)) + t) + 1)) + (sN (fun i_ => fbare side IN i_ y) (t + 1)))) j)))), (a4, .inl (cI, ((side + 1) * (side + 1)), .inl (fun j => nI ((rowUp side y (fun i_ => floss side LO i_ y) F4 t) j))))] := hD
            refine lv_aload_n hx hb d_Lo_sumUpRow_117 rfl (lv_at hl 6 rfl) ?_
            refine va_get (D := D) (ci := 3) (v := .ref a4) (C := R_Lo) (T := T_Lo) (N := 6) hx hb hts (fun w h => List.mem_cons_of_mem _ (iw_Lo w h)) hown hK hP 0 rfl rfl 4 (by decide) (hts _ (List.mem_cons_of_mem _ k_41)) (fun _ h9 => h9) rfl d_Lo_sumUpRow_118 ?_
            refine lv_iload hx hb d_Lo_sumUpRow_121 (lv_at hl 0 rfl) ?_
            refine lv_aload_n hx hb d_Lo_sumUpRow_123 rfl (lv_at hl 6 rfl) ?_
            refine va_get (D := D) (ci := 3) (v := .ref a4) (C := R_Lo) (T := T_Lo) (N := 6) hx hb hts (fun w h => List.mem_cons_of_mem _ (iw_Lo w h)) hown hK hP 0 rfl rfl 4 (by decide) (hts _ (List.mem_cons_of_mem _ k_41)) (fun _ h9 => h9) rfl d_Lo_sumUpRow_124 ?_
            refine lv_iload hx hb d_Lo_sumUpRow_127 (lv_at hl 1 rfl) ?_
            refine ka_iald (k := (((y * (side + 1)) + t) + 1)) (n := ((side + 1) * (side + 1))) (f := fun j => nI ((rowUp side y (fun i_ => floss side LO i_ y) F4 t) j)) (nI_t (by omega)) (by omega) hx hb hK hP 4 0 rfl rfl d_Lo_sumUpRow_129 ?_
            refine lv_iload_n hx hb d_Lo_sumUpRow_130 rfl (lv_at hl 2 rfl) ?_
            refine lv_iadd hx hb d_Lo_sumUpRow_131 ?_
            refine ka_i (y := nI (((rowUp side y (fun i_ => floss side LO i_ y) F4 t) (((y * (side + 1)) + t) + 1)) + (sN (fun i_ => floss side LO i_ y) (t + 1)))) (nI_add _ _) ?_
            refine ka_iastN (F := (rowUp side y (fun i_ => floss side LO i_ y) F4 t)) (v := (((rowUp side y (fun i_ => floss side LO i_ y) F4 t) (((y * (side + 1)) + t) + 1)) + (sN (fun i_ => floss side LO i_ y) (t + 1)))) (k := (((((y * (side + 1)) + t) + 1) + side) + 1)) (n := ((side + 1) * (side + 1))) (nI_t (by omega)) (by omega) hx hb hK hP hD hS 4 0 rfl rfl d_Lo_sumUpRow_132 (fun H locs hP hD hS => ?_)
            have hP : va_P D vwCl [(h0, .inr (3, [.int (nI side), .ref a1, .ref a2, .ref a3, .ref a4, .int (pI sm)])), (a1, .inl (cZ, ((2 * side) * side), .inl (fun j => pI (IN j)))), (a2, .inl (cI, (side * side), .inl (fun j => nI (LO j)))), (a3, .inl (cI, ((side + 1) * (side + 1)), .inl (fun j => nI ((va_up (rowUp side y (fun i_ => fbare side IN i_ y) F3 t) (((((y * (side + 1)) + t) + 1) + side) + 1) (((rowUp side y (fun i_ => fbare side IN i_ y) F3 t) (((y * (side + 1)) + t) + 1)) + (sN (fun i_ => fbare side IN i_ y) (t + 1)))) j)))), (a4, .inl (cI, ((side + 1) * (side + 1)), .inl (fun j => nI ((va_up (rowUp side y (fun i_ => floss side LO i_ y) F4 t) (((((y * (side + 1)) + t) + 1) + side) + 1) (((rowUp side y (fun i_ => floss side LO i_ y) F4 t) (((y * (side + 1)) + t) + 1)) + (sN (fun i_ => floss side LO i_ y) (t + 1)))) j))))] H := hP
            have hD : va_D A [(h0, .inr (3, [.int (nI side), .ref a1, .ref a2, .ref a3, .ref a4, .int (pI sm)])), (a1, .inl (cZ, ((2 * side) * side), .inl (fun j => pI (IN j)))), (a2, .inl (cI, (side * side), .inl (fun j => nI (LO j)))), (a3, .inl (cI, ((side + 1) * (side + 1)), .inl (fun j => nI ((va_up (rowUp side y (fun i_ => fbare side IN i_ y) F3 t) (((((y * (side + 1)) + t) + 1) + side) + 1) (((rowUp side y (fun i_ => fbare side IN i_ y) F3 t) (((y * (side + 1)) + t) + 1)) + (sN (fun i_ => fbare side IN i_ y) (t + 1)))) j)))), (a4, .inl (cI, ((side + 1) * (side + 1)), .inl (fun j => nI ((va_up (rowUp side y (fun i_ => floss side LO i_ y) F4 t) (((((y * (side + 1)) + t) + 1) + side) + 1) (((rowUp side y (fun i_ => floss side LO i_ y) F4 t) (((y * (side + 1)) + t) + 1)) + (sN (fun i_ => floss side LO i_ y) (t + 1)))) j))))] := hD
            refine lv_iinc (v := nI (t + 1)) (lv' := [(4, .int (nI (t + 1))), (7, .int (nI (((((y * (side + 1)) + t) + 1) + side) + 1))), (6, .int (nI (((y * (side + 1)) + t) + 1))), (3, .int (nI (sN (fun i_ => floss side LO i_ y) (t + 1)))), (2, .int (nI (sN (fun i_ => fbare side IN i_ y) (t + 1)))), (5, .int (nI ((y * side) + t))), (0, .ref h0), (1, .int (nI y))]) hx hb d_Lo_sumUpRow_133 hl (k := 5) rfl (nI_add _ 1) (by decide) rfl (fun ls hl => ?_)
            refine lv_goto (tgt := 7) hx hb d_Lo_sumUpRow_136 (by decide) ?_
            exact ih (t + 1) (by omega) _ _ hP hD hS ls (lv_sub hl [0, 3, 4, 6, 7] rfl)
          · refine lv_iconst (v := nI 0) hx hb d_Lo_sumUpRow_58 (by decide +kernel) ?_
            refine lv_goto (tgt := 63) hx hb d_Lo_sumUpRow_59 (by decide) ?_
            refine lv_iadd hx hb d_Lo_sumUpRow_63 ?_
            refine ka_i (y := nI ((sN (fun i_ => fbare side IN i_ y) t) + 0)) (nI_add _ _) ?_
            refine ka_i (y := nI (sN (fun i_ => fbare side IN i_ y) (t + 1))) (congrArg nI (by
              show _ = sN (fun i_ => fbare side IN i_ y) t + bareN (IN (y * side + t) ∧ IN (side * side + (y * side + t)))
              rw [bareN_t ⟨w1, w2⟩])) ?_
            refine lv_istore_n (lv' := [(2, .int (nI (sN (fun i_ => fbare side IN i_ y) (t + 1)))), (5, .int (nI ((y * side) + t))), (4, .int (nI t)), (3, .int (nI (sN (fun i_ => floss side LO i_ y) t))), (0, .ref h0), (1, .int (nI y))]) hx hb d_Lo_sumUpRow_64 rfl hl (by decide) rfl (fun ls hl => ?_)
            refine lv_iload_n hx hb d_Lo_sumUpRow_65 rfl (lv_at hl 3 rfl) ?_
            refine lv_aload_n hx hb d_Lo_sumUpRow_66 rfl (lv_at hl 4 rfl) ?_
            refine va_get (D := D) (ci := 3) (v := .ref a2) (C := R_Lo) (T := T_Lo) (N := 6) hx hb hts (fun w h => List.mem_cons_of_mem _ (iw_Lo w h)) hown hK hP 0 rfl rfl 2 (by decide) (hts _ (List.mem_cons_of_mem _ k_38)) (fun _ h9 => h9) rfl d_Lo_sumUpRow_67 ?_
            refine lv_iload hx hb d_Lo_sumUpRow_70 (lv_at hl 1 rfl) ?_
            refine ka_iald (k := ((y * side) + t)) (n := (side * side)) (f := fun j => nI (LO j)) (nI_t (by omega)) (by omega) hx hb hK hP 2 0 rfl rfl d_Lo_sumUpRow_72 ?_
            refine lv_iadd hx hb d_Lo_sumUpRow_73 ?_
            refine ka_i (y := nI ((sN (fun i_ => floss side LO i_ y) t) + (LO ((y * side) + t)))) (nI_add _ _) ?_
            refine ka_i (y := nI (sN (fun i_ => floss side LO i_ y) (t + 1))) (rfl) ?_
            refine lv_istore_n (lv' := [(3, .int (nI (sN (fun i_ => floss side LO i_ y) (t + 1)))), (2, .int (nI (sN (fun i_ => fbare side IN i_ y) (t + 1)))), (5, .int (nI ((y * side) + t))), (4, .int (nI t)), (0, .ref h0), (1, .int (nI y))]) hx hb d_Lo_sumUpRow_74 rfl hl (by decide) rfl (fun ls hl => ?_)
            refine lv_iload_n hx hb d_Lo_sumUpRow_75 rfl (lv_at hl 5 rfl) ?_
            refine lv_aload_n hx hb d_Lo_sumUpRow_76 rfl (lv_at hl 4 rfl) ?_
            refine va_get (D := D) (ci := 3) (v := .int (nI side)) (C := R_Lo) (T := T_Lo) (N := 6) hx hb hts (fun w h => List.mem_cons_of_mem _ (iw_Lo w h)) hown hK hP 0 rfl rfl 0 (by decide) (hts _ (List.mem_cons_of_mem _ k_35)) (fun _ h9 => h9) rfl d_Lo_sumUpRow_77 ?_
            refine lv_iconst (v := nI 1) hx hb d_Lo_sumUpRow_80 (by decide +kernel) ?_
            refine lv_iadd hx hb d_Lo_sumUpRow_81 ?_
            refine ka_i (y := nI (side + 1)) (nI_add _ _) ?_
            refine lv_imul hx hb d_Lo_sumUpRow_82 ?_
            refine ka_i (y := nI (y * (side + 1))) (pk_mul _ _) ?_
            refine lv_iload hx hb d_Lo_sumUpRow_83 (lv_at hl 3 rfl) ?_
            refine lv_iadd hx hb d_Lo_sumUpRow_85 ?_
            refine ka_i (y := nI ((y * (side + 1)) + t)) (nI_add _ _) ?_
            refine lv_iconst (v := nI 1) hx hb d_Lo_sumUpRow_86 (by decide +kernel) ?_
            refine lv_iadd hx hb d_Lo_sumUpRow_87 ?_
            refine ka_i (y := nI (((y * (side + 1)) + t) + 1)) (nI_add _ _) ?_
            refine lv_istore (lv' := [(6, .int (nI (((y * (side + 1)) + t) + 1))), (3, .int (nI (sN (fun i_ => floss side LO i_ y) (t + 1)))), (2, .int (nI (sN (fun i_ => fbare side IN i_ y) (t + 1)))), (5, .int (nI ((y * side) + t))), (4, .int (nI t)), (0, .ref h0), (1, .int (nI y))]) hx hb d_Lo_sumUpRow_88 hl (by decide) rfl (fun ls hl => ?_)
            refine lv_iload hx hb d_Lo_sumUpRow_90 (lv_at hl 0 rfl) ?_
            refine lv_aload_n hx hb d_Lo_sumUpRow_92 rfl (lv_at hl 5 rfl) ?_
            refine va_get (D := D) (ci := 3) (v := .int (nI side)) (C := R_Lo) (T := T_Lo) (N := 6) hx hb hts (fun w h => List.mem_cons_of_mem _ (iw_Lo w h)) hown hK hP 0 rfl rfl 0 (by decide) (hts _ (List.mem_cons_of_mem _ k_35)) (fun _ h9 => h9) rfl d_Lo_sumUpRow_93 ?_
            refine lv_iadd hx hb d_Lo_sumUpRow_96 ?_
            refine ka_i (y := nI ((((y * (side + 1)) + t) + 1) + side)) (nI_add _ _) ?_
            refine lv_iconst (v := nI 1) hx hb d_Lo_sumUpRow_97 (by decide +kernel) ?_
            refine lv_iadd hx hb d_Lo_sumUpRow_98 ?_
            refine ka_i (y := nI (((((y * (side + 1)) + t) + 1) + side) + 1)) (nI_add _ _) ?_
            refine lv_istore (lv' := [(7, .int (nI (((((y * (side + 1)) + t) + 1) + side) + 1))), (6, .int (nI (((y * (side + 1)) + t) + 1))), (3, .int (nI (sN (fun i_ => floss side LO i_ y) (t + 1)))), (2, .int (nI (sN (fun i_ => fbare side IN i_ y) (t + 1)))), (5, .int (nI ((y * side) + t))), (4, .int (nI t)), (0, .ref h0), (1, .int (nI y))]) hx hb d_Lo_sumUpRow_99 hl (by decide) rfl (fun ls hl => ?_)
            refine lv_aload_n hx hb d_Lo_sumUpRow_101 rfl (lv_at hl 6 rfl) ?_
            refine va_get (D := D) (ci := 3) (v := .ref a3) (C := R_Lo) (T := T_Lo) (N := 6) hx hb hts (fun w h => List.mem_cons_of_mem _ (iw_Lo w h)) hown hK hP 0 rfl rfl 3 (by decide) (hts _ (List.mem_cons_of_mem _ k_39)) (fun _ h9 => h9) rfl d_Lo_sumUpRow_102 ?_
            refine lv_iload hx hb d_Lo_sumUpRow_105 (lv_at hl 0 rfl) ?_
            refine lv_aload_n hx hb d_Lo_sumUpRow_107 rfl (lv_at hl 6 rfl) ?_
            refine va_get (D := D) (ci := 3) (v := .ref a3) (C := R_Lo) (T := T_Lo) (N := 6) hx hb hts (fun w h => List.mem_cons_of_mem _ (iw_Lo w h)) hown hK hP 0 rfl rfl 3 (by decide) (hts _ (List.mem_cons_of_mem _ k_39)) (fun _ h9 => h9) rfl d_Lo_sumUpRow_108 ?_
            refine lv_iload hx hb d_Lo_sumUpRow_111 (lv_at hl 1 rfl) ?_
            refine ka_iald (k := (((y * (side + 1)) + t) + 1)) (n := ((side + 1) * (side + 1))) (f := fun j => nI ((rowUp side y (fun i_ => fbare side IN i_ y) F3 t) j)) (nI_t (by omega)) (by omega) hx hb hK hP 3 0 rfl rfl d_Lo_sumUpRow_113 ?_
            refine lv_iload_n hx hb d_Lo_sumUpRow_114 rfl (lv_at hl 3 rfl) ?_
            refine lv_iadd hx hb d_Lo_sumUpRow_115 ?_
            refine ka_i (y := nI (((rowUp side y (fun i_ => fbare side IN i_ y) F3 t) (((y * (side + 1)) + t) + 1)) + (sN (fun i_ => fbare side IN i_ y) (t + 1)))) (nI_add _ _) ?_
            refine ka_iastN (F := (rowUp side y (fun i_ => fbare side IN i_ y) F3 t)) (v := (((rowUp side y (fun i_ => fbare side IN i_ y) F3 t) (((y * (side + 1)) + t) + 1)) + (sN (fun i_ => fbare side IN i_ y) (t + 1)))) (k := (((((y * (side + 1)) + t) + 1) + side) + 1)) (n := ((side + 1) * (side + 1))) (nI_t (by omega)) (by omega) hx hb hK hP hD hS 3 0 rfl rfl d_Lo_sumUpRow_116 (fun H locs hP hD hS => ?_)
            have hP : va_P D vwCl [(h0, .inr (3, [.int (nI side), .ref a1, .ref a2, .ref a3, .ref a4, .int (pI sm)])), (a1, .inl (cZ, ((2 * side) * side), .inl (fun j => pI (IN j)))), (a2, .inl (cI, (side * side), .inl (fun j => nI (LO j)))), (a3, .inl (cI, ((side + 1) * (side + 1)), .inl (fun j => nI ((va_up (rowUp side y (fun i_ => fbare side IN i_ y) F3 t) (((((y * (side + 1)) + t) + 1) + side) + 1) (((rowUp side y (fun i_ => fbare side IN i_ y) F3 t) (((y * (side + 1)) + t) + 1)) + (sN (fun i_ => fbare side IN i_ y) (t + 1)))) j)))), (a4, .inl (cI, ((side + 1) * (side + 1)), .inl (fun j => nI ((rowUp side y (fun i_ => floss side LO i_ y) F4 t) j))))] H := hP
            have hD : va_D A [(h0, .inr (3, [.int (nI side), .ref a1, .ref a2, .ref a3, .ref a4, .int (pI sm)])), (a1, .inl (cZ, ((2 * side) * side), .inl (fun j => pI (IN j)))), (a2, .inl (cI, (side * side), .inl (fun j => nI (LO j)))), (a3, .inl (cI, ((side + 1) * (side + 1)), .inl (fun j => nI ((va_up (rowUp side y (fun i_ => fbare side IN i_ y) F3 t) (((((y * (side + 1)) + t) + 1) + side) + 1) (((rowUp side y (fun i_ => fbare side IN i_ y) F3 t) (((y * (side + 1)) + t) + 1)) + (sN (fun i_ => fbare side IN i_ y) (t + 1)))) j)))), (a4, .inl (cI, ((side + 1) * (side + 1)), .inl (fun j => nI ((rowUp side y (fun i_ => floss side LO i_ y) F4 t) j))))] := hD
            refine lv_aload_n hx hb d_Lo_sumUpRow_117 rfl (lv_at hl 6 rfl) ?_
            refine va_get (D := D) (ci := 3) (v := .ref a4) (C := R_Lo) (T := T_Lo) (N := 6) hx hb hts (fun w h => List.mem_cons_of_mem _ (iw_Lo w h)) hown hK hP 0 rfl rfl 4 (by decide) (hts _ (List.mem_cons_of_mem _ k_41)) (fun _ h9 => h9) rfl d_Lo_sumUpRow_118 ?_
            refine lv_iload hx hb d_Lo_sumUpRow_121 (lv_at hl 0 rfl) ?_
            refine lv_aload_n hx hb d_Lo_sumUpRow_123 rfl (lv_at hl 6 rfl) ?_
            refine va_get (D := D) (ci := 3) (v := .ref a4) (C := R_Lo) (T := T_Lo) (N := 6) hx hb hts (fun w h => List.mem_cons_of_mem _ (iw_Lo w h)) hown hK hP 0 rfl rfl 4 (by decide) (hts _ (List.mem_cons_of_mem _ k_41)) (fun _ h9 => h9) rfl d_Lo_sumUpRow_124 ?_
            refine lv_iload hx hb d_Lo_sumUpRow_127 (lv_at hl 1 rfl) ?_
            refine ka_iald (k := (((y * (side + 1)) + t) + 1)) (n := ((side + 1) * (side + 1))) (f := fun j => nI ((rowUp side y (fun i_ => floss side LO i_ y) F4 t) j)) (nI_t (by omega)) (by omega) hx hb hK hP 4 0 rfl rfl d_Lo_sumUpRow_129 ?_
            refine lv_iload_n hx hb d_Lo_sumUpRow_130 rfl (lv_at hl 2 rfl) ?_
            refine lv_iadd hx hb d_Lo_sumUpRow_131 ?_
            refine ka_i (y := nI (((rowUp side y (fun i_ => floss side LO i_ y) F4 t) (((y * (side + 1)) + t) + 1)) + (sN (fun i_ => floss side LO i_ y) (t + 1)))) (nI_add _ _) ?_
            refine ka_iastN (F := (rowUp side y (fun i_ => floss side LO i_ y) F4 t)) (v := (((rowUp side y (fun i_ => floss side LO i_ y) F4 t) (((y * (side + 1)) + t) + 1)) + (sN (fun i_ => floss side LO i_ y) (t + 1)))) (k := (((((y * (side + 1)) + t) + 1) + side) + 1)) (n := ((side + 1) * (side + 1))) (nI_t (by omega)) (by omega) hx hb hK hP hD hS 4 0 rfl rfl d_Lo_sumUpRow_132 (fun H locs hP hD hS => ?_)
            have hP : va_P D vwCl [(h0, .inr (3, [.int (nI side), .ref a1, .ref a2, .ref a3, .ref a4, .int (pI sm)])), (a1, .inl (cZ, ((2 * side) * side), .inl (fun j => pI (IN j)))), (a2, .inl (cI, (side * side), .inl (fun j => nI (LO j)))), (a3, .inl (cI, ((side + 1) * (side + 1)), .inl (fun j => nI ((va_up (rowUp side y (fun i_ => fbare side IN i_ y) F3 t) (((((y * (side + 1)) + t) + 1) + side) + 1) (((rowUp side y (fun i_ => fbare side IN i_ y) F3 t) (((y * (side + 1)) + t) + 1)) + (sN (fun i_ => fbare side IN i_ y) (t + 1)))) j)))), (a4, .inl (cI, ((side + 1) * (side + 1)), .inl (fun j => nI ((va_up (rowUp side y (fun i_ => floss side LO i_ y) F4 t) (((((y * (side + 1)) + t) + 1) + side) + 1) (((rowUp side y (fun i_ => floss side LO i_ y) F4 t) (((y * (side + 1)) + t) + 1)) + (sN (fun i_ => floss side LO i_ y) (t + 1)))) j))))] H := hP
            have hD : va_D A [(h0, .inr (3, [.int (nI side), .ref a1, .ref a2, .ref a3, .ref a4, .int (pI sm)])), (a1, .inl (cZ, ((2 * side) * side), .inl (fun j => pI (IN j)))), (a2, .inl (cI, (side * side), .inl (fun j => nI (LO j)))), (a3, .inl (cI, ((side + 1) * (side + 1)), .inl (fun j => nI ((va_up (rowUp side y (fun i_ => fbare side IN i_ y) F3 t) (((((y * (side + 1)) + t) + 1) + side) + 1) (((rowUp side y (fun i_ => fbare side IN i_ y) F3 t) (((y * (side + 1)) + t) + 1)) + (sN (fun i_ => fbare side IN i_ y) (t + 1)))) j)))), (a4, .inl (cI, ((side + 1) * (side + 1)), .inl (fun j => nI ((va_up (rowUp side y (fun i_ => floss side LO i_ y) F4 t) (((((y * (side + 1)) + t) + 1) + side) + 1) (((rowUp side y (fun i_ => floss side LO i_ y) F4 t) (((y * (side + 1)) + t) + 1)) + (sN (fun i_ => floss side LO i_ y) (t + 1)))) j))))] := hD
            refine lv_iinc (v := nI (t + 1)) (lv' := [(4, .int (nI (t + 1))), (7, .int (nI (((((y * (side + 1)) + t) + 1) + side) + 1))), (6, .int (nI (((y * (side + 1)) + t) + 1))), (3, .int (nI (sN (fun i_ => floss side LO i_ y) (t + 1)))), (2, .int (nI (sN (fun i_ => fbare side IN i_ y) (t + 1)))), (5, .int (nI ((y * side) + t))), (0, .ref h0), (1, .int (nI y))]) hx hb d_Lo_sumUpRow_133 hl (k := 5) rfl (nI_add _ 1) (by decide) rfl (fun ls hl => ?_)
            refine lv_goto (tgt := 7) hx hb d_Lo_sumUpRow_136 (by decide) ?_
            exact ih (t + 1) (by omega) _ _ hP hD hS ls (lv_sub hl [0, 3, 4, 6, 7] rfl)
  exact lp side 0 (by omega) _ _ hP hD hS ls (lv_sub hl [0, 1, 2, 3, 4] rfl)
set_option maxHeartbeats 4000000 in
set_option maxRecDepth 100000 in
theorem c_sumUp (l : Launch) (D : va_G) (cI cJ cZ : ClassId) (sz : Nat) (h0 : Nat) (side : Nat) (a1 : Nat) (a2 : Nat) (a3 : Nat) (a4 : Nat) (sm : Prop) (IN : Nat → Prop) (LO : Nat → Nat) (F3 : Nat → Nat) (F4 : Nat → Nat) (s2 : side ≤ 20) (e3 : (∀ X, X ≤ side → F3 X = 0) ∧ ∀ Y, Y ≤ side → F3 (Y * (side + 1)) = 0) (e4 : (∀ X, X ≤ side → F4 X = 0) ∧ ∀ Y, Y ≤ side → F4 (Y * (side + 1)) = 0) (m3 : sm → ∀ X Y, X ≤ side → Y ≤ side → F3 (Y * (side + 1) + X) = psm (fbare side IN) X Y) (m4 : sm → ∀ X Y, X ≤ side → Y ≤ side → F4 (Y * (side + 1) + X) = psm (floss side LO) X Y) : Met l y_Lo_sumUp w_Lo_sumUp ({ frames := 1, cells := 0, slots := 0, locals := 27 }) (va_Pc [.ref h0] (kB D vwCl (tyL cI cJ cZ) sz [(h0, .inr (3, [.int (nI side), .ref a1, .ref a2, .ref a3, .ref a4, .int (pI sm)])), (a1, .inl (cZ, ((2 * side) * side), .inl (fun j => pI (IN j)))), (a2, .inl (cI, (side * side), .inl (fun j => nI (LO j)))), (a3, .inl (cI, ((side + 1) * (side + 1)), .inl (fun j => nI (F3 j)))), (a4, .inl (cI, ((side + 1) * (side + 1)), .inl (fun j => nI (F4 j))))])) (va_Qv (fun (u : (Nat → Nat) × (Nat → Nat)) => (∀ X Y, X ≤ side → Y ≤ side → u.1 (Y * (side + 1) + X) = psm (fbare side IN) X Y) ∧ ∀ X Y, X ≤ side → Y ≤ side → u.2 (Y * (side + 1) + X) = psm (floss side LO) X Y) (fun (u : (Nat → Nat) × (Nat → Nat)) t => kE D vwCl (va_A [(h0, .inr (3, [.int (nI side), .ref a1, .ref a2, .ref a3, .ref a4, .int (pI sm)])), (a1, .inl (cZ, ((2 * side) * side), .inl (fun j => pI (IN j)))), (a2, .inl (cI, (side * side), .inl (fun j => nI (LO j)))), (a3, .inl (cI, ((side + 1) * (side + 1)), .inl (fun j => nI (F3 j)))), (a4, .inl (cI, ((side + 1) * (side + 1)), .inl (fun j => nI (F4 j))))] sz) [(h0, .inr (3, [.int (nI side), .ref a1, .ref a2, .ref a3, .ref a4, .int (pI True)])), (a1, .inl (cZ, ((2 * side) * side), .inl (fun j => pI (IN j)))), (a2, .inl (cI, (side * side), .inl (fun j => nI (LO j)))), (a3, .inl (cI, ((side + 1) * (side + 1)), .inl (fun j => nI (u.1 j)))), (a4, .inl (cI, ((side + 1) * (side + 1)), .inl (fun j => nI (u.2 j))))] t) (va_A [(h0, .inr (3, [.int (nI side), .ref a1, .ref a2, .ref a3, .ref a4, .int (pI sm)])), (a1, .inl (cZ, ((2 * side) * side), .inl (fun j => pI (IN j)))), (a2, .inl (cI, (side * side), .inl (fun j => nI (LO j)))), (a3, .inl (cI, ((side + 1) * (side + 1)), .inl (fun j => nI (F3 j)))), (a4, .inl (cI, ((side + 1) * (side + 1)), .inl (fun j => nI (F4 j))))] sz)) 0 0 (va_A [(h0, .inr (3, [.int (nI side), .ref a1, .ref a2, .ref a3, .ref a4, .int (pI sm)])), (a1, .inl (cZ, ((2 * side) * side), .inl (fun j => pI (IN j)))), (a2, .inl (cI, (side * side), .inl (fun j => nI (LO j)))), (a3, .inl (cI, ((side + 1) * (side + 1)), .inl (fun j => nI (F3 j)))), (a4, .inl (cI, ((side + 1) * (side + 1)), .inl (fun j => nI (F4 j))))] sz) := by
  refine Met.ofW (cc := b_Lo_sumUp) (maxL := 2) (ret := none) (by decide) rfl ?_
  intro p e s m args below meth c s₁ B hml hv
  obtain ⟨rfl, hsz, hP, hK, hD0, hZ⟩ := hv
  have hx := B.exec
  have hb := B.bytes
  have hr := B.returns
  have hts := atoms_spec (ws := w_Lo_sumUp) B.pre
  have hown : s.vm.findClass R_Lo = some m.cls := findClass_of_methodNamed B.named
  have hlocks := B.notSynchronized
  subst hsz
  have hD := hD0.self (sz := s.heap.size)
  generalize hAe : va_A [(h0, .inr (3, [.int (nI side), .ref a1, .ref a2, .ref a3, .ref a4, .int (pI sm)])), (a1, .inl (cZ, ((2 * side) * side), .inl (fun j => pI (IN j)))), (a2, .inl (cI, (side * side), .inl (fun j => nI (LO j)))), (a3, .inl (cI, ((side + 1) * (side + 1)), .inl (fun j => nI (F3 j)))), (a4, .inl (cI, ((side + 1) * (side + 1)), .inl (fun j => nI (F4 j))))] s.heap.size = A at hD ⊢
  have hA : ∀ q : Nat, s.heap.size ≤ q → A q := fun q h => by rw [← hAe]; exact Or.inr h
  have hS : va_S A s.heap s.heap [] := va_S.rf
  have hP : va_P D vwCl [(h0, .inr (3, [.int (nI side), .ref a1, .ref a2, .ref a3, .ref a4, .int (pI sm)])), (a1, .inl (cZ, ((2 * side) * side), .inl (fun j => pI (IN j)))), (a2, .inl (cI, (side * side), .inl (fun j => nI (LO j)))), (a3, .inl (cI, ((side + 1) * (side + 1)), .inl (fun j => nI (F3 j)))), (a4, .inl (cI, ((side + 1) * (side + 1)), .inl (fun j => nI (F4 j))))] s.heap := hP
  have hl := lv_entry ([.ref h0]) (n := 2) (Nat.le_of_ble_eq_true rfl)
  rw [lg_entry_eq]
  generalize (lg_sl ([.ref h0]) ++ List.replicate (2 - (lg_sl ([.ref h0])).length) Slot.unset).toArray = ls at hl ⊢
  have hl : lv_has ls 2 [(0, .ref h0)] := hl
  refine lv_aload_n hx hb d_Lo_sumUp_0 rfl (lv_at hl 0 rfl) ?_
  refine va_get (D := D) (ci := 3) (v := .int (pI sm)) (C := R_Lo) (T := T_Lo) (N := 6) hx hb hts (fun w h => List.mem_cons_of_mem _ (iw_Lo w h)) hown hK hP 0 rfl rfl 5 (by decide) (hts _ (List.mem_cons_of_mem _ k_43)) (fun _ h9 => h9) rfl d_Lo_sumUp_1 ?_
  refine kb_eqP (tgt := 8) hx hb d_Lo_sumUp_4 (by decide) (fun hs => ?_) (fun hs => ?_)
  · refine lv_iconst (v := nI 0) hx hb d_Lo_sumUp_8 (by decide +kernel) ?_
    refine lv_istore_n (lv' := [(1, .int (nI 0)), (0, .ref h0)]) hx hb d_Lo_sumUp_9 rfl hl (by decide) rfl (fun ls hl => ?_)
    have lp : ∀ (n : Nat) (y : Nat), (y + n = side) → ∀ (H : Heap) (locs : List Loc), va_P D vwCl [(h0, .inr (3, [.int (nI side), .ref a1, .ref a2, .ref a3, .ref a4, .int (pI sm)])), (a1, .inl (cZ, ((2 * side) * side), .inl (fun j => pI (IN j)))), (a2, .inl (cI, (side * side), .inl (fun j => nI (LO j)))), (a3, .inl (cI, ((side + 1) * (side + 1)), .inl (fun j => nI ((allUp side (fbare side IN) F3 y) j)))), (a4, .inl (cI, ((side + 1) * (side + 1)), .inl (fun j => nI ((allUp side (floss side LO) F4 y) j))))] H → va_D A [(h0, .inr (3, [.int (nI side), .ref a1, .ref a2, .ref a3, .ref a4, .int (pI sm)])), (a1, .inl (cZ, ((2 * side) * side), .inl (fun j => pI (IN j)))), (a2, .inl (cI, (side * side), .inl (fun j => nI (LO j)))), (a3, .inl (cI, ((side + 1) * (side + 1)), .inl (fun j => nI ((allUp side (fbare side IN) F3 y) j)))), (a4, .inl (cI, ((side + 1) * (side + 1)), .inl (fun j => nI ((allUp side (floss side LO) F4 y) j))))] → va_S A s.heap H locs → ∀ ls : Array Slot, lv_has ls 2 [(1, .int (nI y)), (0, .ref h0)] → W p l e (headSpec w_Lo_sumUp ({ frames := 1, cells := 0, slots := 0, locals := 27 })).room s m ([.ref h0]).toArray below meth c H locs 0 0 (MQ below (va_Qv (fun (u : (Nat → Nat) × (Nat → Nat)) => (∀ X Y, X ≤ side → Y ≤ side → u.1 (Y * (side + 1) + X) = psm (fbare side IN) X Y) ∧ ∀ X Y, X ≤ side → Y ≤ side → u.2 (Y * (side + 1) + X) = psm (floss side LO) X Y) (fun (u : (Nat → Nat) × (Nat → Nat)) t => kE D vwCl A [(h0, .inr (3, [.int (nI side), .ref a1, .ref a2, .ref a3, .ref a4, .int (pI True)])), (a1, .inl (cZ, ((2 * side) * side), .inl (fun j => pI (IN j)))), (a2, .inl (cI, (side * side), .inl (fun j => nI (LO j)))), (a3, .inl (cI, ((side + 1) * (side + 1)), .inl (fun j => nI (u.1 j)))), (a4, .inl (cI, ((side + 1) * (side + 1)), .inl (fun j => nI (u.2 j))))] t) A) ([.ref h0]).toArray s 0 0 A) (F0 m 10 ls []) := by
      intro n
      induction n with
      | zero =>
        intro y hi H locs hP hD hS ls hl
        refine lv_iload_n hx hb d_Lo_sumUp_10 rfl (lv_at hl 0 rfl) ?_
        refine lv_aload_n hx hb d_Lo_sumUp_11 rfl (lv_at hl 1 rfl) ?_
        refine va_get (D := D) (ci := 3) (v := .int (nI side)) (C := R_Lo) (T := T_Lo) (N := 6) hx hb hts (fun w h => List.mem_cons_of_mem _ (iw_Lo w h)) hown hK hP 0 rfl rfl 0 (by decide) (hts _ (List.mem_cons_of_mem _ k_35)) (fun _ h9 => h9) rfl d_Lo_sumUp_12 ?_
        refine kb_cge (tgt := 29) (nI_t (by omega)) (nI_t (by omega)) hx hb d_Lo_sumUp_15 (by decide) (fun c_15 => ?_) (fun c_15 => ?_)
        · have ey : side = y := by omega
          subst ey
          refine lv_aload_n hx hb d_Lo_sumUp_29 rfl (lv_at hl 1 rfl) ?_
          refine lv_iconst (v := nI 1) hx hb d_Lo_sumUp_30 (by decide +kernel) ?_
          refine ka_i (y := pI True) (pI_1 trivial) ?_
          refine va_put (D := D) (ci := 3) (v := .int (pI True)) (ty := .boolean) (C := R_Lo) (T := T_Lo) (N := 6) hx hb hts (fun w h => List.mem_cons_of_mem _ (iw_Lo w h)) ty_Lo tyok_Lo nm_Lo hown hK hP hD hS 0 rfl rfl 5 (by decide) (hts _ (List.mem_cons_of_mem _ k_43)) (fun _ h9 => h9) rfl (by decide +kernel) (pI_narrow _) (pI_fits _) (Nat.le_of_ble_eq_true rfl) d_Lo_sumUp_31 (fun H locs hP hD hS => ?_)
          have hP : va_P D vwCl [(h0, .inr (3, [.int (nI side), .ref a1, .ref a2, .ref a3, .ref a4, .int (pI True)])), (a1, .inl (cZ, ((2 * side) * side), .inl (fun j => pI (IN j)))), (a2, .inl (cI, (side * side), .inl (fun j => nI (LO j)))), (a3, .inl (cI, ((side + 1) * (side + 1)), .inl (fun j => nI ((allUp side (fbare side IN) F3 side) j)))), (a4, .inl (cI, ((side + 1) * (side + 1)), .inl (fun j => nI ((allUp side (floss side LO) F4 side) j))))] H := hP
          have hD : va_D A [(h0, .inr (3, [.int (nI side), .ref a1, .ref a2, .ref a3, .ref a4, .int (pI True)])), (a1, .inl (cZ, ((2 * side) * side), .inl (fun j => pI (IN j)))), (a2, .inl (cI, (side * side), .inl (fun j => nI (LO j)))), (a3, .inl (cI, ((side + 1) * (side + 1)), .inl (fun j => nI ((allUp side (fbare side IN) F3 side) j)))), (a4, .inl (cI, ((side + 1) * (side + 1)), .inl (fun j => nI ((allUp side (floss side LO) F4 side) j))))] := hD
          exact kretv (u := (allUp side (fbare side IN) F3 side, allUp side (floss side LO) F4 side)) hx hb hr hP hD hS hlocks rfl (⟨fun X Y hX hY => (allUp_at e3.1 e3.2 side (Nat.le_refl _) X Y hX).1 hY, fun X Y hX hY => (allUp_at e4.1 e4.2 side (Nat.le_refl _) X Y hX).1 hY⟩) d_Lo_sumUp_34
        · exfalso; omega
      | succ n ih =>
        intro y hi H locs hP hD hS ls hl
        refine lv_iload_n hx hb d_Lo_sumUp_10 rfl (lv_at hl 0 rfl) ?_
        refine lv_aload_n hx hb d_Lo_sumUp_11 rfl (lv_at hl 1 rfl) ?_
        refine va_get (D := D) (ci := 3) (v := .int (nI side)) (C := R_Lo) (T := T_Lo) (N := 6) hx hb hts (fun w h => List.mem_cons_of_mem _ (iw_Lo w h)) hown hK hP 0 rfl rfl 0 (by decide) (hts _ (List.mem_cons_of_mem _ k_35)) (fun _ h9 => h9) rfl d_Lo_sumUp_12 ?_
        refine kb_cge (tgt := 29) (nI_t (by omega)) (nI_t (by omega)) hx hb d_Lo_sumUp_15 (by decide) (fun c_15 => ?_) (fun c_15 => ?_)
        · exfalso; omega
        · refine lv_aload_n hx hb d_Lo_sumUp_18 rfl (lv_at hl 1 rfl) ?_
          refine lv_iload_n hx hb d_Lo_sumUp_19 rfl (lv_at hl 0 rfl) ?_
          refine kcallv (wc := [(h0, .inr (3, [.int (nI side), .ref a1, .ref a2, .ref a3, .ref a4, .int (pI sm)])), (a1, .inl (cZ, ((2 * side) * side), .inl (fun j => pI (IN j)))), (a2, .inl (cI, (side * side), .inl (fun j => nI (LO j)))), (a3, .inl (cI, ((side + 1) * (side + 1)), .inl (fun j => nI ((allUp side (fbare side IN) F3 y) j)))), (a4, .inl (cI, ((side + 1) * (side + 1)), .inl (fun j => nI ((allUp side (floss side LO) F4 y) j))))]) (wr := []) [0, 1, 2, 3, 4] [] (va_runV (As := [.int (nI y)]) (rest := []) ⟨hx, hb, hml, hown, hts⟩ (c_sumUpRow l D cI cJ cZ H.size h0 side a1 a2 a3 a4 sm IN LO (allUp side (fbare side IN) F3 y) (allUp side (floss side LO) F4 y) y (by omega) (by omega)) ⟨callB_of 1 hts (gd kc_Lo_sumUpRow) rfl rfl rfl (hts _ (List.mem_cons_of_mem _ k_3)) (hts _ (List.mem_cons_of_mem _ k_208)) (by decide +kernel) ⟨Nat.le_of_ble_eq_true rfl, Nat.le_of_ble_eq_true rfl⟩, hts _ (List.mem_cons_of_mem _ k_210), hts _ (List.mem_cons_of_mem _ ks_0)⟩ ⟨kB_blind, va_recv hK hP (ci := 3) (q0 := 0) rfl rfl, kB_at hP hD hK hZ [0, 1, 2, 3, 4] rfl (by decide) rfl⟩ rfl rfl hl.1 rfl (lv_room (Nat.le_of_ble_eq_true rfl)) d_Lo_sumUp_20 ⟨Nat.zero_le _, Nat.zero_le _⟩) hP hD hS hA rfl rfl (by decide) (by decide) (fun _ H locs hw_20 hP hD hS => ?_)
          have hP : va_P D vwCl [(h0, .inr (3, [.int (nI side), .ref a1, .ref a2, .ref a3, .ref a4, .int (pI sm)])), (a1, .inl (cZ, ((2 * side) * side), .inl (fun j => pI (IN j)))), (a2, .inl (cI, (side * side), .inl (fun j => nI (LO j)))), (a3, .inl (cI, ((side + 1) * (side + 1)), .inl (fun j => nI ((rowUp side y (fun i_ => fbare side IN i_ y) (allUp side (fbare side IN) F3 y) side) j)))), (a4, .inl (cI, ((side + 1) * (side + 1)), .inl (fun j => nI ((rowUp side y (fun i_ => floss side LO i_ y) (allUp side (floss side LO) F4 y) side) j))))] H := hP
          have hD : va_D A [(h0, .inr (3, [.int (nI side), .ref a1, .ref a2, .ref a3, .ref a4, .int (pI sm)])), (a1, .inl (cZ, ((2 * side) * side), .inl (fun j => pI (IN j)))), (a2, .inl (cI, (side * side), .inl (fun j => nI (LO j)))), (a3, .inl (cI, ((side + 1) * (side + 1)), .inl (fun j => nI ((rowUp side y (fun i_ => fbare side IN i_ y) (allUp side (fbare side IN) F3 y) side) j)))), (a4, .inl (cI, ((side + 1) * (side + 1)), .inl (fun j => nI ((rowUp side y (fun i_ => floss side LO i_ y) (allUp side (floss side LO) F4 y) side) j))))] := hD
          refine lv_iinc (v := nI (y + 1)) (lv' := [(1, .int (nI (y + 1))), (0, .ref h0)]) hx hb d_Lo_sumUp_23 hl (k := 0) rfl (nI_add _ 1) (by decide) rfl (fun ls hl => ?_)
          refine lv_goto (tgt := 10) hx hb d_Lo_sumUp_26 (by decide) ?_
          exact ih (y + 1) (by omega) _ _ hP hD hS ls (lv_sub hl [0, 1] rfl)
    exact lp side 0 (by omega) _ _ hP hD hS ls (lv_sub hl [0, 1] rfl)
  · have es : sm = True := propext ⟨fun _ => trivial, fun _ => hs⟩
    subst es
    exact kretv (u := (F3, F4)) hx hb hr hP hD hS hlocks rfl (⟨m3 trivial, m4 trivial⟩) d_Lo_sumUp_7
