theorem d_Mo_walk_0 : decode b_Mo_walk 0 = .ok (.aload_n 0, 1) := by decide +kernel
theorem d_Mo_walk_1 : decode b_Mo_walk 1 = .ok (.iconst 0, 1) := by decide +kernel
theorem d_Mo_walk_2 : decode b_Mo_walk 2 = .ok (.putfield 133, 3) := by decide +kernel
theorem d_Mo_walk_5 : decode b_Mo_walk 5 = .ok (.aload_n 0, 1) := by decide +kernel
theorem d_Mo_walk_6 : decode b_Mo_walk 6 = .ok (.iconst 0, 1) := by decide +kernel
theorem d_Mo_walk_7 : decode b_Mo_walk 7 = .ok (.putfield 140, 3) := by decide +kernel
theorem d_Mo_walk_10 : decode b_Mo_walk 10 = .ok (.iconst 0, 1) := by decide +kernel
theorem d_Mo_walk_11 : decode b_Mo_walk 11 = .ok (.istore_n 2, 1) := by decide +kernel
theorem d_Mo_walk_12 : decode b_Mo_walk 12 = .ok (.iload_n 2, 1) := by decide +kernel
theorem d_Mo_walk_13 : decode b_Mo_walk 13 = .ok (.aload_n 0, 1) := by decide +kernel
theorem d_Mo_walk_14 : decode b_Mo_walk 14 = .ok (.getfield 50, 3) := by decide +kernel
theorem d_Mo_walk_17 : decode b_Mo_walk 17 = .ok (.if_icmp .ge 137, 3) := by decide +kernel
theorem d_Mo_walk_20 : decode b_Mo_walk 20 = .ok (.iconst 1, 1) := by decide +kernel
theorem d_Mo_walk_21 : decode b_Mo_walk 21 = .ok (.istore_n 3, 1) := by decide +kernel
theorem d_Mo_walk_22 : decode b_Mo_walk 22 = .ok (.iload_n 3, 1) := by decide +kernel
theorem d_Mo_walk_23 : decode b_Mo_walk 23 = .ok (.aload_n 0, 1) := by decide +kernel
theorem d_Mo_walk_24 : decode b_Mo_walk 24 = .ok (.getfield 50, 3) := by decide +kernel
theorem d_Mo_walk_27 : decode b_Mo_walk 27 = .ok (.iload_n 2, 1) := by decide +kernel
theorem d_Mo_walk_28 : decode b_Mo_walk 28 = .ok (.isub, 1) := by decide +kernel
theorem d_Mo_walk_29 : decode b_Mo_walk 29 = .ok (.if_icmp .gt 82, 3) := by decide +kernel
theorem d_Mo_walk_32 : decode b_Mo_walk 32 = .ok (.aload_n 0, 1) := by decide +kernel
theorem d_Mo_walk_33 : decode b_Mo_walk 33 = .ok (.iload_n 2, 1) := by decide +kernel
theorem d_Mo_walk_34 : decode b_Mo_walk 34 = .ok (.iload_n 3, 1) := by decide +kernel
theorem d_Mo_walk_35 : decode b_Mo_walk 35 = .ok (.invokevirtual 130, 3) := by decide +kernel
theorem d_Mo_walk_38 : decode b_Mo_walk 38 = .ok (.ifCond .eq 67, 3) := by decide +kernel
theorem d_Mo_walk_41 : decode b_Mo_walk 41 = .ok (.aload_n 0, 1) := by decide +kernel
theorem d_Mo_walk_42 : decode b_Mo_walk 42 = .ok (.getfield 35, 3) := by decide +kernel
theorem d_Mo_walk_45 : decode b_Mo_walk 45 = .ok (.iload_n 2, 1) := by decide +kernel
theorem d_Mo_walk_46 : decode b_Mo_walk 46 = .ok (.iload_n 3, 1) := by decide +kernel
theorem d_Mo_walk_47 : decode b_Mo_walk 47 = .ok (.iconst 0, 1) := by decide +kernel
theorem d_Mo_walk_48 : decode b_Mo_walk 48 = .ok (.invokestatic 101, 3) := by decide +kernel
theorem d_Mo_walk_51 : decode b_Mo_walk 51 = .ok (.iaload, 1) := by decide +kernel
theorem d_Mo_walk_52 : decode b_Mo_walk 52 = .ok (.aload_n 0, 1) := by decide +kernel
theorem d_Mo_walk_53 : decode b_Mo_walk 53 = .ok (.getfield 41, 3) := by decide +kernel
theorem d_Mo_walk_56 : decode b_Mo_walk 56 = .ok (.aload_n 0, 1) := by decide +kernel
theorem d_Mo_walk_57 : decode b_Mo_walk 57 = .ok (.iload_n 2, 1) := by decide +kernel
theorem d_Mo_walk_58 : decode b_Mo_walk 58 = .ok (.iload_n 3, 1) := by decide +kernel
theorem d_Mo_walk_59 : decode b_Mo_walk 59 = .ok (.invokevirtual 98, 3) := by decide +kernel
theorem d_Mo_walk_62 : decode b_Mo_walk 62 = .ok (.iaload, 1) := by decide +kernel
theorem d_Mo_walk_63 : decode b_Mo_walk 63 = .ok (.iadd, 1) := by decide +kernel
theorem d_Mo_walk_64 : decode b_Mo_walk 64 = .ok (.aload_n 0, 1) := by decide +kernel
theorem d_Mo_walk_65 : decode b_Mo_walk 65 = .ok (.getfield 41, 3) := by decide +kernel
theorem d_Mo_walk_68 : decode b_Mo_walk 68 = .ok (.iload_n 2, 1) := by decide +kernel
theorem d_Mo_walk_69 : decode b_Mo_walk 69 = .ok (.iaload, 1) := by decide +kernel
theorem d_Mo_walk_70 : decode b_Mo_walk 70 = .ok (.if_icmp .ne 35, 3) := by decide +kernel
theorem d_Mo_walk_73 : decode b_Mo_walk 73 = .ok (.aload_n 0, 1) := by decide +kernel
theorem d_Mo_walk_74 : decode b_Mo_walk 74 = .ok (.getfield 38, 3) := by decide +kernel
theorem d_Mo_walk_77 : decode b_Mo_walk 77 = .ok (.iload_n 2, 1) := by decide +kernel
theorem d_Mo_walk_78 : decode b_Mo_walk 78 = .ok (.iload_n 3, 1) := by decide +kernel
theorem d_Mo_walk_79 : decode b_Mo_walk 79 = .ok (.iconst 0, 1) := by decide +kernel
theorem d_Mo_walk_80 : decode b_Mo_walk 80 = .ok (.invokestatic 101, 3) := by decide +kernel
theorem d_Mo_walk_83 : decode b_Mo_walk 83 = .ok (.iaload, 1) := by decide +kernel
theorem d_Mo_walk_84 : decode b_Mo_walk 84 = .ok (.aload_n 0, 1) := by decide +kernel
theorem d_Mo_walk_85 : decode b_Mo_walk 85 = .ok (.getfield 44, 3) := by decide +kernel
theorem d_Mo_walk_88 : decode b_Mo_walk 88 = .ok (.aload_n 0, 1) := by decide +kernel
theorem d_Mo_walk_89 : decode b_Mo_walk 89 = .ok (.iload_n 2, 1) := by decide +kernel
theorem d_Mo_walk_90 : decode b_Mo_walk 90 = .ok (.iload_n 3, 1) := by decide +kernel
theorem d_Mo_walk_91 : decode b_Mo_walk 91 = .ok (.invokevirtual 98, 3) := by decide +kernel
theorem d_Mo_walk_94 : decode b_Mo_walk 94 = .ok (.iaload, 1) := by decide +kernel
theorem d_Mo_walk_95 : decode b_Mo_walk 95 = .ok (.iadd, 1) := by decide +kernel
theorem d_Mo_walk_96 : decode b_Mo_walk 96 = .ok (.aload_n 0, 1) := by decide +kernel
theorem d_Mo_walk_97 : decode b_Mo_walk 97 = .ok (.getfield 44, 3) := by decide +kernel
theorem d_Mo_walk_100 : decode b_Mo_walk 100 = .ok (.iload_n 2, 1) := by decide +kernel
theorem d_Mo_walk_101 : decode b_Mo_walk 101 = .ok (.iaload, 1) := by decide +kernel
theorem d_Mo_walk_102 : decode b_Mo_walk 102 = .ok (.if_icmp .eq 9, 3) := by decide +kernel
theorem d_Mo_walk_105 : decode b_Mo_walk 105 = .ok (.iinc 3 1, 3) := by decide +kernel
theorem d_Mo_walk_108 : decode b_Mo_walk 108 = .ok (.goto (-86), 3) := by decide +kernel
theorem d_Mo_walk_111 : decode b_Mo_walk 111 = .ok (.iload_n 3, 1) := by decide +kernel
theorem d_Mo_walk_112 : decode b_Mo_walk 112 = .ok (.aload_n 0, 1) := by decide +kernel
theorem d_Mo_walk_113 : decode b_Mo_walk 113 = .ok (.getfield 50, 3) := by decide +kernel
theorem d_Mo_walk_116 : decode b_Mo_walk 116 = .ok (.iload_n 2, 1) := by decide +kernel
theorem d_Mo_walk_117 : decode b_Mo_walk 117 = .ok (.isub, 1) := by decide +kernel
theorem d_Mo_walk_118 : decode b_Mo_walk 118 = .ok (.if_icmp .gt 30, 3) := by decide +kernel
theorem d_Mo_walk_121 : decode b_Mo_walk 121 = .ok (.aload_n 0, 1) := by decide +kernel
theorem d_Mo_walk_122 : decode b_Mo_walk 122 = .ok (.iload_n 1, 1) := by decide +kernel
theorem d_Mo_walk_123 : decode b_Mo_walk 123 = .ok (.iload_n 2, 1) := by decide +kernel
theorem d_Mo_walk_124 : decode b_Mo_walk 124 = .ok (.iload_n 3, 1) := by decide +kernel
theorem d_Mo_walk_125 : decode b_Mo_walk 125 = .ok (.invokevirtual 143, 3) := by decide +kernel
theorem d_Mo_walk_128 : decode b_Mo_walk 128 = .ok (.aload_n 0, 1) := by decide +kernel
theorem d_Mo_walk_129 : decode b_Mo_walk 129 = .ok (.dup, 1) := by decide +kernel
theorem d_Mo_walk_130 : decode b_Mo_walk 130 = .ok (.getfield 140, 3) := by decide +kernel
theorem d_Mo_walk_133 : decode b_Mo_walk 133 = .ok (.iconst 1, 1) := by decide +kernel
theorem d_Mo_walk_134 : decode b_Mo_walk 134 = .ok (.iadd, 1) := by decide +kernel
theorem d_Mo_walk_135 : decode b_Mo_walk 135 = .ok (.putfield 140, 3) := by decide +kernel
theorem d_Mo_walk_138 : decode b_Mo_walk 138 = .ok (.aload_n 0, 1) := by decide +kernel
theorem d_Mo_walk_139 : decode b_Mo_walk 139 = .ok (.iload_n 2, 1) := by decide +kernel
theorem d_Mo_walk_140 : decode b_Mo_walk 140 = .ok (.iload_n 3, 1) := by decide +kernel
theorem d_Mo_walk_141 : decode b_Mo_walk 141 = .ok (.invokevirtual 98, 3) := by decide +kernel
theorem d_Mo_walk_144 : decode b_Mo_walk 144 = .ok (.istore_n 2, 1) := by decide +kernel
theorem d_Mo_walk_145 : decode b_Mo_walk 145 = .ok (.goto 6, 3) := by decide +kernel
theorem d_Mo_walk_148 : decode b_Mo_walk 148 = .ok (.iinc 2 1, 3) := by decide +kernel
theorem d_Mo_walk_151 : decode b_Mo_walk 151 = .ok (.goto (-139), 3) := by decide +kernel
theorem d_Mo_walk_154 : decode b_Mo_walk 154 = .ok (.return_, 1) := by decide +kernel
set_option maxHeartbeats 4000000 in
set_option maxRecDepth 100000 in
theorem m_walk (l : Launch) (D : va_G) (cI cJ cZ : ClassId) (sz : Nat) (mo : Nat) (thr : Nat) (side : Nat) (kf : Nat) (m1 : Nat) (m2 : Nat) (cn : Nat) (m3 : Nat) (m4 : Nat) (m5 : Nat) (m6 : Nat) (m7 : Nat) (m8 : Nat) (m9 : Nat) (m10 : Nat) (m11 : Nat) (m12 : Nat) (sw : Prop) (tn : Nat) (tot : Nat) (psl : Nat) (pc_ : Nat) (m13 : Nat) (th : Nat → Nat) (wi : Nat → Nat) (wo : Nat → Nat) (wn : Nat → Nat) (F3 : Nat → Nat) (F4 : Nat → Nat) (SW : Nat → Nat) (SN : Nat → Nat) (RW : Nat → Nat) (RN : Nat → Nat) (AT : Nat → Nat) (fb : Nat → Nat → Nat) (fl : Nat → Nat → Nat) (s0 : PSt) (tq : Nat) (s2 : side ≤ 20) (k4 : kf ≤ 4) (n8 : cn ≤ 8) (tq1 : tq ≤ 1) (ht : ∀ k, k < 8 → th k ≤ 20) (hw : ∀ k, k < 8 → wi k ≤ 20) (hw1 : ∀ k, k < cn → 1 ≤ wi k) (ho : ∀ k, k < 8 → wo k ≤ 100000) (hn : ∀ k, k < 8 → wn k ≤ 400) (hF : ∀ X Y, X ≤ side → Y ≤ side → F3 (21 * Y + X) = psm fb X Y) (hG : ∀ X Y, X ≤ side → Y ≤ side → F4 (21 * Y + X) = psm fl X Y) (hfb : ∀ i j, i < side → j < side → fb i j ≤ 10000) (hfl : ∀ i j, i < side → j < side → fl i j ≤ 10000) (bks : ∀ r_ t_, r_ < side → 1 ≤ t_ → t_ ≤ side - r_ → (∃ k_, k_ < cn ∧ th k_ = t_) → blkP side kf th wi wo wn fb fl cn tq SW SN r_ t_) (rws : ∀ j, j ≤ side → isR ((plan0 side kf th wi wo wn fb fl cn tq).1 j) (RW j) (RN j) (side - j)) (bN : ∀ q, SN q ≤ 1000) (s00 : s0.1 = 0) : Met l y_Mo_walk w_Mo_walk ({ frames := 4, cells := 0, slots := 0, locals := 105 }) (va_Pc [.ref mo, .int (nI tq)] (kB D vwCl (tyL cI cJ cZ) sz [(mo, .inr (6, [.int (nI thr), .int (nI side), .int (nI kf), .ref m1, .ref m2, .int (nI cn), .ref m3, .ref m4, .ref m5, .ref m6, .ref m7, .ref m8, .ref m9, .ref m10, .ref m11, .ref m12, .int (pI sw), .int (nI tn), .int (nI tot), .int (nI psl), .int (nI pc_), .ref m13])), (m3, .inl (cI, 8, .inl (fun j => nI (th j)))), (m4, .inl (cI, 8, .inl (fun j => nI (wi j)))), (m5, .inl (cI, 8, .inl (fun j => nI (wo j)))), (m6, .inl (cI, 8, .inl (fun j => nI (wn j)))), (m7, .inl (cI, 441, .inl (fun j => nI (F3 j)))), (m8, .inl (cI, 441, .inl (fun j => nI (F4 j)))), (m9, .inl (cI, 9702, .inl (fun j => nI (SW j)))), (m10, .inl (cI, 9702, .inl (fun j => nI (SN j)))), (m11, .inl (cI, 21, .inl (fun j => nI (RW j)))), (m12, .inl (cI, 21, .inl (fun j => nI (RN j)))), (m13, .inl (cI, 2400, .inl (fun j => nI (AT j))))])) (va_Qv (fun (u : Nat → Nat) => atP side th wi wo fl tq u (layAll side kf cn tq th wi wo wn fb fl (plan0 side kf th wi wo wn fb fl cn tq).2 s0 side).2.2) (fun (u : Nat → Nat) t => kE D vwCl (va_A [(mo, .inr (6, [.int (nI thr), .int (nI side), .int (nI kf), .ref m1, .ref m2, .int (nI cn), .ref m3, .ref m4, .ref m5, .ref m6, .ref m7, .ref m8, .ref m9, .ref m10, .ref m11, .ref m12, .int (pI sw), .int (nI tn), .int (nI tot), .int (nI psl), .int (nI pc_), .ref m13])), (m3, .inl (cI, 8, .inl (fun j => nI (th j)))), (m4, .inl (cI, 8, .inl (fun j => nI (wi j)))), (m5, .inl (cI, 8, .inl (fun j => nI (wo j)))), (m6, .inl (cI, 8, .inl (fun j => nI (wn j)))), (m7, .inl (cI, 441, .inl (fun j => nI (F3 j)))), (m8, .inl (cI, 441, .inl (fun j => nI (F4 j)))), (m9, .inl (cI, 9702, .inl (fun j => nI (SW j)))), (m10, .inl (cI, 9702, .inl (fun j => nI (SN j)))), (m11, .inl (cI, 21, .inl (fun j => nI (RW j)))), (m12, .inl (cI, 21, .inl (fun j => nI (RN j)))), (m13, .inl (cI, 2400, .inl (fun j => nI (AT j))))] sz) [(mo, .inr (6, [.int (nI thr), .int (nI side), .int (nI kf), .ref m1, .ref m2, .int (nI cn), .ref m3, .ref m4, .ref m5, .ref m6, .ref m7, .ref m8, .ref m9, .ref m10, .ref m11, .ref m12, .int (pI sw), .int (nI tn), .int (nI tot), .int (nI ((layAll side kf cn tq th wi wo wn fb fl (plan0 side kf th wi wo wn fb fl cn tq).2 s0 side).2.1)), .int (nI ((layAll side kf cn tq th wi wo wn fb fl (plan0 side kf th wi wo wn fb fl cn tq).2 s0 side).2.2.1)), .ref m13])), (m3, .inl (cI, 8, .inl (fun j => nI (th j)))), (m4, .inl (cI, 8, .inl (fun j => nI (wi j)))), (m5, .inl (cI, 8, .inl (fun j => nI (wo j)))), (m6, .inl (cI, 8, .inl (fun j => nI (wn j)))), (m7, .inl (cI, 441, .inl (fun j => nI (F3 j)))), (m8, .inl (cI, 441, .inl (fun j => nI (F4 j)))), (m9, .inl (cI, 9702, .inl (fun j => nI (SW j)))), (m10, .inl (cI, 9702, .inl (fun j => nI (SN j)))), (m11, .inl (cI, 21, .inl (fun j => nI (RW j)))), (m12, .inl (cI, 21, .inl (fun j => nI (RN j)))), (m13, .inl (cI, 2400, .inl (fun j => nI (u j))))] t) (va_A [(mo, .inr (6, [.int (nI thr), .int (nI side), .int (nI kf), .ref m1, .ref m2, .int (nI cn), .ref m3, .ref m4, .ref m5, .ref m6, .ref m7, .ref m8, .ref m9, .ref m10, .ref m11, .ref m12, .int (pI sw), .int (nI tn), .int (nI tot), .int (nI psl), .int (nI pc_), .ref m13])), (m3, .inl (cI, 8, .inl (fun j => nI (th j)))), (m4, .inl (cI, 8, .inl (fun j => nI (wi j)))), (m5, .inl (cI, 8, .inl (fun j => nI (wo j)))), (m6, .inl (cI, 8, .inl (fun j => nI (wn j)))), (m7, .inl (cI, 441, .inl (fun j => nI (F3 j)))), (m8, .inl (cI, 441, .inl (fun j => nI (F4 j)))), (m9, .inl (cI, 9702, .inl (fun j => nI (SW j)))), (m10, .inl (cI, 9702, .inl (fun j => nI (SN j)))), (m11, .inl (cI, 21, .inl (fun j => nI (RW j)))), (m12, .inl (cI, 21, .inl (fun j => nI (RN j)))), (m13, .inl (cI, 2400, .inl (fun j => nI (AT j))))] sz)) 0 0 (va_A [(mo, .inr (6, [.int (nI thr), .int (nI side), .int (nI kf), .ref m1, .ref m2, .int (nI cn), .ref m3, .ref m4, .ref m5, .ref m6, .ref m7, .ref m8, .ref m9, .ref m10, .ref m11, .ref m12, .int (pI sw), .int (nI tn), .int (nI tot), .int (nI psl), .int (nI pc_), .ref m13])), (m3, .inl (cI, 8, .inl (fun j => nI (th j)))), (m4, .inl (cI, 8, .inl (fun j => nI (wi j)))), (m5, .inl (cI, 8, .inl (fun j => nI (wo j)))), (m6, .inl (cI, 8, .inl (fun j => nI (wn j)))), (m7, .inl (cI, 441, .inl (fun j => nI (F3 j)))), (m8, .inl (cI, 441, .inl (fun j => nI (F4 j)))), (m9, .inl (cI, 9702, .inl (fun j => nI (SW j)))), (m10, .inl (cI, 9702, .inl (fun j => nI (SN j)))), (m11, .inl (cI, 21, .inl (fun j => nI (RW j)))), (m12, .inl (cI, 21, .inl (fun j => nI (RN j)))), (m13, .inl (cI, 2400, .inl (fun j => nI (AT j))))] sz) := by
  refine Met.ofW (cc := b_Mo_walk) (maxL := 4) (ret := none) (by decide) rfl ?_
  intro p e s m args below meth c s₁ B hml hv
  obtain ⟨rfl, hsz, hP, hK, hD0, hZ⟩ := hv
  have hx := B.exec
  have hb := B.bytes
  have hr := B.returns
  have hts := atoms_spec (ws := w_Mo_walk) B.pre
  have hown : s.vm.findClass R_Mo = some m.cls := findClass_of_methodNamed B.named
  have hlocks := B.notSynchronized
  subst hsz
  have hD := hD0.self (sz := s.heap.size)
  generalize hAe : va_A [(mo, .inr (6, [.int (nI thr), .int (nI side), .int (nI kf), .ref m1, .ref m2, .int (nI cn), .ref m3, .ref m4, .ref m5, .ref m6, .ref m7, .ref m8, .ref m9, .ref m10, .ref m11, .ref m12, .int (pI sw), .int (nI tn), .int (nI tot), .int (nI psl), .int (nI pc_), .ref m13])), (m3, .inl (cI, 8, .inl (fun j => nI (th j)))), (m4, .inl (cI, 8, .inl (fun j => nI (wi j)))), (m5, .inl (cI, 8, .inl (fun j => nI (wo j)))), (m6, .inl (cI, 8, .inl (fun j => nI (wn j)))), (m7, .inl (cI, 441, .inl (fun j => nI (F3 j)))), (m8, .inl (cI, 441, .inl (fun j => nI (F4 j)))), (m9, .inl (cI, 9702, .inl (fun j => nI (SW j)))), (m10, .inl (cI, 9702, .inl (fun j => nI (SN j)))), (m11, .inl (cI, 21, .inl (fun j => nI (RW j)))), (m12, .inl (cI, 21, .inl (fun j => nI (RN j)))), (m13, .inl (cI, 2400, .inl (fun j => nI (AT j))))] s.heap.size = A at hD ⊢
  have hA : ∀ q : Nat, s.heap.size ≤ q → A q := fun q h => by rw [← hAe]; exact Or.inr h
  have hS : va_S A s.heap s.heap [] := va_S.rf
  have hP : va_P D vwCl [(mo, .inr (6, [.int (nI thr), .int (nI side), .int (nI kf), .ref m1, .ref m2, .int (nI cn), .ref m3, .ref m4, .ref m5, .ref m6, .ref m7, .ref m8, .ref m9, .ref m10, .ref m11, .ref m12, .int (pI sw), .int (nI tn), .int (nI tot), .int (nI psl), .int (nI pc_), .ref m13])), (m3, .inl (cI, 8, .inl (fun j => nI (th j)))), (m4, .inl (cI, 8, .inl (fun j => nI (wi j)))), (m5, .inl (cI, 8, .inl (fun j => nI (wo j)))), (m6, .inl (cI, 8, .inl (fun j => nI (wn j)))), (m7, .inl (cI, 441, .inl (fun j => nI (F3 j)))), (m8, .inl (cI, 441, .inl (fun j => nI (F4 j)))), (m9, .inl (cI, 9702, .inl (fun j => nI (SW j)))), (m10, .inl (cI, 9702, .inl (fun j => nI (SN j)))), (m11, .inl (cI, 21, .inl (fun j => nI (RW j)))), (m12, .inl (cI, 21, .inl (fun j => nI (RN j)))), (m13, .inl (cI, 2400, .inl (fun j => nI (AT j))))] s.heap := hP
  have hl := lv_entry ([.ref mo, .int (nI tq)]) (n := 4) (Nat.le_of_ble_eq_true rfl)
  rw [lg_entry_eq]
  generalize (lg_sl ([.ref mo, .int (nI tq)]) ++ List.replicate (4 - (lg_sl ([.ref mo, .int (nI tq)])).length) Slot.unset).toArray = ls at hl ⊢
  have hl : lv_has ls 4 [(0, .ref mo), (1, .int (nI tq))] := hl
  have qq := (sq20 s2).2
  refine lv_aload_n hx hb d_Mo_walk_0 rfl (lv_at hl 0 rfl) ?_
  refine lv_iconst (v := nI 0) hx hb d_Mo_walk_1 (by decide +kernel) ?_
  refine va_put (D := D) (ci := 6) (v := .int (nI 0)) (ty := .int) (C := R_Mo) (T := T_Mo) (N := 22) hx hb hts (fun w h => List.mem_cons_of_mem _ (iw_Mo w h)) ty_Mo tyok_Mo nm_Mo hown hK hP hD hS 0 rfl rfl 20 (by decide) (hts _ (List.mem_cons_of_mem _ k_565)) (fun _ h9 => h9) rfl (by decide +kernel) (rfl) (rfl) (Nat.le_of_ble_eq_true rfl) d_Mo_walk_2 (fun H locs hP hD hS => ?_)
  have hP : va_P D vwCl [(mo, .inr (6, [.int (nI thr), .int (nI side), .int (nI kf), .ref m1, .ref m2, .int (nI cn), .ref m3, .ref m4, .ref m5, .ref m6, .ref m7, .ref m8, .ref m9, .ref m10, .ref m11, .ref m12, .int (pI sw), .int (nI tn), .int (nI tot), .int (nI psl), .int (nI 0), .ref m13])), (m3, .inl (cI, 8, .inl (fun j => nI (th j)))), (m4, .inl (cI, 8, .inl (fun j => nI (wi j)))), (m5, .inl (cI, 8, .inl (fun j => nI (wo j)))), (m6, .inl (cI, 8, .inl (fun j => nI (wn j)))), (m7, .inl (cI, 441, .inl (fun j => nI (F3 j)))), (m8, .inl (cI, 441, .inl (fun j => nI (F4 j)))), (m9, .inl (cI, 9702, .inl (fun j => nI (SW j)))), (m10, .inl (cI, 9702, .inl (fun j => nI (SN j)))), (m11, .inl (cI, 21, .inl (fun j => nI (RW j)))), (m12, .inl (cI, 21, .inl (fun j => nI (RN j)))), (m13, .inl (cI, 2400, .inl (fun j => nI (AT j))))] H := hP
  have hD : va_D A [(mo, .inr (6, [.int (nI thr), .int (nI side), .int (nI kf), .ref m1, .ref m2, .int (nI cn), .ref m3, .ref m4, .ref m5, .ref m6, .ref m7, .ref m8, .ref m9, .ref m10, .ref m11, .ref m12, .int (pI sw), .int (nI tn), .int (nI tot), .int (nI psl), .int (nI 0), .ref m13])), (m3, .inl (cI, 8, .inl (fun j => nI (th j)))), (m4, .inl (cI, 8, .inl (fun j => nI (wi j)))), (m5, .inl (cI, 8, .inl (fun j => nI (wo j)))), (m6, .inl (cI, 8, .inl (fun j => nI (wn j)))), (m7, .inl (cI, 441, .inl (fun j => nI (F3 j)))), (m8, .inl (cI, 441, .inl (fun j => nI (F4 j)))), (m9, .inl (cI, 9702, .inl (fun j => nI (SW j)))), (m10, .inl (cI, 9702, .inl (fun j => nI (SN j)))), (m11, .inl (cI, 21, .inl (fun j => nI (RW j)))), (m12, .inl (cI, 21, .inl (fun j => nI (RN j)))), (m13, .inl (cI, 2400, .inl (fun j => nI (AT j))))] := hD
  refine lv_aload_n hx hb d_Mo_walk_5 rfl (lv_at hl 0 rfl) ?_
  refine lv_iconst (v := nI 0) hx hb d_Mo_walk_6 (by decide +kernel) ?_
  refine va_put (D := D) (ci := 6) (v := .int (nI 0)) (ty := .int) (C := R_Mo) (T := T_Mo) (N := 22) hx hb hts (fun w h => List.mem_cons_of_mem _ (iw_Mo w h)) ty_Mo tyok_Mo nm_Mo hown hK hP hD hS 0 rfl rfl 19 (by decide) (hts _ (List.mem_cons_of_mem _ k_564)) (fun _ h9 => h9) rfl (by decide +kernel) (rfl) (rfl) (Nat.le_of_ble_eq_true rfl) d_Mo_walk_7 (fun H locs hP hD hS => ?_)
  have hP : va_P D vwCl [(mo, .inr (6, [.int (nI thr), .int (nI side), .int (nI kf), .ref m1, .ref m2, .int (nI cn), .ref m3, .ref m4, .ref m5, .ref m6, .ref m7, .ref m8, .ref m9, .ref m10, .ref m11, .ref m12, .int (pI sw), .int (nI tn), .int (nI tot), .int (nI 0), .int (nI 0), .ref m13])), (m3, .inl (cI, 8, .inl (fun j => nI (th j)))), (m4, .inl (cI, 8, .inl (fun j => nI (wi j)))), (m5, .inl (cI, 8, .inl (fun j => nI (wo j)))), (m6, .inl (cI, 8, .inl (fun j => nI (wn j)))), (m7, .inl (cI, 441, .inl (fun j => nI (F3 j)))), (m8, .inl (cI, 441, .inl (fun j => nI (F4 j)))), (m9, .inl (cI, 9702, .inl (fun j => nI (SW j)))), (m10, .inl (cI, 9702, .inl (fun j => nI (SN j)))), (m11, .inl (cI, 21, .inl (fun j => nI (RW j)))), (m12, .inl (cI, 21, .inl (fun j => nI (RN j)))), (m13, .inl (cI, 2400, .inl (fun j => nI (AT j))))] H := hP
  have hD : va_D A [(mo, .inr (6, [.int (nI thr), .int (nI side), .int (nI kf), .ref m1, .ref m2, .int (nI cn), .ref m3, .ref m4, .ref m5, .ref m6, .ref m7, .ref m8, .ref m9, .ref m10, .ref m11, .ref m12, .int (pI sw), .int (nI tn), .int (nI tot), .int (nI 0), .int (nI 0), .ref m13])), (m3, .inl (cI, 8, .inl (fun j => nI (th j)))), (m4, .inl (cI, 8, .inl (fun j => nI (wi j)))), (m5, .inl (cI, 8, .inl (fun j => nI (wo j)))), (m6, .inl (cI, 8, .inl (fun j => nI (wn j)))), (m7, .inl (cI, 441, .inl (fun j => nI (F3 j)))), (m8, .inl (cI, 441, .inl (fun j => nI (F4 j)))), (m9, .inl (cI, 9702, .inl (fun j => nI (SW j)))), (m10, .inl (cI, 9702, .inl (fun j => nI (SN j)))), (m11, .inl (cI, 21, .inl (fun j => nI (RW j)))), (m12, .inl (cI, 21, .inl (fun j => nI (RN j)))), (m13, .inl (cI, 2400, .inl (fun j => nI (AT j))))] := hD
  refine lv_iconst (v := nI 0) hx hb d_Mo_walk_10 (by decide +kernel) ?_
  refine lv_istore_n (lv' := [(2, .int (nI 0)), (0, .ref mo), (1, .int (nI tq))]) hx hb d_Mo_walk_11 rfl hl (by decide) rfl (fun ls hl => ?_)
  have lp : ∀ (n : Nat) (kr : Nat) (TA : Nat → Nat), (side ≤ kr + n) → (kr ≤ side) → (kr < side → (layAll side kf cn tq th wi wo wn fb fl (plan0 side kf th wi wo wn fb fl cn tq).2 s0 kr).1 ≤ kr) → (atP side th wi wo fl tq TA (layAll side kf cn tq th wi wo wn fb fl (plan0 side kf th wi wo wn fb fl cn tq).2 s0 kr).2.2) → ∀ (H : Heap) (locs : List Loc), va_P D vwCl [(mo, .inr (6, [.int (nI thr), .int (nI side), .int (nI kf), .ref m1, .ref m2, .int (nI cn), .ref m3, .ref m4, .ref m5, .ref m6, .ref m7, .ref m8, .ref m9, .ref m10, .ref m11, .ref m12, .int (pI sw), .int (nI tn), .int (nI tot), .int (nI ((layAll side kf cn tq th wi wo wn fb fl (plan0 side kf th wi wo wn fb fl cn tq).2 s0 kr).2.1)), .int (nI ((layAll side kf cn tq th wi wo wn fb fl (plan0 side kf th wi wo wn fb fl cn tq).2 s0 kr).2.2.1)), .ref m13])), (m3, .inl (cI, 8, .inl (fun j => nI (th j)))), (m4, .inl (cI, 8, .inl (fun j => nI (wi j)))), (m5, .inl (cI, 8, .inl (fun j => nI (wo j)))), (m6, .inl (cI, 8, .inl (fun j => nI (wn j)))), (m7, .inl (cI, 441, .inl (fun j => nI (F3 j)))), (m8, .inl (cI, 441, .inl (fun j => nI (F4 j)))), (m9, .inl (cI, 9702, .inl (fun j => nI (SW j)))), (m10, .inl (cI, 9702, .inl (fun j => nI (SN j)))), (m11, .inl (cI, 21, .inl (fun j => nI (RW j)))), (m12, .inl (cI, 21, .inl (fun j => nI (RN j)))), (m13, .inl (cI, 2400, .inl (fun j => nI (TA j))))] H → va_D A [(mo, .inr (6, [.int (nI thr), .int (nI side), .int (nI kf), .ref m1, .ref m2, .int (nI cn), .ref m3, .ref m4, .ref m5, .ref m6, .ref m7, .ref m8, .ref m9, .ref m10, .ref m11, .ref m12, .int (pI sw), .int (nI tn), .int (nI tot), .int (nI ((layAll side kf cn tq th wi wo wn fb fl (plan0 side kf th wi wo wn fb fl cn tq).2 s0 kr).2.1)), .int (nI ((layAll side kf cn tq th wi wo wn fb fl (plan0 side kf th wi wo wn fb fl cn tq).2 s0 kr).2.2.1)), .ref m13])), (m3, .inl (cI, 8, .inl (fun j => nI (th j)))), (m4, .inl (cI, 8, .inl (fun j => nI (wi j)))), (m5, .inl (cI, 8, .inl (fun j => nI (wo j)))), (m6, .inl (cI, 8, .inl (fun j => nI (wn j)))), (m7, .inl (cI, 441, .inl (fun j => nI (F3 j)))), (m8, .inl (cI, 441, .inl (fun j => nI (F4 j)))), (m9, .inl (cI, 9702, .inl (fun j => nI (SW j)))), (m10, .inl (cI, 9702, .inl (fun j => nI (SN j)))), (m11, .inl (cI, 21, .inl (fun j => nI (RW j)))), (m12, .inl (cI, 21, .inl (fun j => nI (RN j)))), (m13, .inl (cI, 2400, .inl (fun j => nI (TA j))))] → va_S A s.heap H locs → ∀ ls : Array Slot, lv_has ls 4 [(2, .int (nI kr)), (0, .ref mo), (1, .int (nI tq))] → W p l e (headSpec w_Mo_walk ({ frames := 4, cells := 0, slots := 0, locals := 105 })).room s m ([.ref mo, .int (nI tq)]).toArray below meth c H locs 0 0 (MQ below (va_Qv (fun (u : Nat → Nat) => atP side th wi wo fl tq u (layAll side kf cn tq th wi wo wn fb fl (plan0 side kf th wi wo wn fb fl cn tq).2 s0 side).2.2) (fun (u : Nat → Nat) t => kE D vwCl A [(mo, .inr (6, [.int (nI thr), .int (nI side), .int (nI kf), .ref m1, .ref m2, .int (nI cn), .ref m3, .ref m4, .ref m5, .ref m6, .ref m7, .ref m8, .ref m9, .ref m10, .ref m11, .ref m12, .int (pI sw), .int (nI tn), .int (nI tot), .int (nI ((layAll side kf cn tq th wi wo wn fb fl (plan0 side kf th wi wo wn fb fl cn tq).2 s0 side).2.1)), .int (nI ((layAll side kf cn tq th wi wo wn fb fl (plan0 side kf th wi wo wn fb fl cn tq).2 s0 side).2.2.1)), .ref m13])), (m3, .inl (cI, 8, .inl (fun j => nI (th j)))), (m4, .inl (cI, 8, .inl (fun j => nI (wi j)))), (m5, .inl (cI, 8, .inl (fun j => nI (wo j)))), (m6, .inl (cI, 8, .inl (fun j => nI (wn j)))), (m7, .inl (cI, 441, .inl (fun j => nI (F3 j)))), (m8, .inl (cI, 441, .inl (fun j => nI (F4 j)))), (m9, .inl (cI, 9702, .inl (fun j => nI (SW j)))), (m10, .inl (cI, 9702, .inl (fun j => nI (SN j)))), (m11, .inl (cI, 21, .inl (fun j => nI (RW j)))), (m12, .inl (cI, 21, .inl (fun j => nI (RN j)))), (m13, .inl (cI, 2400, .inl (fun j => nI (u j))))] t) A) ([.ref mo, .int (nI tq)]).toArray s 0 0 A) (F0 m 12 ls []) := by
    intro n
    induction n with
    | zero =>
      intro kr TA hi hc fr ap_ H locs hP hD hS ls hl
      refine lv_iload_n hx hb d_Mo_walk_12 rfl (lv_at hl 0 rfl) ?_
      refine lv_aload_n hx hb d_Mo_walk_13 rfl (lv_at hl 1 rfl) ?_
      refine va_get (D := D) (ci := 6) (v := .int (nI side)) (C := R_Mo) (T := T_Mo) (N := 22) hx hb hts (fun w h => List.mem_cons_of_mem _ (iw_Mo w h)) hown hK hP 0 rfl rfl 1 (by decide) (hts _ (List.mem_cons_of_mem _ k_546)) (fun _ h9 => h9) rfl d_Mo_walk_14 ?_
      refine kb_cge (tgt := 154) (nI_t (by omega)) (nI_t (by omega)) hx hb d_Mo_walk_17 (by decide) (fun c_17 => ?_) (fun c_17 => ?_)
      · have ec : side = kr := by omega
        subst ec
        exact kretv (u := TA) hx hb hr hP hD hS hlocks rfl (ap_) d_Mo_walk_154
      · exfalso; omega
    | succ n ih =>
      intro kr TA hi hc fr ap_ H locs hP hD hS ls hl
      refine lv_iload_n hx hb d_Mo_walk_12 rfl (lv_at hl 0 rfl) ?_
      refine lv_aload_n hx hb d_Mo_walk_13 rfl (lv_at hl 1 rfl) ?_
      refine va_get (D := D) (ci := 6) (v := .int (nI side)) (C := R_Mo) (T := T_Mo) (N := 22) hx hb hts (fun w h => List.mem_cons_of_mem _ (iw_Mo w h)) hown hK hP 0 rfl rfl 1 (by decide) (hts _ (List.mem_cons_of_mem _ k_546)) (fun _ h9 => h9) rfl d_Mo_walk_14 ?_
      refine kb_cge (tgt := 154) (nI_t (by omega)) (nI_t (by omega)) hx hb d_Mo_walk_17 (by decide) (fun cc => ?_) (fun cc => ?_)
      · have ec : side = kr := by omega
        subst ec
        exact kretv (u := TA) hx hb hr hP hD hS hlocks rfl (ap_) d_Mo_walk_154
      · have iho := ih
        have fr9 := fr (by omega)
        have pcb := layAll_ct (side := side) (kf := kf) (cn := cn) (tn := tq) (th := th) (wi := wi) (wo := wo) (wn := wn) (fb := fb) (fl := fl) (TR := (plan0 side kf th wi wo wn fb fl cn tq).2) (s0 := s0) s00 kr
        have pcm : (kr + 1) * side ≤ side * side := Nat.mul_le_mul_right side (by omega)
        rw [Nat.succ_mul] at pcm
        have at_ : ((plan0 side kf th wi wo wn fb fl cn tq).1 kr, (plan0 side kf th wi wo wn fb fl cn tq).2 kr) = (rowFold (plan0 side kf th wi wo wn fb fl cn tq).1 side kf kr (sbT side kf th wi wo wn fb fl cn tq kr) (side - kr)) := planT_at side (Nat.le_refl _) kr (by omega) (by omega)
        have f1 : (rowFold (plan0 side kf th wi wo wn fb fl cn tq).1 side kf kr (sbT side kf th wi wo wn fb fl cn tq kr) (side - kr)).1 = (plan0 side kf th wi wo wn fb fl cn tq).1 kr := congrArg Prod.fst at_.symm
        have f2 : (rowFold (plan0 side kf th wi wo wn fb fl cn tq).1 side kf kr (sbT side kf th wi wo wn fb fl cn tq kr) (side - kr)).2 = (plan0 side kf th wi wo wn fb fl cn tq).2 kr := congrArg Prod.snd at_.symm
        have ff := rowFold_first (RR := (plan0 side kf th wi wo wn fb fl cn tq).1) (side := side) (kf := kf) (row := kr) (sb := sbT side kf th wi wo wn fb fl cn tq kr) (side - kr)
        rw [f1, f2] at ff
        obtain ⟨b1, b2, b3⟩ := rws kr (by omega)
        refine lv_iconst (v := nI 1) hx hb d_Mo_walk_20 (by decide +kernel) ?_
        refine lv_istore_n (lv' := [(3, .int (nI 1)), (2, .int (nI kr)), (0, .ref mo), (1, .int (nI tq))]) hx hb d_Mo_walk_21 rfl hl (by decide) rfl (fun ls hl => ?_)
        have lq : ∀ (k : Nat) (kt : Nat), (1 ≤ kt) → (kt + k = side - kr + 1) → (∀ i, 1 ≤ i → i < kt → 0 < sbT side kf th wi wo wn fb fl cn tq kr i → sbT side kf th wi wo wn fb fl cn tq kr i + (plan0 side kf th wi wo wn fb fl cn tq).1 (min side (kr + i + kf)) ≠ (plan0 side kf th wi wo wn fb fl cn tq).1 kr) → ∀ (H : Heap) (locs : List Loc), va_P D vwCl [(mo, .inr (6, [.int (nI thr), .int (nI side), .int (nI kf), .ref m1, .ref m2, .int (nI cn), .ref m3, .ref m4, .ref m5, .ref m6, .ref m7, .ref m8, .ref m9, .ref m10, .ref m11, .ref m12, .int (pI sw), .int (nI tn), .int (nI tot), .int (nI ((layAll side kf cn tq th wi wo wn fb fl (plan0 side kf th wi wo wn fb fl cn tq).2 s0 kr).2.1)), .int (nI ((layAll side kf cn tq th wi wo wn fb fl (plan0 side kf th wi wo wn fb fl cn tq).2 s0 kr).2.2.1)), .ref m13])), (m3, .inl (cI, 8, .inl (fun j => nI (th j)))), (m4, .inl (cI, 8, .inl (fun j => nI (wi j)))), (m5, .inl (cI, 8, .inl (fun j => nI (wo j)))), (m6, .inl (cI, 8, .inl (fun j => nI (wn j)))), (m7, .inl (cI, 441, .inl (fun j => nI (F3 j)))), (m8, .inl (cI, 441, .inl (fun j => nI (F4 j)))), (m9, .inl (cI, 9702, .inl (fun j => nI (SW j)))), (m10, .inl (cI, 9702, .inl (fun j => nI (SN j)))), (m11, .inl (cI, 21, .inl (fun j => nI (RW j)))), (m12, .inl (cI, 21, .inl (fun j => nI (RN j)))), (m13, .inl (cI, 2400, .inl (fun j => nI (TA j))))] H → va_D A [(mo, .inr (6, [.int (nI thr), .int (nI side), .int (nI kf), .ref m1, .ref m2, .int (nI cn), .ref m3, .ref m4, .ref m5, .ref m6, .ref m7, .ref m8, .ref m9, .ref m10, .ref m11, .ref m12, .int (pI sw), .int (nI tn), .int (nI tot), .int (nI ((layAll side kf cn tq th wi wo wn fb fl (plan0 side kf th wi wo wn fb fl cn tq).2 s0 kr).2.1)), .int (nI ((layAll side kf cn tq th wi wo wn fb fl (plan0 side kf th wi wo wn fb fl cn tq).2 s0 kr).2.2.1)), .ref m13])), (m3, .inl (cI, 8, .inl (fun j => nI (th j)))), (m4, .inl (cI, 8, .inl (fun j => nI (wi j)))), (m5, .inl (cI, 8, .inl (fun j => nI (wo j)))), (m6, .inl (cI, 8, .inl (fun j => nI (wn j)))), (m7, .inl (cI, 441, .inl (fun j => nI (F3 j)))), (m8, .inl (cI, 441, .inl (fun j => nI (F4 j)))), (m9, .inl (cI, 9702, .inl (fun j => nI (SW j)))), (m10, .inl (cI, 9702, .inl (fun j => nI (SN j)))), (m11, .inl (cI, 21, .inl (fun j => nI (RW j)))), (m12, .inl (cI, 21, .inl (fun j => nI (RN j)))), (m13, .inl (cI, 2400, .inl (fun j => nI (TA j))))] → va_S A s.heap H locs → ∀ ls : Array Slot, lv_has ls 4 [(3, .int (nI kt)), (2, .int (nI kr)), (0, .ref mo), (1, .int (nI tq))] → W p l e (headSpec w_Mo_walk ({ frames := 4, cells := 0, slots := 0, locals := 105 })).room s m ([.ref mo, .int (nI tq)]).toArray below meth c H locs 0 0 (MQ below (va_Qv (fun (u : Nat → Nat) => atP side th wi wo fl tq u (layAll side kf cn tq th wi wo wn fb fl (plan0 side kf th wi wo wn fb fl cn tq).2 s0 side).2.2) (fun (u : Nat → Nat) t => kE D vwCl A [(mo, .inr (6, [.int (nI thr), .int (nI side), .int (nI kf), .ref m1, .ref m2, .int (nI cn), .ref m3, .ref m4, .ref m5, .ref m6, .ref m7, .ref m8, .ref m9, .ref m10, .ref m11, .ref m12, .int (pI sw), .int (nI tn), .int (nI tot), .int (nI ((layAll side kf cn tq th wi wo wn fb fl (plan0 side kf th wi wo wn fb fl cn tq).2 s0 side).2.1)), .int (nI ((layAll side kf cn tq th wi wo wn fb fl (plan0 side kf th wi wo wn fb fl cn tq).2 s0 side).2.2.1)), .ref m13])), (m3, .inl (cI, 8, .inl (fun j => nI (th j)))), (m4, .inl (cI, 8, .inl (fun j => nI (wi j)))), (m5, .inl (cI, 8, .inl (fun j => nI (wo j)))), (m6, .inl (cI, 8, .inl (fun j => nI (wn j)))), (m7, .inl (cI, 441, .inl (fun j => nI (F3 j)))), (m8, .inl (cI, 441, .inl (fun j => nI (F4 j)))), (m9, .inl (cI, 9702, .inl (fun j => nI (SW j)))), (m10, .inl (cI, 9702, .inl (fun j => nI (SN j)))), (m11, .inl (cI, 21, .inl (fun j => nI (RW j)))), (m12, .inl (cI, 21, .inl (fun j => nI (RN j)))), (m13, .inl (cI, 2400, .inl (fun j => nI (u j))))] t) A) ([.ref mo, .int (nI tq)]).toArray s 0 0 A) (F0 m 22 ls []) := by
          intro k
          induction k with
          | zero =>
            intro kt ht1 hk no H locs hP hD hS ls hl
            refine lv_iload_n hx hb d_Mo_walk_22 rfl (lv_at hl 0 rfl) ?_
            refine lv_aload_n hx hb d_Mo_walk_23 rfl (lv_at hl 2 rfl) ?_
            refine va_get (D := D) (ci := 6) (v := .int (nI side)) (C := R_Mo) (T := T_Mo) (N := 22) hx hb hts (fun w h => List.mem_cons_of_mem _ (iw_Mo w h)) hown hK hP 0 rfl rfl 1 (by decide) (hts _ (List.mem_cons_of_mem _ k_546)) (fun _ h9 => h9) rfl d_Mo_walk_24 ?_
            refine lv_iload_n hx hb d_Mo_walk_27 rfl (lv_at hl 1 rfl) ?_
            refine lv_isub hx hb d_Mo_walk_28 ?_
            refine ka_i (y := nI (side - kr)) (pk_sub (by omega)) ?_
            refine kb_cgt (tgt := 111) (nI_t (by omega)) (nI_t (by omega)) hx hb d_Mo_walk_29 (by decide) (fun c_29 => ?_) (fun c_29 => ?_)
            · refine lv_iload_n hx hb d_Mo_walk_111 rfl (lv_at hl 0 rfl) ?_
              refine lv_aload_n hx hb d_Mo_walk_112 rfl (lv_at hl 2 rfl) ?_
              refine va_get (D := D) (ci := 6) (v := .int (nI side)) (C := R_Mo) (T := T_Mo) (N := 22) hx hb hts (fun w h => List.mem_cons_of_mem _ (iw_Mo w h)) hown hK hP 0 rfl rfl 1 (by decide) (hts _ (List.mem_cons_of_mem _ k_546)) (fun _ h9 => h9) rfl d_Mo_walk_113 ?_
              refine lv_iload_n hx hb d_Mo_walk_116 rfl (lv_at hl 1 rfl) ?_
              refine lv_isub hx hb d_Mo_walk_117 ?_
              refine ka_i (y := nI (side - kr)) (pk_sub (by omega)) ?_
              refine kb_cgt (tgt := 148) (nI_t (by omega)) (nI_t (by omega)) hx hb d_Mo_walk_118 (by decide) (fun c_118 => ?_) (fun c_118 => ?_)
              · refine lv_iinc (v := nI (kr + 1)) (lv' := [(2, .int (nI (kr + 1))), (3, .int (nI kt)), (0, .ref mo), (1, .int (nI tq))]) hx hb d_Mo_walk_148 hl (k := 1) rfl (nI_add _ 1) (by decide) rfl (fun ls hl => ?_)
                refine lv_goto (tgt := 12) hx hb d_Mo_walk_151 (by decide) ?_
                have sc : (plan0 side kf th wi wo wn fb fl cn tq).2 kr = 0 := by
                  rcases ff with ⟨g1, -⟩ | ⟨i0, g0, g1, g2, g3, g4, -⟩
                  · exact g1
                  · exact absurd g4 (no i0 g0 (by omega) g3)
                have eL : (layAll side kf cn tq th wi wo wn fb fl (plan0 side kf th wi wo wn fb fl cn tq).2 s0 (kr + 1)) = (layAll side kf cn tq th wi wo wn fb fl (plan0 side kf th wi wo wn fb fl cn tq).2 s0 kr) := by
                  show allStep side kf cn tq th wi wo wn fb fl (plan0 side kf th wi wo wn fb fl cn tq).2 kr _ = _
                  unfold allStep
                  exact if_neg (fun q => by omega)
                rw [← eL] at hP hD ap_
                exact iho (kr + 1) TA (by omega) (by omega) (fun _ => by rw [eL]; omega) ap_ _ _ hP hD hS ls (lv_sub hl [0, 2, 3] rfl)
              · exfalso; omega
            · exfalso; omega
          | succ k ih =>
            intro kt ht1 hk no H locs hP hD hS ls hl
            refine lv_iload_n hx hb d_Mo_walk_22 rfl (lv_at hl 0 rfl) ?_
            refine lv_aload_n hx hb d_Mo_walk_23 rfl (lv_at hl 2 rfl) ?_
            refine va_get (D := D) (ci := 6) (v := .int (nI side)) (C := R_Mo) (T := T_Mo) (N := 22) hx hb hts (fun w h => List.mem_cons_of_mem _ (iw_Mo w h)) hown hK hP 0 rfl rfl 1 (by decide) (hts _ (List.mem_cons_of_mem _ k_546)) (fun _ h9 => h9) rfl d_Mo_walk_24 ?_
            refine lv_iload_n hx hb d_Mo_walk_27 rfl (lv_at hl 1 rfl) ?_
            refine lv_isub hx hb d_Mo_walk_28 ?_
            refine ka_i (y := nI (side - kr)) (pk_sub (by omega)) ?_
            refine kb_cgt (tgt := 111) (nI_t (by omega)) (nI_t (by omega)) hx hb d_Mo_walk_29 (by decide) (fun c_29 => ?_) (fun c_29 => ?_)
            · exfalso; omega
            · refine lv_aload_n hx hb d_Mo_walk_32 rfl (lv_at hl 2 rfl) ?_
              refine lv_iload_n hx hb d_Mo_walk_33 rfl (lv_at hl 1 rfl) ?_
              refine lv_iload_n hx hb d_Mo_walk_34 rfl (lv_at hl 0 rfl) ?_
              refine kcallR (r := .int (pI (kr + kt ≤ side ∧ (∃ k_, k_ < cn ∧ th k_ = kt) ∧ 0 < SN ((21 * kr + kt) * 22 + 0)))) (va_runV (As := [.int (nI kr), .int (nI kt)]) (rest := []) ⟨hx, hb, hml, hown, hts⟩ (m_hasSlab l D cI cJ cZ mo thr side kf m1 m2 cn m3 m4 m5 m6 m7 m8 m9 m10 m11 m12 sw tn tot ((layAll side kf cn tq th wi wo wn fb fl (plan0 side kf th wi wo wn fb fl cn tq).2 s0 kr).2.1) ((layAll side kf cn tq th wi wo wn fb fl (plan0 side kf th wi wo wn fb fl cn tq).2 s0 kr).2.2.1) m13 th SN kr kt (by omega) (by omega) (by omega) (by omega) ht bN) ⟨callB_of 2 hts (gd kc_Mo_hasSlab) rfl rfl rfl (hts _ (List.mem_cons_of_mem _ k_8)) (hts _ (List.mem_cons_of_mem _ k_706)) (by decide +kernel) ⟨Nat.le_of_ble_eq_true rfl, Nat.le_of_ble_eq_true rfl⟩, hts _ (List.mem_cons_of_mem _ k_708), hts _ (List.mem_cons_of_mem _ ks_27)⟩ ⟨kR_blind, va_recv hK hP (ci := 6) (q0 := 0) rfl rfl, kR_at hP hK hZ [0, 1, 8] rfl⟩ rfl rfl hl.1 rfl (lv_room (Nat.le_of_ble_eq_true rfl)) d_Mo_walk_35 ⟨Nat.zero_le _, Nat.zero_le _⟩) ?_
              refine kb_eqP (tgt := 105) hx hb d_Mo_walk_38 (by decide) (fun ch => ?_) (fun ch => ?_)
              · refine lv_iinc (v := nI (kt + 1)) (lv' := [(3, .int (nI (kt + 1))), (2, .int (nI kr)), (0, .ref mo), (1, .int (nI tq))]) hx hb d_Mo_walk_105 hl (k := 0) rfl (nI_add _ 1) (by decide) rfl (fun ls hl => ?_)
                refine lv_goto (tgt := 22) hx hb d_Mo_walk_108 (by decide) ?_
                exact ih (kt + 1) (by omega) (by omega) (fun i h1 hi hq => by
                  by_cases e : i = kt
                  · subst e
                    by_cases hx9 : ∃ k_, k_ < cn ∧ th k_ = i
                    · have p0 := bks kr i (by omega) h1 (by omega) hx9 0 (by omega)
                      rw [sbT_eq hx9] at hq
                      obtain ⟨p1, p2, p3, p4⟩ := p0
                      exact absurd ⟨by omega, hx9, by omega⟩ ch
                    · rw [sbT_0 hx9] at hq
                      omega
                  · exact no i h1 (by omega) hq) _ _ hP hD hS ls (lv_sub hl [0, 1, 2, 3] rfl)
              · obtain ⟨h1_, h2_, h3_⟩ := ch
                have bk0 := bks kr kt (by omega) (by omega) (by omega) h2_
                obtain ⟨p1, p2, p3, p4⟩ := bk0 0 (by omega)
                obtain ⟨y1, y2, y3⟩ := rws (min side (kr + kt + kf)) (by omega)
                have sbe := sbT_eq (side := side) (kf := kf) (wi := wi) (wo := wo) (wn := wn) (fb := fb) (fl := fl) (tq := tq) (row := kr) h2_
                have rk : sbT side kf th wi wo wn fb fl cn tq kr kt + (plan0 side kf th wi wo wn fb fl cn tq).1 (min side (kr + kt + kf)) = 1000 * ((SW ((21 * kr + kt) * 22 + 0) + RW (min side (kr + kt + kf)) : Nat) : Int) - ((SN ((21 * kr + kt) * 22 + 0) + RN (min side (kr + kt + kf)) : Nat) : Int) := by
                  rw [sbe]
                  omega
                have sp : 0 < sbT side kf th wi wo wn fb fl cn tq kr kt := by
                  rw [sbe]
                  omega
                refine lv_aload_n hx hb d_Mo_walk_41 rfl (lv_at hl 2 rfl) ?_
                refine va_get (D := D) (ci := 6) (v := .ref m9) (C := R_Mo) (T := T_Mo) (N := 22) hx hb hts (fun w h => List.mem_cons_of_mem _ (iw_Mo w h)) hown hK hP 0 rfl rfl 12 (by decide) (hts _ (List.mem_cons_of_mem _ k_557)) (fun _ h9 => h9) rfl d_Mo_walk_42 ?_
                refine lv_iload_n hx hb d_Mo_walk_45 rfl (lv_at hl 1 rfl) ?_
                refine lv_iload_n hx hb d_Mo_walk_46 rfl (lv_at hl 0 rfl) ?_
                refine lv_iconst (v := nI 0) hx hb d_Mo_walk_47 (by decide +kernel) ?_
                refine kcallR (r := .int (nI ((21 * kr + kt) * 22 + 0))) (va_runS (As := [.int (nI kr), .int (nI kt), .int (nI 0)]) (rest := [.ref m9]) ⟨hx, hb, hml, hown, hts⟩ (m_cell2 l D cI cJ cZ kr kt 0 ) ⟨callB_of 3 hts (gd kc_Mo_cell2) rfl rfl rfl (hts _ (List.mem_cons_of_mem _ k_8)) (hts _ (List.mem_cons_of_mem _ k_664)) (by decide +kernel) ⟨Nat.le_of_ble_eq_true rfl, Nat.le_of_ble_eq_true rfl⟩, hts _ (List.mem_cons_of_mem _ k_665)⟩ ⟨kR_blind, kR_at hP hK hZ [] rfl⟩ rfl rfl hl.1 rfl (lv_room (Nat.le_of_ble_eq_true rfl)) d_Mo_walk_48 ⟨Nat.zero_le _, Nat.zero_le _⟩) ?_
                refine ka_iald (k := ((21 * kr + kt) * 22 + 0)) (n := 9702) (f := fun j => nI (SW j)) (nI_t (by omega)) (by omega) hx hb hK hP 7 0 rfl rfl d_Mo_walk_51 ?_
                refine lv_aload_n hx hb d_Mo_walk_52 rfl (lv_at hl 2 rfl) ?_
                refine va_get (D := D) (ci := 6) (v := .ref m11) (C := R_Mo) (T := T_Mo) (N := 22) hx hb hts (fun w h => List.mem_cons_of_mem _ (iw_Mo w h)) hown hK hP 0 rfl rfl 14 (by decide) (hts _ (List.mem_cons_of_mem _ k_559)) (fun _ h9 => h9) rfl d_Mo_walk_53 ?_
                refine lv_aload_n hx hb d_Mo_walk_56 rfl (lv_at hl 2 rfl) ?_
                refine lv_iload_n hx hb d_Mo_walk_57 rfl (lv_at hl 1 rfl) ?_
                refine lv_iload_n hx hb d_Mo_walk_58 rfl (lv_at hl 0 rfl) ?_
                refine kcallR (r := .int (nI (min side (kr + kt + kf)))) (va_runV (As := [.int (nI kr), .int (nI kt)]) (rest := [.ref m11, .int (nI (SW ((21 * kr + kt) * 22 + 0)))]) ⟨hx, hb, hml, hown, hts⟩ (m_behind l D cI cJ cZ mo thr side kf m1 m2 cn m3 m4 m5 m6 m7 m8 m9 m10 m11 m12 sw tn tot ((layAll side kf cn tq th wi wo wn fb fl (plan0 side kf th wi wo wn fb fl cn tq).2 s0 kr).2.1) ((layAll side kf cn tq th wi wo wn fb fl (plan0 side kf th wi wo wn fb fl cn tq).2 s0 kr).2.2.1) m13 kr kt (by omega) (by omega) (by omega) (by omega)) ⟨callB_of 2 hts (gd kc_Mo_behind) rfl rfl rfl (hts _ (List.mem_cons_of_mem _ k_8)) (hts _ (List.mem_cons_of_mem _ k_695)) (by decide +kernel) ⟨Nat.le_of_ble_eq_true rfl, Nat.le_of_ble_eq_true rfl⟩, hts _ (List.mem_cons_of_mem _ k_697), hts _ (List.mem_cons_of_mem _ ks_25)⟩ ⟨kR_blind, va_recv hK hP (ci := 6) (q0 := 0) rfl rfl, kR_at hP hK hZ [0] rfl⟩ rfl rfl hl.1 rfl (lv_room (Nat.le_of_ble_eq_true rfl)) d_Mo_walk_59 ⟨Nat.zero_le _, Nat.zero_le _⟩) ?_
                refine ka_iald (k := (min side (kr + kt + kf))) (n := 21) (f := fun j => nI (RW j)) (nI_t (by omega)) (by omega) hx hb hK hP 9 0 rfl rfl d_Mo_walk_62 ?_
                refine lv_iadd hx hb d_Mo_walk_63 ?_
                refine ka_i (y := nI ((SW ((21 * kr + kt) * 22 + 0)) + (RW (min side (kr + kt + kf))))) (nI_add _ _) ?_
                refine lv_aload_n hx hb d_Mo_walk_64 rfl (lv_at hl 2 rfl) ?_
                refine va_get (D := D) (ci := 6) (v := .ref m11) (C := R_Mo) (T := T_Mo) (N := 22) hx hb hts (fun w h => List.mem_cons_of_mem _ (iw_Mo w h)) hown hK hP 0 rfl rfl 14 (by decide) (hts _ (List.mem_cons_of_mem _ k_559)) (fun _ h9 => h9) rfl d_Mo_walk_65 ?_
                refine lv_iload_n hx hb d_Mo_walk_68 rfl (lv_at hl 1 rfl) ?_
                refine ka_iald (k := kr) (n := 21) (f := fun j => nI (RW j)) (nI_t (by omega)) (by omega) hx hb hK hP 9 0 rfl rfl d_Mo_walk_69 ?_
                refine kb_cne (tgt := 105) (nI_t (by omega)) (nI_t (by omega)) hx hb d_Mo_walk_70 (by decide) (fun cw => ?_) (fun cw => ?_)
                · refine lv_iinc (v := nI (kt + 1)) (lv' := [(3, .int (nI (kt + 1))), (2, .int (nI kr)), (0, .ref mo), (1, .int (nI tq))]) hx hb d_Mo_walk_105 hl (k := 0) rfl (nI_add _ 1) (by decide) rfl (fun ls hl => ?_)
                  refine lv_goto (tgt := 22) hx hb d_Mo_walk_108 (by decide) ?_
                  exact ih (kt + 1) (by omega) (by omega) (fun i h1 hi hq => by
                    by_cases e : i = kt
                    · subst e
                      rw [rk, b1]
                      omega
                    · exact no i h1 (by omega) hq) _ _ hP hD hS ls (lv_sub hl [0, 1, 2, 3] rfl)
                · refine lv_aload_n hx hb d_Mo_walk_73 rfl (lv_at hl 2 rfl) ?_
                  refine va_get (D := D) (ci := 6) (v := .ref m10) (C := R_Mo) (T := T_Mo) (N := 22) hx hb hts (fun w h => List.mem_cons_of_mem _ (iw_Mo w h)) hown hK hP 0 rfl rfl 13 (by decide) (hts _ (List.mem_cons_of_mem _ k_558)) (fun _ h9 => h9) rfl d_Mo_walk_74 ?_
                  refine lv_iload_n hx hb d_Mo_walk_77 rfl (lv_at hl 1 rfl) ?_
                  refine lv_iload_n hx hb d_Mo_walk_78 rfl (lv_at hl 0 rfl) ?_
                  refine lv_iconst (v := nI 0) hx hb d_Mo_walk_79 (by decide +kernel) ?_
                  refine kcallR (r := .int (nI ((21 * kr + kt) * 22 + 0))) (va_runS (As := [.int (nI kr), .int (nI kt), .int (nI 0)]) (rest := [.ref m10]) ⟨hx, hb, hml, hown, hts⟩ (m_cell2 l D cI cJ cZ kr kt 0 ) ⟨callB_of 3 hts (gd kc_Mo_cell2) rfl rfl rfl (hts _ (List.mem_cons_of_mem _ k_8)) (hts _ (List.mem_cons_of_mem _ k_664)) (by decide +kernel) ⟨Nat.le_of_ble_eq_true rfl, Nat.le_of_ble_eq_true rfl⟩, hts _ (List.mem_cons_of_mem _ k_665)⟩ ⟨kR_blind, kR_at hP hK hZ [] rfl⟩ rfl rfl hl.1 rfl (lv_room (Nat.le_of_ble_eq_true rfl)) d_Mo_walk_80 ⟨Nat.zero_le _, Nat.zero_le _⟩) ?_
                  refine ka_iald (k := ((21 * kr + kt) * 22 + 0)) (n := 9702) (f := fun j => nI (SN j)) (nI_t (by omega)) (by omega) hx hb hK hP 8 0 rfl rfl d_Mo_walk_83 ?_
                  refine lv_aload_n hx hb d_Mo_walk_84 rfl (lv_at hl 2 rfl) ?_
                  refine va_get (D := D) (ci := 6) (v := .ref m12) (C := R_Mo) (T := T_Mo) (N := 22) hx hb hts (fun w h => List.mem_cons_of_mem _ (iw_Mo w h)) hown hK hP 0 rfl rfl 15 (by decide) (hts _ (List.mem_cons_of_mem _ k_560)) (fun _ h9 => h9) rfl d_Mo_walk_85 ?_
                  refine lv_aload_n hx hb d_Mo_walk_88 rfl (lv_at hl 2 rfl) ?_
                  refine lv_iload_n hx hb d_Mo_walk_89 rfl (lv_at hl 1 rfl) ?_
                  refine lv_iload_n hx hb d_Mo_walk_90 rfl (lv_at hl 0 rfl) ?_
                  refine kcallR (r := .int (nI (min side (kr + kt + kf)))) (va_runV (As := [.int (nI kr), .int (nI kt)]) (rest := [.ref m12, .int (nI (SN ((21 * kr + kt) * 22 + 0)))]) ⟨hx, hb, hml, hown, hts⟩ (m_behind l D cI cJ cZ mo thr side kf m1 m2 cn m3 m4 m5 m6 m7 m8 m9 m10 m11 m12 sw tn tot ((layAll side kf cn tq th wi wo wn fb fl (plan0 side kf th wi wo wn fb fl cn tq).2 s0 kr).2.1) ((layAll side kf cn tq th wi wo wn fb fl (plan0 side kf th wi wo wn fb fl cn tq).2 s0 kr).2.2.1) m13 kr kt (by omega) (by omega) (by omega) (by omega)) ⟨callB_of 2 hts (gd kc_Mo_behind) rfl rfl rfl (hts _ (List.mem_cons_of_mem _ k_8)) (hts _ (List.mem_cons_of_mem _ k_695)) (by decide +kernel) ⟨Nat.le_of_ble_eq_true rfl, Nat.le_of_ble_eq_true rfl⟩, hts _ (List.mem_cons_of_mem _ k_697), hts _ (List.mem_cons_of_mem _ ks_25)⟩ ⟨kR_blind, va_recv hK hP (ci := 6) (q0 := 0) rfl rfl, kR_at hP hK hZ [0] rfl⟩ rfl rfl hl.1 rfl (lv_room (Nat.le_of_ble_eq_true rfl)) d_Mo_walk_91 ⟨Nat.zero_le _, Nat.zero_le _⟩) ?_
                  refine ka_iald (k := (min side (kr + kt + kf))) (n := 21) (f := fun j => nI (RN j)) (nI_t (by omega)) (by omega) hx hb hK hP 10 0 rfl rfl d_Mo_walk_94 ?_
                  refine lv_iadd hx hb d_Mo_walk_95 ?_
                  refine ka_i (y := nI ((SN ((21 * kr + kt) * 22 + 0)) + (RN (min side (kr + kt + kf))))) (nI_add _ _) ?_
                  refine lv_aload_n hx hb d_Mo_walk_96 rfl (lv_at hl 2 rfl) ?_
                  refine va_get (D := D) (ci := 6) (v := .ref m12) (C := R_Mo) (T := T_Mo) (N := 22) hx hb hts (fun w h => List.mem_cons_of_mem _ (iw_Mo w h)) hown hK hP 0 rfl rfl 15 (by decide) (hts _ (List.mem_cons_of_mem _ k_560)) (fun _ h9 => h9) rfl d_Mo_walk_97 ?_
                  refine lv_iload_n hx hb d_Mo_walk_100 rfl (lv_at hl 1 rfl) ?_
                  refine ka_iald (k := kr) (n := 21) (f := fun j => nI (RN j)) (nI_t (by omega)) (by omega) hx hb hK hP 10 0 rfl rfl d_Mo_walk_101 ?_
                  refine kb_ceq (tgt := 111) (nI_t (by omega)) (nI_t (by omega)) hx hb d_Mo_walk_102 (by decide) (fun cn_ => ?_) (fun cn_ => ?_)
                  · refine lv_iload_n hx hb d_Mo_walk_111 rfl (lv_at hl 0 rfl) ?_
                    refine lv_aload_n hx hb d_Mo_walk_112 rfl (lv_at hl 2 rfl) ?_
                    refine va_get (D := D) (ci := 6) (v := .int (nI side)) (C := R_Mo) (T := T_Mo) (N := 22) hx hb hts (fun w h => List.mem_cons_of_mem _ (iw_Mo w h)) hown hK hP 0 rfl rfl 1 (by decide) (hts _ (List.mem_cons_of_mem _ k_546)) (fun _ h9 => h9) rfl d_Mo_walk_113 ?_
                    refine lv_iload_n hx hb d_Mo_walk_116 rfl (lv_at hl 1 rfl) ?_
                    refine lv_isub hx hb d_Mo_walk_117 ?_
                    refine ka_i (y := nI (side - kr)) (pk_sub (by omega)) ?_
                    refine kb_cgt (tgt := 148) (nI_t (by omega)) (nI_t (by omega)) hx hb d_Mo_walk_118 (by decide) (fun c_118 => ?_) (fun c_118 => ?_)
                    · exfalso; omega
                    · have sc : (plan0 side kf th wi wo wn fb fl cn tq).2 kr = kt := by
                        have er : sbT side kf th wi wo wn fb fl cn tq kr kt + (plan0 side kf th wi wo wn fb fl cn tq).1 (min side (kr + kt + kf)) = (plan0 side kf th wi wo wn fb fl cn tq).1 kr := by rw [rk, b1]; omega
                        rcases ff with ⟨g1, g2⟩ | ⟨i0, g0, g1, g2, g3, g4, g5, g6⟩
                        · have h9 := g2 kt (by omega) (by omega) sp
                          omega
                        · rcases Nat.lt_trichotomy i0 kt with h | h | h
                          · exact absurd g4 (no i0 g0 h g3)
                          · rw [g2, h]
                          · have h9 := g5 kt (by omega) h sp
                            omega
                      refine lv_aload_n hx hb d_Mo_walk_121 rfl (lv_at hl 2 rfl) ?_
                      refine lv_iload_n hx hb d_Mo_walk_122 rfl (lv_at hl 3 rfl) ?_
                      refine lv_iload_n hx hb d_Mo_walk_123 rfl (lv_at hl 1 rfl) ?_
                      refine lv_iload_n hx hb d_Mo_walk_124 rfl (lv_at hl 0 rfl) ?_
                      refine kcallv (wc := [(mo, .inr (6, [.int (nI thr), .int (nI side), .int (nI kf), .ref m1, .ref m2, .int (nI cn), .ref m3, .ref m4, .ref m5, .ref m6, .ref m7, .ref m8, .ref m9, .ref m10, .ref m11, .ref m12, .int (pI sw), .int (nI tn), .int (nI tot), .int (nI ((layAll side kf cn tq th wi wo wn fb fl (plan0 side kf th wi wo wn fb fl cn tq).2 s0 kr).2.1)), .int (nI ((layAll side kf cn tq th wi wo wn fb fl (plan0 side kf th wi wo wn fb fl cn tq).2 s0 kr).2.2.1)), .ref m13])), (m3, .inl (cI, 8, .inl (fun j => nI (th j)))), (m4, .inl (cI, 8, .inl (fun j => nI (wi j)))), (m5, .inl (cI, 8, .inl (fun j => nI (wo j)))), (m6, .inl (cI, 8, .inl (fun j => nI (wn j)))), (m7, .inl (cI, 441, .inl (fun j => nI (F3 j)))), (m8, .inl (cI, 441, .inl (fun j => nI (F4 j)))), (m9, .inl (cI, 9702, .inl (fun j => nI (SW j)))), (m10, .inl (cI, 9702, .inl (fun j => nI (SN j)))), (m13, .inl (cI, 2400, .inl (fun j => nI (TA j))))]) (wr := [(m11, .inl (cI, 21, .inl (fun j => nI (RW j)))), (m12, .inl (cI, 21, .inl (fun j => nI (RN j))))]) [0, 1, 2, 3, 4, 5, 6, 7, 8, 11] [9, 10] (va_runV (As := [.int (nI tq), .int (nI kr), .int (nI kt)]) (rest := []) ⟨hx, hb, hml, hown, hts⟩ (m_walkSlab l D cI cJ cZ H.size mo thr side kf m1 m2 cn m3 m4 m5 m6 m7 m8 m9 m10 m11 m12 sw tn tot ((layAll side kf cn tq th wi wo wn fb fl (plan0 side kf th wi wo wn fb fl cn tq).2 s0 kr).2.1) ((layAll side kf cn tq th wi wo wn fb fl (plan0 side kf th wi wo wn fb fl cn tq).2 s0 kr).2.2.1) m13 th wi wo wn F3 F4 SW SN TA fb fl ((layAll side kf cn tq th wi wo wn fb fl (plan0 side kf th wi wo wn fb fl cn tq).2 s0 kr).2.2) tq kr kt s2 k4 n8 tq1 (by omega) (by omega) ht hw hw1 ho hn hF hG hfb hfl bk0 rfl (by omega) ap_) ⟨callB_of 3 hts (gd kc_Mo_walkSlab) rfl rfl rfl (hts _ (List.mem_cons_of_mem _ k_8)) (hts _ (List.mem_cons_of_mem _ k_714)) (by decide +kernel) ⟨Nat.le_of_ble_eq_true rfl, Nat.le_of_ble_eq_true rfl⟩, hts _ (List.mem_cons_of_mem _ k_716), hts _ (List.mem_cons_of_mem _ ks_29)⟩ ⟨kB_blind, va_recv hK hP (ci := 6) (q0 := 0) rfl rfl, kB_at hP hD hK hZ [0, 1, 2, 3, 4, 5, 6, 7, 8, 11] rfl (by decide) rfl⟩ rfl rfl hl.1 rfl (lv_room (Nat.le_of_ble_eq_true rfl)) d_Mo_walk_125 ⟨Nat.zero_le _, Nat.zero_le _⟩) hP hD hS hA rfl rfl (by decide) (by decide) (fun TB H locs hw_125 hP hD hS => ?_)
                      have hP : va_P D vwCl [(m11, .inl (cI, 21, .inl (fun j => nI (RW j)))), (m12, .inl (cI, 21, .inl (fun j => nI (RN j)))), (mo, .inr (6, [.int (nI thr), .int (nI side), .int (nI kf), .ref m1, .ref m2, .int (nI cn), .ref m3, .ref m4, .ref m5, .ref m6, .ref m7, .ref m8, .ref m9, .ref m10, .ref m11, .ref m12, .int (pI sw), .int (nI tn), .int (nI tot), .int (nI ((layAll side kf cn tq th wi wo wn fb fl (plan0 side kf th wi wo wn fb fl cn tq).2 s0 kr).2.1)), .int (nI ((slabLay kf cn tq kr th wi (vaC side fl th wi wo tq kr) (slab0 side kf kt th wi (okC side fb th wi wn tq kr) (vaC side fl th wi wo tq kr) cn).2 ((layAll side kf cn tq th wi wo wn fb fl (plan0 side kf th wi wo wn fb fl cn tq).2 s0 kr).2.2) side).2.1)), .ref m13])), (m3, .inl (cI, 8, .inl (fun j => nI (th j)))), (m4, .inl (cI, 8, .inl (fun j => nI (wi j)))), (m5, .inl (cI, 8, .inl (fun j => nI (wo j)))), (m6, .inl (cI, 8, .inl (fun j => nI (wn j)))), (m7, .inl (cI, 441, .inl (fun j => nI (F3 j)))), (m8, .inl (cI, 441, .inl (fun j => nI (F4 j)))), (m9, .inl (cI, 9702, .inl (fun j => nI (SW j)))), (m10, .inl (cI, 9702, .inl (fun j => nI (SN j)))), (m13, .inl (cI, 2400, .inl (fun j => nI (TB j))))] H := hP
                      have hD : va_D A [(m11, .inl (cI, 21, .inl (fun j => nI (RW j)))), (m12, .inl (cI, 21, .inl (fun j => nI (RN j)))), (mo, .inr (6, [.int (nI thr), .int (nI side), .int (nI kf), .ref m1, .ref m2, .int (nI cn), .ref m3, .ref m4, .ref m5, .ref m6, .ref m7, .ref m8, .ref m9, .ref m10, .ref m11, .ref m12, .int (pI sw), .int (nI tn), .int (nI tot), .int (nI ((layAll side kf cn tq th wi wo wn fb fl (plan0 side kf th wi wo wn fb fl cn tq).2 s0 kr).2.1)), .int (nI ((slabLay kf cn tq kr th wi (vaC side fl th wi wo tq kr) (slab0 side kf kt th wi (okC side fb th wi wn tq kr) (vaC side fl th wi wo tq kr) cn).2 ((layAll side kf cn tq th wi wo wn fb fl (plan0 side kf th wi wo wn fb fl cn tq).2 s0 kr).2.2) side).2.1)), .ref m13])), (m3, .inl (cI, 8, .inl (fun j => nI (th j)))), (m4, .inl (cI, 8, .inl (fun j => nI (wi j)))), (m5, .inl (cI, 8, .inl (fun j => nI (wo j)))), (m6, .inl (cI, 8, .inl (fun j => nI (wn j)))), (m7, .inl (cI, 441, .inl (fun j => nI (F3 j)))), (m8, .inl (cI, 441, .inl (fun j => nI (F4 j)))), (m9, .inl (cI, 9702, .inl (fun j => nI (SW j)))), (m10, .inl (cI, 9702, .inl (fun j => nI (SN j)))), (m13, .inl (cI, 2400, .inl (fun j => nI (TB j))))] := hD
                      refine lv_aload_n hx hb d_Mo_walk_128 rfl (lv_at hl 2 rfl) ?_
                      refine lv_dup hx hb d_Mo_walk_129 rfl ?_
                      refine va_get (D := D) (ci := 6) (v := .int (nI ((layAll side kf cn tq th wi wo wn fb fl (plan0 side kf th wi wo wn fb fl cn tq).2 s0 kr).2.1))) (C := R_Mo) (T := T_Mo) (N := 22) hx hb hts (fun w h => List.mem_cons_of_mem _ (iw_Mo w h)) hown hK hP 2 rfl rfl 19 (by decide) (hts _ (List.mem_cons_of_mem _ k_564)) (fun _ h9 => h9) rfl d_Mo_walk_130 ?_
                      refine lv_iconst (v := nI 1) hx hb d_Mo_walk_133 (by decide +kernel) ?_
                      refine lv_iadd hx hb d_Mo_walk_134 ?_
                      refine ka_i (y := nI (((layAll side kf cn tq th wi wo wn fb fl (plan0 side kf th wi wo wn fb fl cn tq).2 s0 kr).2.1) + 1)) (nI_add _ _) ?_
                      refine va_put (D := D) (ci := 6) (v := .int (nI (((layAll side kf cn tq th wi wo wn fb fl (plan0 side kf th wi wo wn fb fl cn tq).2 s0 kr).2.1) + 1))) (ty := .int) (C := R_Mo) (T := T_Mo) (N := 22) hx hb hts (fun w h => List.mem_cons_of_mem _ (iw_Mo w h)) ty_Mo tyok_Mo nm_Mo hown hK hP hD hS 2 rfl rfl 19 (by decide) (hts _ (List.mem_cons_of_mem _ k_564)) (fun _ h9 => h9) rfl (by decide +kernel) (rfl) (rfl) (Nat.le_of_ble_eq_true rfl) d_Mo_walk_135 (fun H locs hP hD hS => ?_)
                      have hP : va_P D vwCl [(m11, .inl (cI, 21, .inl (fun j => nI (RW j)))), (m12, .inl (cI, 21, .inl (fun j => nI (RN j)))), (mo, .inr (6, [.int (nI thr), .int (nI side), .int (nI kf), .ref m1, .ref m2, .int (nI cn), .ref m3, .ref m4, .ref m5, .ref m6, .ref m7, .ref m8, .ref m9, .ref m10, .ref m11, .ref m12, .int (pI sw), .int (nI tn), .int (nI tot), .int (nI (((layAll side kf cn tq th wi wo wn fb fl (plan0 side kf th wi wo wn fb fl cn tq).2 s0 kr).2.1) + 1)), .int (nI ((slabLay kf cn tq kr th wi (vaC side fl th wi wo tq kr) (slab0 side kf kt th wi (okC side fb th wi wn tq kr) (vaC side fl th wi wo tq kr) cn).2 ((layAll side kf cn tq th wi wo wn fb fl (plan0 side kf th wi wo wn fb fl cn tq).2 s0 kr).2.2) side).2.1)), .ref m13])), (m3, .inl (cI, 8, .inl (fun j => nI (th j)))), (m4, .inl (cI, 8, .inl (fun j => nI (wi j)))), (m5, .inl (cI, 8, .inl (fun j => nI (wo j)))), (m6, .inl (cI, 8, .inl (fun j => nI (wn j)))), (m7, .inl (cI, 441, .inl (fun j => nI (F3 j)))), (m8, .inl (cI, 441, .inl (fun j => nI (F4 j)))), (m9, .inl (cI, 9702, .inl (fun j => nI (SW j)))), (m10, .inl (cI, 9702, .inl (fun j => nI (SN j)))), (m13, .inl (cI, 2400, .inl (fun j => nI (TB j))))] H := hP
                      have hD : va_D A [(m11, .inl (cI, 21, .inl (fun j => nI (RW j)))), (m12, .inl (cI, 21, .inl (fun j => nI (RN j)))), (mo, .inr (6, [.int (nI thr), .int (nI side), .int (nI kf), .ref m1, .ref m2, .int (nI cn), .ref m3, .ref m4, .ref m5, .ref m6, .ref m7, .ref m8, .ref m9, .ref m10, .ref m11, .ref m12, .int (pI sw), .int (nI tn), .int (nI tot), .int (nI (((layAll side kf cn tq th wi wo wn fb fl (plan0 side kf th wi wo wn fb fl cn tq).2 s0 kr).2.1) + 1)), .int (nI ((slabLay kf cn tq kr th wi (vaC side fl th wi wo tq kr) (slab0 side kf kt th wi (okC side fb th wi wn tq kr) (vaC side fl th wi wo tq kr) cn).2 ((layAll side kf cn tq th wi wo wn fb fl (plan0 side kf th wi wo wn fb fl cn tq).2 s0 kr).2.2) side).2.1)), .ref m13])), (m3, .inl (cI, 8, .inl (fun j => nI (th j)))), (m4, .inl (cI, 8, .inl (fun j => nI (wi j)))), (m5, .inl (cI, 8, .inl (fun j => nI (wo j)))), (m6, .inl (cI, 8, .inl (fun j => nI (wn j)))), (m7, .inl (cI, 441, .inl (fun j => nI (F3 j)))), (m8, .inl (cI, 441, .inl (fun j => nI (F4 j)))), (m9, .inl (cI, 9702, .inl (fun j => nI (SW j)))), (m10, .inl (cI, 9702, .inl (fun j => nI (SN j)))), (m13, .inl (cI, 2400, .inl (fun j => nI (TB j))))] := hD
                      refine lv_aload_n hx hb d_Mo_walk_138 rfl (lv_at hl 2 rfl) ?_
                      refine lv_iload_n hx hb d_Mo_walk_139 rfl (lv_at hl 1 rfl) ?_
                      refine lv_iload_n hx hb d_Mo_walk_140 rfl (lv_at hl 0 rfl) ?_
                      refine kcallR (r := .int (nI (min side (kr + kt + kf)))) (va_runV (As := [.int (nI kr), .int (nI kt)]) (rest := []) ⟨hx, hb, hml, hown, hts⟩ (m_behind l D cI cJ cZ mo thr side kf m1 m2 cn m3 m4 m5 m6 m7 m8 m9 m10 m11 m12 sw tn tot (((layAll side kf cn tq th wi wo wn fb fl (plan0 side kf th wi wo wn fb fl cn tq).2 s0 kr).2.1) + 1) ((slabLay kf cn tq kr th wi (vaC side fl th wi wo tq kr) (slab0 side kf kt th wi (okC side fb th wi wn tq kr) (vaC side fl th wi wo tq kr) cn).2 ((layAll side kf cn tq th wi wo wn fb fl (plan0 side kf th wi wo wn fb fl cn tq).2 s0 kr).2.2) side).2.1) m13 kr kt (by omega) (by omega) (by omega) (by omega)) ⟨callB_of 2 hts (gd kc_Mo_behind) rfl rfl rfl (hts _ (List.mem_cons_of_mem _ k_8)) (hts _ (List.mem_cons_of_mem _ k_695)) (by decide +kernel) ⟨Nat.le_of_ble_eq_true rfl, Nat.le_of_ble_eq_true rfl⟩, hts _ (List.mem_cons_of_mem _ k_697), hts _ (List.mem_cons_of_mem _ ks_25)⟩ ⟨kR_blind, va_recv hK hP (ci := 6) (q0 := 2) rfl rfl, kR_at hP hK hZ [2] rfl⟩ rfl rfl hl.1 rfl (lv_room (Nat.le_of_ble_eq_true rfl)) d_Mo_walk_141 ⟨Nat.zero_le _, Nat.zero_le _⟩) ?_
                      refine lv_istore_n (lv' := [(2, .int (nI (min side (kr + kt + kf)))), (3, .int (nI kt)), (0, .ref mo), (1, .int (nI tq))]) hx hb d_Mo_walk_144 rfl hl (by decide) rfl (fun ls hl => ?_)
                      refine lv_goto (tgt := 151) hx hb d_Mo_walk_145 (by decide) ?_
                      refine lv_goto (tgt := 12) hx hb d_Mo_walk_151 (by decide) ?_
                      have e1 : (layAll side kf cn tq th wi wo wn fb fl (plan0 side kf th wi wo wn fb fl cn tq).2 s0 (kr + 1)) = (kr + kt + kf, (layAll side kf cn tq th wi wo wn fb fl (plan0 side kf th wi wo wn fb fl cn tq).2 s0 kr).2.1 + 1, (slabLay kf cn tq kr th wi (vaC side fl th wi wo tq kr) (slab0 side kf kt th wi (okC side fb th wi wn tq kr) (vaC side fl th wi wo tq kr) cn).2 (layAll side kf cn tq th wi wo wn fb fl (plan0 side kf th wi wo wn fb fl cn tq).2 s0 kr).2.2 side).2) := by
                        show allStep side kf cn tq th wi wo wn fb fl (plan0 side kf th wi wo wn fb fl cn tq).2 kr _ = _
                        unfold allStep
                        rw [if_pos ⟨fr9, by omega⟩, sc]
                      have e2 : (layAll side kf cn tq th wi wo wn fb fl (plan0 side kf th wi wo wn fb fl cn tq).2 s0 (min side (kr + kt + kf))) = (layAll side kf cn tq th wi wo wn fb fl (plan0 side kf th wi wo wn fb fl cn tq).2 s0 (kr + 1)) := by
                        have h9 := layAll_wait (side := side) (kf := kf) (cn := cn) (tn := tq) (th := th) (wi := wi) (wo := wo) (wn := wn) (fb := fb) (fl := fl) (TR := (plan0 side kf th wi wo wn fb fl cn tq).2) (s0 := s0) (k0 := kr + 1) (min side (kr + kt + kf) - (kr + 1)) (by rw [e1]; dsimp only; omega)
                        rw [show kr + 1 + (min side (kr + kt + kf) - (kr + 1)) = min side (kr + kt + kf) by omega] at h9
                        exact h9
                      have eL := e2.trans e1
                      have ep : (layAll side kf cn tq th wi wo wn fb fl (plan0 side kf th wi wo wn fb fl cn tq).2 s0 (min side (kr + kt + kf))).2.2.1 = (slabLay kf cn tq kr th wi (vaC side fl th wi wo tq kr) (slab0 side kf kt th wi (okC side fb th wi wn tq kr) (vaC side fl th wi wo tq kr) cn).2 (layAll side kf cn tq th wi wo wn fb fl (plan0 side kf th wi wo wn fb fl cn tq).2 s0 kr).2.2 side).2.1 := by rw [eL]
                      have eq_ : (layAll side kf cn tq th wi wo wn fb fl (plan0 side kf th wi wo wn fb fl cn tq).2 s0 (min side (kr + kt + kf))).2.1 = (layAll side kf cn tq th wi wo wn fb fl (plan0 side kf th wi wo wn fb fl cn tq).2 s0 kr).2.1 + 1 := by rw [eL]
                      have ap2 : atP side th wi wo fl tq TB (layAll side kf cn tq th wi wo wn fb fl (plan0 side kf th wi wo wn fb fl cn tq).2 s0 (min side (kr + kt + kf))).2.2 := by
                        rw [eL]
                        exact hw_125
                      rw [← ep, ← eq_] at hP hD
                      exact iho (min side (kr + kt + kf)) TB (by omega) (by omega) (fun _ => by rw [eL]; dsimp only; omega) ap2 _ _ (hP.sub [2, 3, 4, 5, 6, 7, 8, 9, 10, 0, 1, 11] rfl) (hD.sub [2, 3, 4, 5, 6, 7, 8, 9, 10, 0, 1, 11] (by decide) rfl) hS ls (lv_sub hl [0, 2, 3] rfl)
                  · refine lv_iinc (v := nI (kt + 1)) (lv' := [(3, .int (nI (kt + 1))), (2, .int (nI kr)), (0, .ref mo), (1, .int (nI tq))]) hx hb d_Mo_walk_105 hl (k := 0) rfl (nI_add _ 1) (by decide) rfl (fun ls hl => ?_)
                    refine lv_goto (tgt := 22) hx hb d_Mo_walk_108 (by decide) ?_
                    exact ih (kt + 1) (by omega) (by omega) (fun i h1 hi hq => by
                      by_cases e : i = kt
                      · subst e
                        rw [rk, b1]
                        omega
                      · exact no i h1 (by omega) hq) _ _ hP hD hS ls (lv_sub hl [0, 1, 2, 3] rfl)
        exact lq (side - kr) 1 (by omega) (by omega) (fun i h1 hi => by omega) _ _ hP hD hS ls (lv_sub hl [0, 1, 2, 3] rfl)
  have e00 : (layAll side kf cn tq th wi wo wn fb fl (plan0 side kf th wi wo wn fb fl cn tq).2 s0 0).2.2.1 = 0 := s00
  have e01 : (layAll side kf cn tq th wi wo wn fb fl (plan0 side kf th wi wo wn fb fl cn tq).2 s0 0).2.1 = 0 := rfl
  have hP : va_P D vwCl [(mo, .inr (6, [.int (nI thr), .int (nI side), .int (nI kf), .ref m1, .ref m2, .int (nI cn), .ref m3, .ref m4, .ref m5, .ref m6, .ref m7, .ref m8, .ref m9, .ref m10, .ref m11, .ref m12, .int (pI sw), .int (nI tn), .int (nI tot), .int (nI ((layAll side kf cn tq th wi wo wn fb fl (plan0 side kf th wi wo wn fb fl cn tq).2 s0 0).2.1)), .int (nI ((layAll side kf cn tq th wi wo wn fb fl (plan0 side kf th wi wo wn fb fl cn tq).2 s0 0).2.2.1)), .ref m13])), (m3, .inl (cI, 8, .inl (fun j => nI (th j)))), (m4, .inl (cI, 8, .inl (fun j => nI (wi j)))), (m5, .inl (cI, 8, .inl (fun j => nI (wo j)))), (m6, .inl (cI, 8, .inl (fun j => nI (wn j)))), (m7, .inl (cI, 441, .inl (fun j => nI (F3 j)))), (m8, .inl (cI, 441, .inl (fun j => nI (F4 j)))), (m9, .inl (cI, 9702, .inl (fun j => nI (SW j)))), (m10, .inl (cI, 9702, .inl (fun j => nI (SN j)))), (m11, .inl (cI, 21, .inl (fun j => nI (RW j)))), (m12, .inl (cI, 21, .inl (fun j => nI (RN j)))), (m13, .inl (cI, 2400, .inl (fun j => nI (AT j))))] H := by rw [e00, e01]; exact hP
  have hD : va_D A [(mo, .inr (6, [.int (nI thr), .int (nI side), .int (nI kf), .ref m1, .ref m2, .int (nI cn), .ref m3, .ref m4, .ref m5, .ref m6, .ref m7, .ref m8, .ref m9, .ref m10, .ref m11, .ref m12, .int (pI sw), .int (nI tn), .int (nI tot), .int (nI ((layAll side kf cn tq th wi wo wn fb fl (plan0 side kf th wi wo wn fb fl cn tq).2 s0 0).2.1)), .int (nI ((layAll side kf cn tq th wi wo wn fb fl (plan0 side kf th wi wo wn fb fl cn tq).2 s0 0).2.2.1)), .ref m13])), (m3, .inl (cI, 8, .inl (fun j => nI (th j)))), (m4, .inl (cI, 8, .inl (fun j => nI (wi j)))), (m5, .inl (cI, 8, .inl (fun j => nI (wo j)))), (m6, .inl (cI, 8, .inl (fun j => nI (wn j)))), (m7, .inl (cI, 441, .inl (fun j => nI (F3 j)))), (m8, .inl (cI, 441, .inl (fun j => nI (F4 j)))), (m9, .inl (cI, 9702, .inl (fun j => nI (SW j)))), (m10, .inl (cI, 9702, .inl (fun j => nI (SN j)))), (m11, .inl (cI, 21, .inl (fun j => nI (RW j)))), (m12, .inl (cI, 21, .inl (fun j => nI (RN j)))), (m13, .inl (cI, 2400, .inl (fun j => nI (AT j))))] := by rw [e00, e01]; exact hD
  exact lp side 0 AT (by omega) (by omega) (fun _ => Nat.le_refl _) (fun k hk => by
    rw [e00] at hk
    exact absurd hk (Nat.not_lt_zero k)) _ _ hP hD hS ls (lv_sub hl [0, 1, 2] rfl)
