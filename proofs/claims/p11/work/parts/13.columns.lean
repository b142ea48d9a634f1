theorem d_Be_planColumn_0 : decode b_Be_planColumn 0 = .ok (.aload_n 0, 1) := by decide +kernel
theorem d_Be_planColumn_1 : decode b_Be_planColumn 1 = .ok (.getfield 37, 3) := by decide +kernel
theorem d_Be_planColumn_4 : decode b_Be_planColumn 4 = .ok (.iload_n 2, 1) := by decide +kernel
theorem d_Be_planColumn_5 : decode b_Be_planColumn 5 = .ok (.iconst 1, 1) := by decide +kernel
theorem d_Be_planColumn_6 : decode b_Be_planColumn 6 = .ok (.iadd, 1) := by decide +kernel
theorem d_Be_planColumn_7 : decode b_Be_planColumn 7 = .ok (.laload, 1) := by decide +kernel
theorem d_Be_planColumn_8 : decode b_Be_planColumn 8 = .ok (.lstore 4, 2) := by decide +kernel
theorem d_Be_planColumn_10 : decode b_Be_planColumn 10 = .ok (.iconst (-1), 1) := by decide +kernel
theorem d_Be_planColumn_11 : decode b_Be_planColumn 11 = .ok (.istore 6, 2) := by decide +kernel
theorem d_Be_planColumn_13 : decode b_Be_planColumn 13 = .ok (.iconst 0, 1) := by decide +kernel
theorem d_Be_planColumn_14 : decode b_Be_planColumn 14 = .ok (.istore 7, 2) := by decide +kernel
theorem d_Be_planColumn_16 : decode b_Be_planColumn 16 = .ok (.iload 7, 2) := by decide +kernel
theorem d_Be_planColumn_18 : decode b_Be_planColumn 18 = .ok (.aload_n 0, 1) := by decide +kernel
theorem d_Be_planColumn_19 : decode b_Be_planColumn 19 = .ok (.getfield 21, 3) := by decide +kernel
theorem d_Be_planColumn_22 : decode b_Be_planColumn 22 = .ok (.getfield 72, 3) := by decide +kernel
theorem d_Be_planColumn_25 : decode b_Be_planColumn 25 = .ok (.if_icmp .ge 148, 3) := by decide +kernel
theorem d_Be_planColumn_28 : decode b_Be_planColumn 28 = .ok (.aload_n 0, 1) := by decide +kernel
theorem d_Be_planColumn_29 : decode b_Be_planColumn 29 = .ok (.getfield 21, 3) := by decide +kernel
theorem d_Be_planColumn_32 : decode b_Be_planColumn 32 = .ok (.getfield 75, 3) := by decide +kernel
theorem d_Be_planColumn_35 : decode b_Be_planColumn 35 = .ok (.iload 7, 2) := by decide +kernel
theorem d_Be_planColumn_37 : decode b_Be_planColumn 37 = .ok (.iaload, 1) := by decide +kernel
theorem d_Be_planColumn_38 : decode b_Be_planColumn 38 = .ok (.iload_n 3, 1) := by decide +kernel
theorem d_Be_planColumn_39 : decode b_Be_planColumn 39 = .ok (.if_icmp .ne 128, 3) := by decide +kernel
theorem d_Be_planColumn_42 : decode b_Be_planColumn 42 = .ok (.aload_n 0, 1) := by decide +kernel
theorem d_Be_planColumn_43 : decode b_Be_planColumn 43 = .ok (.getfield 9, 3) := by decide +kernel
theorem d_Be_planColumn_46 : decode b_Be_planColumn 46 = .ok (.iload 7, 2) := by decide +kernel
theorem d_Be_planColumn_48 : decode b_Be_planColumn 48 = .ok (.aload_n 0, 1) := by decide +kernel
theorem d_Be_planColumn_49 : decode b_Be_planColumn 49 = .ok (.iload_n 1, 1) := by decide +kernel
theorem d_Be_planColumn_50 : decode b_Be_planColumn 50 = .ok (.iload_n 2, 1) := by decide +kernel
theorem d_Be_planColumn_51 : decode b_Be_planColumn 51 = .ok (.invokevirtual 78, 3) := by decide +kernel
theorem d_Be_planColumn_54 : decode b_Be_planColumn 54 = .ok (.aload_n 0, 1) := by decide +kernel
theorem d_Be_planColumn_55 : decode b_Be_planColumn 55 = .ok (.iload_n 1, 1) := by decide +kernel
theorem d_Be_planColumn_56 : decode b_Be_planColumn 56 = .ok (.iload_n 2, 1) := by decide +kernel
theorem d_Be_planColumn_57 : decode b_Be_planColumn 57 = .ok (.invokevirtual 81, 3) := by decide +kernel
theorem d_Be_planColumn_60 : decode b_Be_planColumn 60 = .ok (.aload_n 0, 1) := by decide +kernel
theorem d_Be_planColumn_61 : decode b_Be_planColumn 61 = .ok (.getfield 45, 3) := by decide +kernel
theorem d_Be_planColumn_64 : decode b_Be_planColumn 64 = .ok (.invokevirtual 84, 3) := by decide +kernel
theorem d_Be_planColumn_67 : decode b_Be_planColumn 67 = .ok (.ifCond .ne 6, 3) := by decide +kernel
theorem d_Be_planColumn_70 : decode b_Be_planColumn 70 = .ok (.goto 97, 3) := by decide +kernel
theorem d_Be_planColumn_73 : decode b_Be_planColumn 73 = .ok (.aload_n 0, 1) := by decide +kernel
theorem d_Be_planColumn_74 : decode b_Be_planColumn 74 = .ok (.getfield 9, 3) := by decide +kernel
theorem d_Be_planColumn_77 : decode b_Be_planColumn 77 = .ok (.iload 7, 2) := by decide +kernel
theorem d_Be_planColumn_79 : decode b_Be_planColumn 79 = .ok (.aload_n 0, 1) := by decide +kernel
theorem d_Be_planColumn_80 : decode b_Be_planColumn 80 = .ok (.iload_n 1, 1) := by decide +kernel
theorem d_Be_planColumn_81 : decode b_Be_planColumn 81 = .ok (.iload_n 2, 1) := by decide +kernel
theorem d_Be_planColumn_82 : decode b_Be_planColumn 82 = .ok (.invokevirtual 78, 3) := by decide +kernel
theorem d_Be_planColumn_85 : decode b_Be_planColumn 85 = .ok (.aload_n 0, 1) := by decide +kernel
theorem d_Be_planColumn_86 : decode b_Be_planColumn 86 = .ok (.iload_n 1, 1) := by decide +kernel
theorem d_Be_planColumn_87 : decode b_Be_planColumn 87 = .ok (.iload_n 2, 1) := by decide +kernel
theorem d_Be_planColumn_88 : decode b_Be_planColumn 88 = .ok (.invokevirtual 81, 3) := by decide +kernel
theorem d_Be_planColumn_91 : decode b_Be_planColumn 91 = .ok (.aload_n 0, 1) := by decide +kernel
theorem d_Be_planColumn_92 : decode b_Be_planColumn 92 = .ok (.getfield 45, 3) := by decide +kernel
theorem d_Be_planColumn_95 : decode b_Be_planColumn 95 = .ok (.invokevirtual 88, 3) := by decide +kernel
theorem d_Be_planColumn_98 : decode b_Be_planColumn 98 = .ok (.i2l, 1) := by decide +kernel
theorem d_Be_planColumn_99 : decode b_Be_planColumn 99 = .ok (.ldc2_w 43, 3) := by decide +kernel
theorem d_Be_planColumn_102 : decode b_Be_planColumn 102 = .ok (.lmul, 1) := by decide +kernel
theorem d_Be_planColumn_103 : decode b_Be_planColumn 103 = .ok (.lconst 1, 1) := by decide +kernel
theorem d_Be_planColumn_104 : decode b_Be_planColumn 104 = .ok (.lsub, 1) := by decide +kernel
theorem d_Be_planColumn_105 : decode b_Be_planColumn 105 = .ok (.aload_n 0, 1) := by decide +kernel
theorem d_Be_planColumn_106 : decode b_Be_planColumn 106 = .ok (.getfield 37, 3) := by decide +kernel
theorem d_Be_planColumn_109 : decode b_Be_planColumn 109 = .ok (.aload_n 0, 1) := by decide +kernel
theorem d_Be_planColumn_110 : decode b_Be_planColumn 110 = .ok (.getfield 22, 3) := by decide +kernel
theorem d_Be_planColumn_113 : decode b_Be_planColumn 113 = .ok (.iload_n 2, 1) := by decide +kernel
theorem d_Be_planColumn_114 : decode b_Be_planColumn 114 = .ok (.aload_n 0, 1) := by decide +kernel
theorem d_Be_planColumn_115 : decode b_Be_planColumn 115 = .ok (.getfield 21, 3) := by decide +kernel
theorem d_Be_planColumn_118 : decode b_Be_planColumn 118 = .ok (.getfield 92, 3) := by decide +kernel
theorem d_Be_planColumn_121 : decode b_Be_planColumn 121 = .ok (.iload 7, 2) := by decide +kernel
theorem d_Be_planColumn_123 : decode b_Be_planColumn 123 = .ok (.iaload, 1) := by decide +kernel
theorem d_Be_planColumn_124 : decode b_Be_planColumn 124 = .ok (.iadd, 1) := by decide +kernel
theorem d_Be_planColumn_125 : decode b_Be_planColumn 125 = .ok (.aload_n 0, 1) := by decide +kernel
theorem d_Be_planColumn_126 : decode b_Be_planColumn 126 = .ok (.getfield 26, 3) := by decide +kernel
theorem d_Be_planColumn_129 : decode b_Be_planColumn 129 = .ok (.iadd, 1) := by decide +kernel
theorem d_Be_planColumn_130 : decode b_Be_planColumn 130 = .ok (.invokestatic 62, 3) := by decide +kernel
theorem d_Be_planColumn_133 : decode b_Be_planColumn 133 = .ok (.laload, 1) := by decide +kernel
theorem d_Be_planColumn_134 : decode b_Be_planColumn 134 = .ok (.ladd, 1) := by decide +kernel
theorem d_Be_planColumn_135 : decode b_Be_planColumn 135 = .ok (.lstore 8, 2) := by decide +kernel
theorem d_Be_planColumn_137 : decode b_Be_planColumn 137 = .ok (.lload 8, 2) := by decide +kernel
theorem d_Be_planColumn_139 : decode b_Be_planColumn 139 = .ok (.lload 4, 2) := by decide +kernel
theorem d_Be_planColumn_141 : decode b_Be_planColumn 141 = .ok (.lcmp, 1) := by decide +kernel
theorem d_Be_planColumn_142 : decode b_Be_planColumn 142 = .ok (.ifCond .gt 17, 3) := by decide +kernel
theorem d_Be_planColumn_145 : decode b_Be_planColumn 145 = .ok (.lload 8, 2) := by decide +kernel
theorem d_Be_planColumn_147 : decode b_Be_planColumn 147 = .ok (.lload 4, 2) := by decide +kernel
theorem d_Be_planColumn_149 : decode b_Be_planColumn 149 = .ok (.lcmp, 1) := by decide +kernel
theorem d_Be_planColumn_150 : decode b_Be_planColumn 150 = .ok (.ifCond .ne 17, 3) := by decide +kernel
theorem d_Be_planColumn_153 : decode b_Be_planColumn 153 = .ok (.iload 6, 2) := by decide +kernel
theorem d_Be_planColumn_155 : decode b_Be_planColumn 155 = .ok (.iconst (-1), 1) := by decide +kernel
theorem d_Be_planColumn_156 : decode b_Be_planColumn 156 = .ok (.if_icmp .ne 11, 3) := by decide +kernel
theorem d_Be_planColumn_159 : decode b_Be_planColumn 159 = .ok (.lload 8, 2) := by decide +kernel
theorem d_Be_planColumn_161 : decode b_Be_planColumn 161 = .ok (.lstore 4, 2) := by decide +kernel
theorem d_Be_planColumn_163 : decode b_Be_planColumn 163 = .ok (.iload 7, 2) := by decide +kernel
theorem d_Be_planColumn_165 : decode b_Be_planColumn 165 = .ok (.istore 6, 2) := by decide +kernel
theorem d_Be_planColumn_167 : decode b_Be_planColumn 167 = .ok (.iinc 7 1, 3) := by decide +kernel
theorem d_Be_planColumn_170 : decode b_Be_planColumn 170 = .ok (.goto (-154), 3) := by decide +kernel
theorem d_Be_planColumn_173 : decode b_Be_planColumn 173 = .ok (.aload_n 0, 1) := by decide +kernel
theorem d_Be_planColumn_174 : decode b_Be_planColumn 174 = .ok (.getfield 37, 3) := by decide +kernel
theorem d_Be_planColumn_177 : decode b_Be_planColumn 177 = .ok (.iload_n 2, 1) := by decide +kernel
theorem d_Be_planColumn_178 : decode b_Be_planColumn 178 = .ok (.lload 4, 2) := by decide +kernel
theorem d_Be_planColumn_180 : decode b_Be_planColumn 180 = .ok (.lastore, 1) := by decide +kernel
theorem d_Be_planColumn_181 : decode b_Be_planColumn 181 = .ok (.aload_n 0, 1) := by decide +kernel
theorem d_Be_planColumn_182 : decode b_Be_planColumn 182 = .ok (.getfield 40, 3) := by decide +kernel
theorem d_Be_planColumn_185 : decode b_Be_planColumn 185 = .ok (.iload_n 2, 1) := by decide +kernel
theorem d_Be_planColumn_186 : decode b_Be_planColumn 186 = .ok (.iload 6, 2) := by decide +kernel
theorem d_Be_planColumn_188 : decode b_Be_planColumn 188 = .ok (.iastore, 1) := by decide +kernel
theorem d_Be_planColumn_189 : decode b_Be_planColumn 189 = .ok (.return_, 1) := by decide +kernel
set_option maxHeartbeats 4000000 in
set_option maxRecDepth 100000 in
theorem c_planColumn (l : Launch) (D : va_G) (cI cJ cZ : ClassId) (sz : Nat) (hb_ : Nat) (bo : Nat) (hz : Nat) (side : Nat) (kf : Nat) (tn : Nat) (r1 : Nat) (r2 : Nat) (r3 : Nat) (r4 : Nat) (h0 : Nat) (a1 : Nat) (a2 : Nat) (a3 : Nat) (a4 : Nat) (sm : Prop) (t1 : Nat) (t2 : Nat) (t3 : Nat) (t4 : Nat) (cn : Nat) (th : Nat → Nat) (wi : Nat → Nat) (wo : Nat → Nat) (wn : Nat → Nat) (F3 : Nat → Nat) (F4 : Nat → Nat) (fb : Nat → Nat → Nat) (fl : Nat → Nat → Nat) (RC : Nat → Int) (SC : Nat → Int) (row : Nat) (col : Nat) (thick : Nat) (s1 : 1 ≤ side) (s2 : side ≤ 20) (k4 : kf ≤ 4) (tn1 : tn ≤ 1) (n8 : cn ≤ 8) (ht : ∀ k, k < 8 → th k ≤ 20) (hw : ∀ k, k < 8 → wi k ≤ 20) (hw1 : ∀ k, k < cn → 1 ≤ wi k) (ho : ∀ k, k < 8 → wo k ≤ 100000) (hn : ∀ k, k < 8 → wn k ≤ 400) (m3 : ∀ X Y, X ≤ side → Y ≤ side → F3 (Y * (side + 1) + X) = psm fb X Y) (m4 : ∀ X Y, X ≤ side → Y ≤ side → F4 (Y * (side + 1) + X) = psm fl X Y) (hfb : ∀ i j, i < side → j < side → fb i j ≤ 10000) (hfl : ∀ i j, i < side → j < side → fl i j ≤ 10000) (hrow : row < side) (hcol : col < side) (hth : thick ≤ 20) (hR : ∀ j, col < j → j ≤ side → 0 ≤ RC j ∧ RC j ≤ 100001000 * ((side - j : Nat) : Int)) : Met l y_Be_planColumn w_Be_planColumn ({ frames := 2, cells := 0, slots := 0, locals := 52 }) (va_Pc [.ref hb_, .int (nI row), .int (nI col), .int (nI thick)] (kB D vwCl (tyL cI cJ cZ) sz [(hb_, .inr (1, [.ref bo, .ref hz, .int (nI side), .int (nI kf), .int (nI tn), .ref r1, .ref r2, .ref r3, .ref r4])), (bo, .inr (2, [.ref hz, .ref h0])), (h0, .inr (3, [.int (nI side), .ref a1, .ref a2, .ref a3, .ref a4, .int (pI sm)])), (hz, .inr (5, [.ref t1, .ref t2, .ref t3, .ref t4, .int (nI cn)])), (t1, .inl (cI, 8, .inl (fun j => nI (th j)))), (t2, .inl (cI, 8, .inl (fun j => nI (wi j)))), (t3, .inl (cI, 8, .inl (fun j => nI (wo j)))), (t4, .inl (cI, 8, .inl (fun j => nI (wn j)))), (a3, .inl (cI, ((side + 1) * (side + 1)), .inl (fun j => nI (F3 j)))), (a4, .inl (cI, ((side + 1) * (side + 1)), .inl (fun j => nI (F4 j)))), (r3, .inl (cJ, (side + 1), .inr (.inl (fun j => lI (RC j))))), (r4, .inl (cI, side, .inl (fun j => iI (SC j))))])) (va_Qv (fun (_ : Unit) => True) (fun (_ : Unit) t => kE D vwCl (va_A [(hb_, .inr (1, [.ref bo, .ref hz, .int (nI side), .int (nI kf), .int (nI tn), .ref r1, .ref r2, .ref r3, .ref r4])), (bo, .inr (2, [.ref hz, .ref h0])), (h0, .inr (3, [.int (nI side), .ref a1, .ref a2, .ref a3, .ref a4, .int (pI sm)])), (hz, .inr (5, [.ref t1, .ref t2, .ref t3, .ref t4, .int (nI cn)])), (t1, .inl (cI, 8, .inl (fun j => nI (th j)))), (t2, .inl (cI, 8, .inl (fun j => nI (wi j)))), (t3, .inl (cI, 8, .inl (fun j => nI (wo j)))), (t4, .inl (cI, 8, .inl (fun j => nI (wn j)))), (a3, .inl (cI, ((side + 1) * (side + 1)), .inl (fun j => nI (F3 j)))), (a4, .inl (cI, ((side + 1) * (side + 1)), .inl (fun j => nI (F4 j)))), (r3, .inl (cJ, (side + 1), .inr (.inl (fun j => lI (RC j))))), (r4, .inl (cI, side, .inl (fun j => iI (SC j))))] sz) [(hb_, .inr (1, [.ref bo, .ref hz, .int (nI side), .int (nI kf), .int (nI tn), .ref r1, .ref r2, .ref r3, .ref r4])), (bo, .inr (2, [.ref hz, .ref h0])), (h0, .inr (3, [.int (nI side), .ref a1, .ref a2, .ref a3, .ref a4, .int (pI sm)])), (hz, .inr (5, [.ref t1, .ref t2, .ref t3, .ref t4, .int (nI cn)])), (t1, .inl (cI, 8, .inl (fun j => nI (th j)))), (t2, .inl (cI, 8, .inl (fun j => nI (wi j)))), (t3, .inl (cI, 8, .inl (fun j => nI (wo j)))), (t4, .inl (cI, 8, .inl (fun j => nI (wn j)))), (a3, .inl (cI, ((side + 1) * (side + 1)), .inl (fun j => nI (F3 j)))), (a4, .inl (cI, ((side + 1) * (side + 1)), .inl (fun j => nI (F4 j)))), (r3, .inl (cJ, (side + 1), .inr (.inl (fun j => lI ((va_up RC col (colFold RC side kf col thick th wi (okC side fb th wi wn tn row col) (vaC side fl th wi wo tn row col) cn).1) j))))), (r4, .inl (cI, side, .inl (fun j => iI ((va_up SC col (colFold RC side kf col thick th wi (okC side fb th wi wn tn row col) (vaC side fl th wi wo tn row col) cn).2) j))))] t) (va_A [(hb_, .inr (1, [.ref bo, .ref hz, .int (nI side), .int (nI kf), .int (nI tn), .ref r1, .ref r2, .ref r3, .ref r4])), (bo, .inr (2, [.ref hz, .ref h0])), (h0, .inr (3, [.int (nI side), .ref a1, .ref a2, .ref a3, .ref a4, .int (pI sm)])), (hz, .inr (5, [.ref t1, .ref t2, .ref t3, .ref t4, .int (nI cn)])), (t1, .inl (cI, 8, .inl (fun j => nI (th j)))), (t2, .inl (cI, 8, .inl (fun j => nI (wi j)))), (t3, .inl (cI, 8, .inl (fun j => nI (wo j)))), (t4, .inl (cI, 8, .inl (fun j => nI (wn j)))), (a3, .inl (cI, ((side + 1) * (side + 1)), .inl (fun j => nI (F3 j)))), (a4, .inl (cI, ((side + 1) * (side + 1)), .inl (fun j => nI (F4 j)))), (r3, .inl (cJ, (side + 1), .inr (.inl (fun j => lI (RC j))))), (r4, .inl (cI, side, .inl (fun j => iI (SC j))))] sz)) 0 0 (va_A [(hb_, .inr (1, [.ref bo, .ref hz, .int (nI side), .int (nI kf), .int (nI tn), .ref r1, .ref r2, .ref r3, .ref r4])), (bo, .inr (2, [.ref hz, .ref h0])), (h0, .inr (3, [.int (nI side), .ref a1, .ref a2, .ref a3, .ref a4, .int (pI sm)])), (hz, .inr (5, [.ref t1, .ref t2, .ref t3, .ref t4, .int (nI cn)])), (t1, .inl (cI, 8, .inl (fun j => nI (th j)))), (t2, .inl (cI, 8, .inl (fun j => nI (wi j)))), (t3, .inl (cI, 8, .inl (fun j => nI (wo j)))), (t4, .inl (cI, 8, .inl (fun j => nI (wn j)))), (a3, .inl (cI, ((side + 1) * (side + 1)), .inl (fun j => nI (F3 j)))), (a4, .inl (cI, ((side + 1) * (side + 1)), .inl (fun j => nI (F4 j)))), (r3, .inl (cJ, (side + 1), .inr (.inl (fun j => lI (RC j))))), (r4, .inl (cI, side, .inl (fun j => iI (SC j))))] sz) := by
  refine Met.ofW (cc := b_Be_planColumn) (maxL := 10) (ret := none) (by decide) rfl ?_
  intro p e s m args below meth c s₁ B hml hv
  obtain ⟨rfl, hsz, hP, hK, hD0, hZ⟩ := hv
  have hx := B.exec
  have hb := B.bytes
  have hr := B.returns
  have hts := atoms_spec (ws := w_Be_planColumn) B.pre
  have hown : s.vm.findClass R_Be = some m.cls := findClass_of_methodNamed B.named
  have hlocks := B.notSynchronized
  subst hsz
  have hD := hD0.self (sz := s.heap.size)
  generalize hAe : va_A [(hb_, .inr (1, [.ref bo, .ref hz, .int (nI side), .int (nI kf), .int (nI tn), .ref r1, .ref r2, .ref r3, .ref r4])), (bo, .inr (2, [.ref hz, .ref h0])), (h0, .inr (3, [.int (nI side), .ref a1, .ref a2, .ref a3, .ref a4, .int (pI sm)])), (hz, .inr (5, [.ref t1, .ref t2, .ref t3, .ref t4, .int (nI cn)])), (t1, .inl (cI, 8, .inl (fun j => nI (th j)))), (t2, .inl (cI, 8, .inl (fun j => nI (wi j)))), (t3, .inl (cI, 8, .inl (fun j => nI (wo j)))), (t4, .inl (cI, 8, .inl (fun j => nI (wn j)))), (a3, .inl (cI, ((side + 1) * (side + 1)), .inl (fun j => nI (F3 j)))), (a4, .inl (cI, ((side + 1) * (side + 1)), .inl (fun j => nI (F4 j)))), (r3, .inl (cJ, (side + 1), .inr (.inl (fun j => lI (RC j))))), (r4, .inl (cI, side, .inl (fun j => iI (SC j))))] s.heap.size = A at hD ⊢
  have hA : ∀ q : Nat, s.heap.size ≤ q → A q := fun q h => by rw [← hAe]; exact Or.inr h
  have hS : va_S A s.heap s.heap [] := va_S.rf
  have hP : va_P D vwCl [(hb_, .inr (1, [.ref bo, .ref hz, .int (nI side), .int (nI kf), .int (nI tn), .ref r1, .ref r2, .ref r3, .ref r4])), (bo, .inr (2, [.ref hz, .ref h0])), (h0, .inr (3, [.int (nI side), .ref a1, .ref a2, .ref a3, .ref a4, .int (pI sm)])), (hz, .inr (5, [.ref t1, .ref t2, .ref t3, .ref t4, .int (nI cn)])), (t1, .inl (cI, 8, .inl (fun j => nI (th j)))), (t2, .inl (cI, 8, .inl (fun j => nI (wi j)))), (t3, .inl (cI, 8, .inl (fun j => nI (wo j)))), (t4, .inl (cI, 8, .inl (fun j => nI (wn j)))), (a3, .inl (cI, ((side + 1) * (side + 1)), .inl (fun j => nI (F3 j)))), (a4, .inl (cI, ((side + 1) * (side + 1)), .inl (fun j => nI (F4 j)))), (r3, .inl (cJ, (side + 1), .inr (.inl (fun j => lI (RC j))))), (r4, .inl (cI, side, .inl (fun j => iI (SC j))))] s.heap := hP
  have hl := lv_entry ([.ref hb_, .int (nI row), .int (nI col), .int (nI thick)]) (n := 10) (Nat.le_of_ble_eq_true rfl)
  rw [lg_entry_eq]
  generalize (lg_sl ([.ref hb_, .int (nI row), .int (nI col), .int (nI thick)]) ++ List.replicate (10 - (lg_sl ([.ref hb_, .int (nI row), .int (nI col), .int (nI thick)])).length) Slot.unset).toArray = ls at hl ⊢
  have hl : lv_has ls 10 [(0, .ref hb_), (1, .int (nI row)), (2, .int (nI col)), (3, .int (nI thick))] := hl
  have hB := fun k (hk : k ≤ cn) => colFold_bd (kf := kf) (thick := thick) (th := th) (ok := (okC side fb th wi wn tn row col)) (va := (vaC side fl th wi wo tn row col)) (wi := wi) hcol hR k (fun i hi => ⟨hw1 i (by omega), vaC_bd (ho i (by omega))⟩)
  have hrX := pX_le (tn := tn) (row := row) (col := col) (n := 20) (by omega) (by omega)
  have hrY := pY_le (tn := tn) (row := row) (col := col) (n := 20) (by omega) (by omega)
  refine lv_aload_n hx hb d_Be_planColumn_0 rfl (lv_at hl 0 rfl) ?_
  refine va_get (D := D) (ci := 1) (v := .ref r3) (C := R_Be) (T := T_Be) (N := 9) hx hb hts (fun w h => List.mem_cons_of_mem _ (iw_Be w h)) hown hK hP 0 rfl rfl 7 (by decide) (hts _ (List.mem_cons_of_mem _ k_114)) (fun _ h9 => h9) rfl d_Be_planColumn_1 ?_
  refine lv_iload_n hx hb d_Be_planColumn_4 rfl (lv_at hl 2 rfl) ?_
  refine lv_iconst (v := nI 1) hx hb d_Be_planColumn_5 (by decide +kernel) ?_
  refine lv_iadd hx hb d_Be_planColumn_6 ?_
  refine ka_i (y := nI (col + 1)) (nI_add _ _) ?_
  refine ka_lald (k := (col + 1)) (n := (side + 1)) (f := fun j => lI (RC j)) (nI_t (by omega)) (by omega) hx hb hK hP 10 1 rfl rfl d_Be_planColumn_7 ?_
  refine lv_lstore (lv' := [(4, .long (lI (RC (col + 1)))), (0, .ref hb_), (1, .int (nI row)), (2, .int (nI col)), (3, .int (nI thick))]) hx hb d_Be_planColumn_8 hl (by decide) rfl (fun ls hl => ?_)
  refine lv_iconst (v := iI (-1)) hx hb d_Be_planColumn_10 (by decide +kernel) ?_
  refine lv_istore (lv' := [(6, .int (iI (-1))), (4, .long (lI (RC (col + 1)))), (0, .ref hb_), (1, .int (nI row)), (2, .int (nI col)), (3, .int (nI thick))]) hx hb d_Be_planColumn_11 hl (by decide) rfl (fun ls hl => ?_)
  refine lv_iconst (v := nI 0) hx hb d_Be_planColumn_13 (by decide +kernel) ?_
  refine lv_istore (lv' := [(7, .int (nI 0)), (6, .int (iI (-1))), (4, .long (lI (RC (col + 1)))), (0, .ref hb_), (1, .int (nI row)), (2, .int (nI col)), (3, .int (nI thick))]) hx hb d_Be_planColumn_14 hl (by decide) rfl (fun ls hl => ?_)
  have lp : ∀ (n : Nat) (k : Nat) (b1 : Int) (b2 : Int), (k + n = cn) → (b1 = (colFold RC side kf col thick th wi (okC side fb th wi wn tn row col) (vaC side fl th wi wo tn row col) k).1) → (b2 = (colFold RC side kf col thick th wi (okC side fb th wi wn tn row col) (vaC side fl th wi wo tn row col) k).2) → ∀ (H : Heap) (locs : List Loc), va_P D vwCl [(hb_, .inr (1, [.ref bo, .ref hz, .int (nI side), .int (nI kf), .int (nI tn), .ref r1, .ref r2, .ref r3, .ref r4])), (bo, .inr (2, [.ref hz, .ref h0])), (h0, .inr (3, [.int (nI side), .ref a1, .ref a2, .ref a3, .ref a4, .int (pI sm)])), (hz, .inr (5, [.ref t1, .ref t2, .ref t3, .ref t4, .int (nI cn)])), (t1, .inl (cI, 8, .inl (fun j => nI (th j)))), (t2, .inl (cI, 8, .inl (fun j => nI (wi j)))), (t3, .inl (cI, 8, .inl (fun j => nI (wo j)))), (t4, .inl (cI, 8, .inl (fun j => nI (wn j)))), (a3, .inl (cI, ((side + 1) * (side + 1)), .inl (fun j => nI (F3 j)))), (a4, .inl (cI, ((side + 1) * (side + 1)), .inl (fun j => nI (F4 j)))), (r3, .inl (cJ, (side + 1), .inr (.inl (fun j => lI (RC j))))), (r4, .inl (cI, side, .inl (fun j => iI (SC j))))] H → va_D A [(hb_, .inr (1, [.ref bo, .ref hz, .int (nI side), .int (nI kf), .int (nI tn), .ref r1, .ref r2, .ref r3, .ref r4])), (bo, .inr (2, [.ref hz, .ref h0])), (h0, .inr (3, [.int (nI side), .ref a1, .ref a2, .ref a3, .ref a4, .int (pI sm)])), (hz, .inr (5, [.ref t1, .ref t2, .ref t3, .ref t4, .int (nI cn)])), (t1, .inl (cI, 8, .inl (fun j => nI (th j)))), (t2, .inl (cI, 8, .inl (fun j => nI (wi j)))), (t3, .inl (cI, 8, .inl (fun j => nI (wo j)))), (t4, .inl (cI, 8, .inl (fun j => nI (wn j)))), (a3, .inl (cI, ((side + 1) * (side + 1)), .inl (fun j => nI (F3 j)))), (a4, .inl (cI, ((side + 1) * (side + 1)), .inl (fun j => nI (F4 j)))), (r3, .inl (cJ, (side + 1), .inr (.inl (fun j => lI (RC j))))), (r4, .inl (cI, side, .inl (fun j => iI (SC j))))] → va_S A s.heap H locs → ∀ ls : Array Slot, lv_has ls 10 [(7, .int (nI k)), (6, .int (iI b2)), (4, .long (lI b1)), (0, .ref hb_), (1, .int (nI row)), (2, .int (nI col)), (3, .int (nI thick))] → W p l e (headSpec w_Be_planColumn ({ frames := 2, cells := 0, slots := 0, locals := 52 })).room s m ([.ref hb_, .int (nI row), .int (nI col), .int (nI thick)]).toArray below meth c H locs 0 0 (MQ below (va_Qv (fun (_ : Unit) => True) (fun (_ : Unit) t => kE D vwCl A [(hb_, .inr (1, [.ref bo, .ref hz, .int (nI side), .int (nI kf), .int (nI tn), .ref r1, .ref r2, .ref r3, .ref r4])), (bo, .inr (2, [.ref hz, .ref h0])), (h0, .inr (3, [.int (nI side), .ref a1, .ref a2, .ref a3, .ref a4, .int (pI sm)])), (hz, .inr (5, [.ref t1, .ref t2, .ref t3, .ref t4, .int (nI cn)])), (t1, .inl (cI, 8, .inl (fun j => nI (th j)))), (t2, .inl (cI, 8, .inl (fun j => nI (wi j)))), (t3, .inl (cI, 8, .inl (fun j => nI (wo j)))), (t4, .inl (cI, 8, .inl (fun j => nI (wn j)))), (a3, .inl (cI, ((side + 1) * (side + 1)), .inl (fun j => nI (F3 j)))), (a4, .inl (cI, ((side + 1) * (side + 1)), .inl (fun j => nI (F4 j)))), (r3, .inl (cJ, (side + 1), .inr (.inl (fun j => lI ((va_up RC col (colFold RC side kf col thick th wi (okC side fb th wi wn tn row col) (vaC side fl th wi wo tn row col) cn).1) j))))), (r4, .inl (cI, side, .inl (fun j => iI ((va_up SC col (colFold RC side kf col thick th wi (okC side fb th wi wn tn row col) (vaC side fl th wi wo tn row col) cn).2) j))))] t) A) ([.ref hb_, .int (nI row), .int (nI col), .int (nI thick)]).toArray s 0 0 A) (F0 m 16 ls []) := by
    intro n
    induction n with
    | zero =>
      intro k b1 b2 hi e1 e2 H locs hP hD hS ls hl
      refine lv_iload hx hb d_Be_planColumn_16 (lv_at hl 0 rfl) ?_
      refine lv_aload_n hx hb d_Be_planColumn_18 rfl (lv_at hl 3 rfl) ?_
      refine va_get (D := D) (ci := 1) (v := .ref hz) (C := R_Be) (T := T_Be) (N := 9) hx hb hts (fun w h => List.mem_cons_of_mem _ (iw_Be w h)) hown hK hP 0 rfl rfl 1 (by decide) (hts _ (List.mem_cons_of_mem _ k_108)) (fun _ h9 => h9) rfl d_Be_planColumn_19 ?_
      refine va_get (D := D) (ci := 5) (v := .int (nI cn)) (C := R_Si) (T := T_Si) (N := 5) hx hb hts (fun w h => List.mem_cons_of_mem _ (iw_Si w h)) hown hK hP 3 rfl rfl 4 (by decide) (hts _ (List.mem_cons_of_mem _ k_75)) (fun _ h9 => h9) rfl d_Be_planColumn_22 ?_
      refine kb_cge (tgt := 173) (nI_t (by omega)) (nI_t (by omega)) hx hb d_Be_planColumn_25 (by decide) (fun c_25 => ?_) (fun c_25 => ?_)
      · have ek : cn = k := by omega
        subst ek
        subst e1
        subst e2
        have q := hB cn (Nat.le_refl _)
        refine lv_aload_n hx hb d_Be_planColumn_173 rfl (lv_at hl 3 rfl) ?_
        refine va_get (D := D) (ci := 1) (v := .ref r3) (C := R_Be) (T := T_Be) (N := 9) hx hb hts (fun w h => List.mem_cons_of_mem _ (iw_Be w h)) hown hK hP 0 rfl rfl 7 (by decide) (hts _ (List.mem_cons_of_mem _ k_114)) (fun _ h9 => h9) rfl d_Be_planColumn_174 ?_
        refine lv_iload_n hx hb d_Be_planColumn_177 rfl (lv_at hl 5 rfl) ?_
        refine lv_lload hx hb d_Be_planColumn_178 (lv_at hl 2 rfl) ?_
        refine ka_lastI (F := RC) (v := ((colFold RC side kf col thick th wi (okC side fb th wi wn tn row col) (vaC side fl th wi wo tn row col) cn).1)) (k := col) (n := (side + 1)) (nI_t (by omega)) (by omega) hx hb hK hP hD hS 10 1 rfl rfl d_Be_planColumn_180 (fun H locs hP hD hS => ?_)
        have hP : va_P D vwCl [(hb_, .inr (1, [.ref bo, .ref hz, .int (nI side), .int (nI kf), .int (nI tn), .ref r1, .ref r2, .ref r3, .ref r4])), (bo, .inr (2, [.ref hz, .ref h0])), (h0, .inr (3, [.int (nI side), .ref a1, .ref a2, .ref a3, .ref a4, .int (pI sm)])), (hz, .inr (5, [.ref t1, .ref t2, .ref t3, .ref t4, .int (nI cn)])), (t1, .inl (cI, 8, .inl (fun j => nI (th j)))), (t2, .inl (cI, 8, .inl (fun j => nI (wi j)))), (t3, .inl (cI, 8, .inl (fun j => nI (wo j)))), (t4, .inl (cI, 8, .inl (fun j => nI (wn j)))), (a3, .inl (cI, ((side + 1) * (side + 1)), .inl (fun j => nI (F3 j)))), (a4, .inl (cI, ((side + 1) * (side + 1)), .inl (fun j => nI (F4 j)))), (r3, .inl (cJ, (side + 1), .inr (.inl (fun j => lI ((va_up RC col ((colFold RC side kf col thick th wi (okC side fb th wi wn tn row col) (vaC side fl th wi wo tn row col) cn).1)) j))))), (r4, .inl (cI, side, .inl (fun j => iI (SC j))))] H := hP
        have hD : va_D A [(hb_, .inr (1, [.ref bo, .ref hz, .int (nI side), .int (nI kf), .int (nI tn), .ref r1, .ref r2, .ref r3, .ref r4])), (bo, .inr (2, [.ref hz, .ref h0])), (h0, .inr (3, [.int (nI side), .ref a1, .ref a2, .ref a3, .ref a4, .int (pI sm)])), (hz, .inr (5, [.ref t1, .ref t2, .ref t3, .ref t4, .int (nI cn)])), (t1, .inl (cI, 8, .inl (fun j => nI (th j)))), (t2, .inl (cI, 8, .inl (fun j => nI (wi j)))), (t3, .inl (cI, 8, .inl (fun j => nI (wo j)))), (t4, .inl (cI, 8, .inl (fun j => nI (wn j)))), (a3, .inl (cI, ((side + 1) * (side + 1)), .inl (fun j => nI (F3 j)))), (a4, .inl (cI, ((side + 1) * (side + 1)), .inl (fun j => nI (F4 j)))), (r3, .inl (cJ, (side + 1), .inr (.inl (fun j => lI ((va_up RC col ((colFold RC side kf col thick th wi (okC side fb th wi wn tn row col) (vaC side fl th wi wo tn row col) cn).1)) j))))), (r4, .inl (cI, side, .inl (fun j => iI (SC j))))] := hD
        refine lv_aload_n hx hb d_Be_planColumn_181 rfl (lv_at hl 3 rfl) ?_
        refine va_get (D := D) (ci := 1) (v := .ref r4) (C := R_Be) (T := T_Be) (N := 9) hx hb hts (fun w h => List.mem_cons_of_mem _ (iw_Be w h)) hown hK hP 0 rfl rfl 8 (by decide) (hts _ (List.mem_cons_of_mem _ k_115)) (fun _ h9 => h9) rfl d_Be_planColumn_182 ?_
        refine lv_iload_n hx hb d_Be_planColumn_185 rfl (lv_at hl 5 rfl) ?_
        refine lv_iload hx hb d_Be_planColumn_186 (lv_at hl 1 rfl) ?_
        refine ka_iastI (F := SC) (v := ((colFold RC side kf col thick th wi (okC side fb th wi wn tn row col) (vaC side fl th wi wo tn row col) cn).2)) (k := col) (n := side) (nI_t (by omega)) (by omega) hx hb hK hP hD hS 11 0 rfl rfl d_Be_planColumn_188 (fun H locs hP hD hS => ?_)
        have hP : va_P D vwCl [(hb_, .inr (1, [.ref bo, .ref hz, .int (nI side), .int (nI kf), .int (nI tn), .ref r1, .ref r2, .ref r3, .ref r4])), (bo, .inr (2, [.ref hz, .ref h0])), (h0, .inr (3, [.int (nI side), .ref a1, .ref a2, .ref a3, .ref a4, .int (pI sm)])), (hz, .inr (5, [.ref t1, .ref t2, .ref t3, .ref t4, .int (nI cn)])), (t1, .inl (cI, 8, .inl (fun j => nI (th j)))), (t2, .inl (cI, 8, .inl (fun j => nI (wi j)))), (t3, .inl (cI, 8, .inl (fun j => nI (wo j)))), (t4, .inl (cI, 8, .inl (fun j => nI (wn j)))), (a3, .inl (cI, ((side + 1) * (side + 1)), .inl (fun j => nI (F3 j)))), (a4, .inl (cI, ((side + 1) * (side + 1)), .inl (fun j => nI (F4 j)))), (r3, .inl (cJ, (side + 1), .inr (.inl (fun j => lI ((va_up RC col ((colFold RC side kf col thick th wi (okC side fb th wi wn tn row col) (vaC side fl th wi wo tn row col) cn).1)) j))))), (r4, .inl (cI, side, .inl (fun j => iI ((va_up SC col ((colFold RC side kf col thick th wi (okC side fb th wi wn tn row col) (vaC side fl th wi wo tn row col) cn).2)) j))))] H := hP
        have hD : va_D A [(hb_, .inr (1, [.ref bo, .ref hz, .int (nI side), .int (nI kf), .int (nI tn), .ref r1, .ref r2, .ref r3, .ref r4])), (bo, .inr (2, [.ref hz, .ref h0])), (h0, .inr (3, [.int (nI side), .ref a1, .ref a2, .ref a3, .ref a4, .int (pI sm)])), (hz, .inr (5, [.ref t1, .ref t2, .ref t3, .ref t4, .int (nI cn)])), (t1, .inl (cI, 8, .inl (fun j => nI (th j)))), (t2, .inl (cI, 8, .inl (fun j => nI (wi j)))), (t3, .inl (cI, 8, .inl (fun j => nI (wo j)))), (t4, .inl (cI, 8, .inl (fun j => nI (wn j)))), (a3, .inl (cI, ((side + 1) * (side + 1)), .inl (fun j => nI (F3 j)))), (a4, .inl (cI, ((side + 1) * (side + 1)), .inl (fun j => nI (F4 j)))), (r3, .inl (cJ, (side + 1), .inr (.inl (fun j => lI ((va_up RC col ((colFold RC side kf col thick th wi (okC side fb th wi wn tn row col) (vaC side fl th wi wo tn row col) cn).1)) j))))), (r4, .inl (cI, side, .inl (fun j => iI ((va_up SC col ((colFold RC side kf col thick th wi (okC side fb th wi wn tn row col) (vaC side fl th wi wo tn row col) cn).2)) j))))] := hD
        exact kretv (u := ()) hx hb hr hP hD hS hlocks rfl (trivial) d_Be_planColumn_189
      · exfalso; omega
    | succ n ih =>
      intro k b1 b2 hi e1 e2 H locs hP hD hS ls hl
      refine lv_iload hx hb d_Be_planColumn_16 (lv_at hl 0 rfl) ?_
      refine lv_aload_n hx hb d_Be_planColumn_18 rfl (lv_at hl 3 rfl) ?_
      refine va_get (D := D) (ci := 1) (v := .ref hz) (C := R_Be) (T := T_Be) (N := 9) hx hb hts (fun w h => List.mem_cons_of_mem _ (iw_Be w h)) hown hK hP 0 rfl rfl 1 (by decide) (hts _ (List.mem_cons_of_mem _ k_108)) (fun _ h9 => h9) rfl d_Be_planColumn_19 ?_
      refine va_get (D := D) (ci := 5) (v := .int (nI cn)) (C := R_Si) (T := T_Si) (N := 5) hx hb hts (fun w h => List.mem_cons_of_mem _ (iw_Si w h)) hown hK hP 3 rfl rfl 4 (by decide) (hts _ (List.mem_cons_of_mem _ k_75)) (fun _ h9 => h9) rfl d_Be_planColumn_22 ?_
      refine kb_cge (tgt := 173) (nI_t (by omega)) (nI_t (by omega)) hx hb d_Be_planColumn_25 (by decide) (fun c_25 => ?_) (fun c_25 => ?_)
      · exfalso; omega
      · have q := hB k (by omega)
        rw [← e1, ← e2] at q
        have q3 := hw1 k (by omega)
        have q4 := ht k (by omega)
        have q5 := hw k (by omega)
        have q6 := rkC_bd (kf := kf) (wi := wi) (va := (vaC side fl th wi wo tn row col)) (i := k) hcol s2 hR ⟨q3, vaC_bd (ho k (by omega))⟩
        have q7 := vaC_bd (side := side) (fl := fl) (th := th) (wi := wi) (tn := tn) (row := row) (col := col) (ho k (by omega))
        have q8 := hR (min side (col + wi k + kf)) (by omega) (by omega)
        have es : (colFold RC side kf col thick th wi (okC side fb th wi wn tn row col) (vaC side fl th wi wo tn row col) (k + 1)) = colStep RC side kf col thick th wi (okC side fb th wi wn tn row col) (vaC side fl th wi wo tn row col) k (b1, b2) := by
          rw [e1, e2]; rfl
        refine lv_aload_n hx hb d_Be_planColumn_28 rfl (lv_at hl 3 rfl) ?_
        refine va_get (D := D) (ci := 1) (v := .ref hz) (C := R_Be) (T := T_Be) (N := 9) hx hb hts (fun w h => List.mem_cons_of_mem _ (iw_Be w h)) hown hK hP 0 rfl rfl 1 (by decide) (hts _ (List.mem_cons_of_mem _ k_108)) (fun _ h9 => h9) rfl d_Be_planColumn_29 ?_
        refine va_get (D := D) (ci := 5) (v := .ref t1) (C := R_Si) (T := T_Si) (N := 5) hx hb hts (fun w h => List.mem_cons_of_mem _ (iw_Si w h)) hown hK hP 3 rfl rfl 0 (by decide) (hts _ (List.mem_cons_of_mem _ k_66)) (fun _ h9 => h9) rfl d_Be_planColumn_32 ?_
        refine lv_iload hx hb d_Be_planColumn_35 (lv_at hl 0 rfl) ?_
        refine ka_iald (k := k) (n := 8) (f := fun j => nI (th j)) (nI_t (by omega)) (by omega) hx hb hK hP 4 0 rfl rfl d_Be_planColumn_37 ?_
        refine lv_iload_n hx hb d_Be_planColumn_38 rfl (lv_at hl 6 rfl) ?_
        refine kb_cne (tgt := 167) (nI_t (by omega)) (nI_t (by omega)) hx hb d_Be_planColumn_39 (by decide) (fun ct => ?_) (fun ct => ?_)
        · refine lv_iinc (v := nI (k + 1)) (lv' := [(7, .int (nI (k + 1))), (6, .int (iI b2)), (4, .long (lI b1)), (0, .ref hb_), (1, .int (nI row)), (2, .int (nI col)), (3, .int (nI thick))]) hx hb d_Be_planColumn_167 hl (k := 0) rfl (nI_add _ 1) (by decide) rfl (fun ls hl => ?_)
          refine lv_goto (tgt := 16) hx hb d_Be_planColumn_170 (by decide) ?_
          exact ih (k + 1) b1 b2 (by omega) (by rw [es]; unfold colStep; rw [cif_f (fun h => by have h9 := h.1.1; omega)]) (by rw [es]; unfold colStep; rw [cif_f (fun h => by have h9 := h.1.1; omega)]) _ _ hP hD hS ls (lv_sub hl [0, 1, 2, 3, 4, 5, 6] rfl)
        · refine lv_aload_n hx hb d_Be_planColumn_42 rfl (lv_at hl 3 rfl) ?_
          refine va_get (D := D) (ci := 1) (v := .ref bo) (C := R_Be) (T := T_Be) (N := 9) hx hb hts (fun w h => List.mem_cons_of_mem _ (iw_Be w h)) hown hK hP 0 rfl rfl 0 (by decide) (hts _ (List.mem_cons_of_mem _ k_107)) (fun _ h9 => h9) rfl d_Be_planColumn_43 ?_
          refine lv_iload hx hb d_Be_planColumn_46 (lv_at hl 0 rfl) ?_
          refine lv_aload_n hx hb d_Be_planColumn_48 rfl (lv_at hl 3 rfl) ?_
          refine lv_iload_n hx hb d_Be_planColumn_49 rfl (lv_at hl 4 rfl) ?_
          refine lv_iload_n hx hb d_Be_planColumn_50 rfl (lv_at hl 5 rfl) ?_
          refine kcallR (r := .int (nI (if tn = 0 then col else row))) (va_runV (As := [.int (nI row), .int (nI col)]) (rest := [.int (nI k), .ref bo]) ⟨hx, hb, hml, hown, hts⟩ (c_xAt l D cI cJ cZ hb_ bo hz side kf tn r1 r2 r3 r4 row col (by omega)) ⟨callB_of 2 hts (gd kc_Be_xAt) rfl rfl rfl (hts _ (List.mem_cons_of_mem _ k_6)) (hts _ (List.mem_cons_of_mem _ k_232)) (by decide +kernel) ⟨Nat.le_of_ble_eq_true rfl, Nat.le_of_ble_eq_true rfl⟩, hts _ (List.mem_cons_of_mem _ k_234), hts _ (List.mem_cons_of_mem _ ks_4)⟩ ⟨kR_blind, va_recv hK hP (ci := 1) (q0 := 0) rfl rfl, kR_at hP hK hZ [0] rfl⟩ rfl rfl hl.1 rfl (lv_room (Nat.le_of_ble_eq_true rfl)) d_Be_planColumn_51 ⟨Nat.zero_le _, Nat.zero_le _⟩) ?_
          refine ka_i (y := nI (pX tn row col)) (rfl) ?_
          refine lv_aload_n hx hb d_Be_planColumn_54 rfl (lv_at hl 3 rfl) ?_
          refine lv_iload_n hx hb d_Be_planColumn_55 rfl (lv_at hl 4 rfl) ?_
          refine lv_iload_n hx hb d_Be_planColumn_56 rfl (lv_at hl 5 rfl) ?_
          refine kcallR (r := .int (nI (if tn = 0 then row else col))) (va_runV (As := [.int (nI row), .int (nI col)]) (rest := [.int (nI (pX tn row col)), .int (nI k), .ref bo]) ⟨hx, hb, hml, hown, hts⟩ (c_yAt l D cI cJ cZ hb_ bo hz side kf tn r1 r2 r3 r4 row col (by omega)) ⟨callB_of 2 hts (gd kc_Be_yAt) rfl rfl rfl (hts _ (List.mem_cons_of_mem _ k_6)) (hts _ (List.mem_cons_of_mem _ k_236)) (by decide +kernel) ⟨Nat.le_of_ble_eq_true rfl, Nat.le_of_ble_eq_true rfl⟩, hts _ (List.mem_cons_of_mem _ k_238), hts _ (List.mem_cons_of_mem _ ks_5)⟩ ⟨kR_blind, va_recv hK hP (ci := 1) (q0 := 0) rfl rfl, kR_at hP hK hZ [0] rfl⟩ rfl rfl hl.1 rfl (lv_room (Nat.le_of_ble_eq_true rfl)) d_Be_planColumn_57 ⟨Nat.zero_le _, Nat.zero_le _⟩) ?_
          refine ka_i (y := nI (pY tn row col)) (rfl) ?_
          refine lv_aload_n hx hb d_Be_planColumn_60 rfl (lv_at hl 3 rfl) ?_
          refine va_get (D := D) (ci := 1) (v := .int (nI tn)) (C := R_Be) (T := T_Be) (N := 9) hx hb hts (fun w h => List.mem_cons_of_mem _ (iw_Be w h)) hown hK hP 0 rfl rfl 4 (by decide) (hts _ (List.mem_cons_of_mem _ k_111)) (fun _ h9 => h9) rfl d_Be_planColumn_61 ?_
          refine kcallR (r := .int (pI (0 ≤ sumZ fb side ((pX tn row col : Nat) : Int) ((pY tn row col : Nat) : Int) (if ((tn : Nat) : Int) = 0 then wi k else th k) (if ((tn : Nat) : Int) = 0 then th k else wi k) ∧ sumZ fb side ((pX tn row col : Nat) : Int) ((pY tn row col : Nat) : Int) (if ((tn : Nat) : Int) = 0 then wi k else th k) (if ((tn : Nat) : Int) = 0 then th k else wi k) ≤ (wn k : Int)))) (va_runV (As := [.int (nI k), .int (nI (pX tn row col)), .int (nI (pY tn row col)), .int (nI tn)]) (rest := []) ⟨hx, hb, hml, hown, hts⟩ (c_fits l D cI cJ cZ bo h0 side a1 a2 a3 a4 sm hz t1 t2 t3 t4 cn th wi wn F3 fb k (nI (pX tn row col)) (nI (pY tn row col)) ((pX tn row col : Nat) : Int) ((pY tn row col : Nat) : Int) (nI tn) ((tn : Nat) : Int) (by omega) (by omega) ht hw (nI_t (by omega)) (nI_t (by omega)) (nI_t (by omega)) m3 hfb hn) ⟨callB_of 4 hts (gd kc_Bo_fits) rfl rfl rfl (hts _ (List.mem_cons_of_mem _ k_5)) (hts _ (List.mem_cons_of_mem _ k_240)) (by decide +kernel) ⟨Nat.le_of_ble_eq_true rfl, Nat.le_of_ble_eq_true rfl⟩, hts _ (List.mem_cons_of_mem _ k_241), hts _ (List.mem_cons_of_mem _ k_242)⟩ ⟨kR_blind, va_recv hK hP (ci := 2) (q0 := 1) rfl rfl, kR_at hP hK hZ [1, 2, 3, 4, 5, 7, 8] rfl⟩ rfl rfl hl.1 rfl (lv_room (Nat.le_of_ble_eq_true rfl)) d_Be_planColumn_64 ⟨Nat.zero_le _, Nat.zero_le _⟩) ?_
          refine ka_i (y := pI (okC side fb th wi wn tn row col k)) (rfl) ?_
          refine kb_neP (tgt := 73) hx hb d_Be_planColumn_67 (by decide) (fun cf => ?_) (fun cf => ?_)
          · refine lv_aload_n hx hb d_Be_planColumn_73 rfl (lv_at hl 3 rfl) ?_
            refine va_get (D := D) (ci := 1) (v := .ref bo) (C := R_Be) (T := T_Be) (N := 9) hx hb hts (fun w h => List.mem_cons_of_mem _ (iw_Be w h)) hown hK hP 0 rfl rfl 0 (by decide) (hts _ (List.mem_cons_of_mem _ k_107)) (fun _ h9 => h9) rfl d_Be_planColumn_74 ?_
            refine lv_iload hx hb d_Be_planColumn_77 (lv_at hl 0 rfl) ?_
            refine lv_aload_n hx hb d_Be_planColumn_79 rfl (lv_at hl 3 rfl) ?_
            refine lv_iload_n hx hb d_Be_planColumn_80 rfl (lv_at hl 4 rfl) ?_
            refine lv_iload_n hx hb d_Be_planColumn_81 rfl (lv_at hl 5 rfl) ?_
            refine kcallR (r := .int (nI (if tn = 0 then col else row))) (va_runV (As := [.int (nI row), .int (nI col)]) (rest := [.int (nI k), .ref bo]) ⟨hx, hb, hml, hown, hts⟩ (c_xAt l D cI cJ cZ hb_ bo hz side kf tn r1 r2 r3 r4 row col (by omega)) ⟨callB_of 2 hts (gd kc_Be_xAt) rfl rfl rfl (hts _ (List.mem_cons_of_mem _ k_6)) (hts _ (List.mem_cons_of_mem _ k_232)) (by decide +kernel) ⟨Nat.le_of_ble_eq_true rfl, Nat.le_of_ble_eq_true rfl⟩, hts _ (List.mem_cons_of_mem _ k_234), hts _ (List.mem_cons_of_mem _ ks_4)⟩ ⟨kR_blind, va_recv hK hP (ci := 1) (q0 := 0) rfl rfl, kR_at hP hK hZ [0] rfl⟩ rfl rfl hl.1 rfl (lv_room (Nat.le_of_ble_eq_true rfl)) d_Be_planColumn_82 ⟨Nat.zero_le _, Nat.zero_le _⟩) ?_
            refine ka_i (y := nI (pX tn row col)) (rfl) ?_
            refine lv_aload_n hx hb d_Be_planColumn_85 rfl (lv_at hl 3 rfl) ?_
            refine lv_iload_n hx hb d_Be_planColumn_86 rfl (lv_at hl 4 rfl) ?_
            refine lv_iload_n hx hb d_Be_planColumn_87 rfl (lv_at hl 5 rfl) ?_
            refine kcallR (r := .int (nI (if tn = 0 then row else col))) (va_runV (As := [.int (nI row), .int (nI col)]) (rest := [.int (nI (pX tn row col)), .int (nI k), .ref bo]) ⟨hx, hb, hml, hown, hts⟩ (c_yAt l D cI cJ cZ hb_ bo hz side kf tn r1 r2 r3 r4 row col (by omega)) ⟨callB_of 2 hts (gd kc_Be_yAt) rfl rfl rfl (hts _ (List.mem_cons_of_mem _ k_6)) (hts _ (List.mem_cons_of_mem _ k_236)) (by decide +kernel) ⟨Nat.le_of_ble_eq_true rfl, Nat.le_of_ble_eq_true rfl⟩, hts _ (List.mem_cons_of_mem _ k_238), hts _ (List.mem_cons_of_mem _ ks_5)⟩ ⟨kR_blind, va_recv hK hP (ci := 1) (q0 := 0) rfl rfl, kR_at hP hK hZ [0] rfl⟩ rfl rfl hl.1 rfl (lv_room (Nat.le_of_ble_eq_true rfl)) d_Be_planColumn_88 ⟨Nat.zero_le _, Nat.zero_le _⟩) ?_
            refine ka_i (y := nI (pY tn row col)) (rfl) ?_
            refine lv_aload_n hx hb d_Be_planColumn_91 rfl (lv_at hl 3 rfl) ?_
            refine va_get (D := D) (ci := 1) (v := .int (nI tn)) (C := R_Be) (T := T_Be) (N := 9) hx hb hts (fun w h => List.mem_cons_of_mem _ (iw_Be w h)) hown hK hP 0 rfl rfl 4 (by decide) (hts _ (List.mem_cons_of_mem _ k_111)) (fun _ h9 => h9) rfl d_Be_planColumn_92 ?_
            refine kcallR (r := .int (iI (max 0 ((wo k : Int) - sumZ fl side ((pX tn row col : Nat) : Int) ((pY tn row col : Nat) : Int) (if ((tn : Nat) : Int) = 0 then wi k else th k) (if ((tn : Nat) : Int) = 0 then th k else wi k))))) (va_runV (As := [.int (nI k), .int (nI (pX tn row col)), .int (nI (pY tn row col)), .int (nI tn)]) (rest := []) ⟨hx, hb, hml, hown, hts⟩ (c_valueAt l D cI cJ cZ bo h0 side a1 a2 a3 a4 sm hz t1 t2 t3 t4 cn th wi wo F4 fl k (nI (pX tn row col)) (nI (pY tn row col)) ((pX tn row col : Nat) : Int) ((pY tn row col : Nat) : Int) (nI tn) ((tn : Nat) : Int) (by omega) (by omega) ht hw (nI_t (by omega)) (nI_t (by omega)) (nI_t (by omega)) m4 hfl ho) ⟨callB_of 4 hts (gd kc_Bo_valueAt) rfl rfl rfl (hts _ (List.mem_cons_of_mem _ k_5)) (hts _ (List.mem_cons_of_mem _ k_256)) (by decide +kernel) ⟨Nat.le_of_ble_eq_true rfl, Nat.le_of_ble_eq_true rfl⟩, hts _ (List.mem_cons_of_mem _ k_257), hts _ (List.mem_cons_of_mem _ k_258)⟩ ⟨kR_blind, va_recv hK hP (ci := 2) (q0 := 1) rfl rfl, kR_at hP hK hZ [1, 2, 3, 4, 5, 6, 9] rfl⟩ rfl rfl hl.1 rfl (lv_room (Nat.le_of_ble_eq_true rfl)) d_Be_planColumn_95 ⟨Nat.zero_le _, Nat.zero_le _⟩) ?_
            refine ka_i (y := iI (vaC side fl th wi wo tn row col k)) (rfl) ?_
            refine lv_i2l (v := lI (vaC side fl th wi wo tn row col k)) hx hb d_Be_planColumn_98 (lI_i (iI_t (by omega) (by omega))) ?_
            refine lv_ldc2 (v := (1000 : Int64)) hx hb hown (hts _ (List.mem_cons_of_mem _ k_261)) d_Be_planColumn_99 ?_
            refine ka_l (y := lI 1000) (by decide +kernel) ?_
            refine lv_lmul hx hb d_Be_planColumn_102 ?_
            refine ka_l (y := lI ((vaC side fl th wi wo tn row col k) * 1000)) (lI_mul _ _) ?_
            refine lv_lconst (v := lI 1) hx hb d_Be_planColumn_103 (by decide +kernel) ?_
            refine lv_lsub hx hb d_Be_planColumn_104 ?_
            refine ka_l (y := lI (((vaC side fl th wi wo tn row col k) * 1000) - 1)) (lI_sub _ _) ?_
            refine lv_aload_n hx hb d_Be_planColumn_105 rfl (lv_at hl 3 rfl) ?_
            refine va_get (D := D) (ci := 1) (v := .ref r3) (C := R_Be) (T := T_Be) (N := 9) hx hb hts (fun w h => List.mem_cons_of_mem _ (iw_Be w h)) hown hK hP 0 rfl rfl 7 (by decide) (hts _ (List.mem_cons_of_mem _ k_114)) (fun _ h9 => h9) rfl d_Be_planColumn_106 ?_
            refine lv_aload_n hx hb d_Be_planColumn_109 rfl (lv_at hl 3 rfl) ?_
            refine va_get (D := D) (ci := 1) (v := .int (nI side)) (C := R_Be) (T := T_Be) (N := 9) hx hb hts (fun w h => List.mem_cons_of_mem _ (iw_Be w h)) hown hK hP 0 rfl rfl 2 (by decide) (hts _ (List.mem_cons_of_mem _ k_109)) (fun _ h9 => h9) rfl d_Be_planColumn_110 ?_
            refine lv_iload_n hx hb d_Be_planColumn_113 rfl (lv_at hl 5 rfl) ?_
            refine lv_aload_n hx hb d_Be_planColumn_114 rfl (lv_at hl 3 rfl) ?_
            refine va_get (D := D) (ci := 1) (v := .ref hz) (C := R_Be) (T := T_Be) (N := 9) hx hb hts (fun w h => List.mem_cons_of_mem _ (iw_Be w h)) hown hK hP 0 rfl rfl 1 (by decide) (hts _ (List.mem_cons_of_mem _ k_108)) (fun _ h9 => h9) rfl d_Be_planColumn_115 ?_
            refine va_get (D := D) (ci := 5) (v := .ref t2) (C := R_Si) (T := T_Si) (N := 5) hx hb hts (fun w h => List.mem_cons_of_mem _ (iw_Si w h)) hown hK hP 3 rfl rfl 1 (by decide) (hts _ (List.mem_cons_of_mem _ k_68)) (fun _ h9 => h9) rfl d_Be_planColumn_118 ?_
            refine lv_iload hx hb d_Be_planColumn_121 (lv_at hl 0 rfl) ?_
            refine ka_iald (k := k) (n := 8) (f := fun j => nI (wi j)) (nI_t (by omega)) (by omega) hx hb hK hP 5 0 rfl rfl d_Be_planColumn_123 ?_
            refine lv_iadd hx hb d_Be_planColumn_124 ?_
            refine ka_i (y := nI (col + (wi k))) (nI_add _ _) ?_
            refine lv_aload_n hx hb d_Be_planColumn_125 rfl (lv_at hl 3 rfl) ?_
            refine va_get (D := D) (ci := 1) (v := .int (nI kf)) (C := R_Be) (T := T_Be) (N := 9) hx hb hts (fun w h => List.mem_cons_of_mem _ (iw_Be w h)) hown hK hP 0 rfl rfl 3 (by decide) (hts _ (List.mem_cons_of_mem _ k_110)) (fun _ h9 => h9) rfl d_Be_planColumn_126 ?_
            refine lv_iadd hx hb d_Be_planColumn_129 ?_
            refine ka_i (y := nI ((col + (wi k)) + kf)) (nI_add _ _) ?_
            refine va_mmin hx hb (hml.trans hl.1.symm) hown (hts _ (List.mem_cons_of_mem _ k_262)) (hts _ (List.mem_cons_of_mem _ k_24)) (hts _ (List.mem_cons_of_mem _ k_2)) (hts _ (List.mem_cons_of_mem _ k_25)) (Nat.le_of_ble_eq_true rfl) (Nat.le_of_ble_eq_true rfl) (Nat.zero_le _) (Nat.zero_le _) d_Be_planColumn_130 ?_
            refine ka_i (y := iI (min ((side : Nat) : Int) (((col + (wi k)) + kf : Nat) : Int))) (mmin32 (nI_t (by omega)) (nI_t (by omega))) ?_
            refine ka_lald (k := (min side (col + wi k + kf))) (n := (side + 1)) (f := fun j => lI (RC j)) ((iI_t (by omega) (by omega)).trans (by omega)) (by omega) hx hb hK hP 10 1 rfl rfl d_Be_planColumn_133 ?_
            refine lv_ladd hx hb d_Be_planColumn_134 ?_
            refine ka_l (y := lI ((((vaC side fl th wi wo tn row col k) * 1000) - 1) + (RC (min side (col + wi k + kf))))) (lI_add _ _) ?_
            refine ka_l (y := lI (rkC RC side kf col wi (vaC side fl th wi wo tn row col) k)) (rfl) ?_
            refine lv_lstore (lv' := [(8, .long (lI (rkC RC side kf col wi (vaC side fl th wi wo tn row col) k))), (7, .int (nI k)), (6, .int (iI b2)), (4, .long (lI b1)), (0, .ref hb_), (1, .int (nI row)), (2, .int (nI col)), (3, .int (nI thick))]) hx hb d_Be_planColumn_135 hl (by decide) rfl (fun ls hl => ?_)
            refine lv_lload hx hb d_Be_planColumn_137 (lv_at hl 0 rfl) ?_
            refine lv_lload hx hb d_Be_planColumn_139 (lv_at hl 3 rfl) ?_
            refine ka_lcmp (lI_t (by omega) (by omega)) (lI_t (by omega) (by omega)) hx hb d_Be_planColumn_141 ?_
            refine kb_gt (tgt := 159) (cmpI_b _ _) hx hb d_Be_planColumn_142 (by decide) (fun g1 => ?_) (fun g1 => ?_)
            · have g2 := cmpI_gt.mp g1
              refine lv_lload hx hb d_Be_planColumn_159 (lv_at hl 0 rfl) ?_
              refine lv_lstore (lv' := [(4, .long (lI (rkC RC side kf col wi (vaC side fl th wi wo tn row col) k))), (8, .long (lI (rkC RC side kf col wi (vaC side fl th wi wo tn row col) k))), (7, .int (nI k)), (6, .int (iI b2)), (0, .ref hb_), (1, .int (nI row)), (2, .int (nI col)), (3, .int (nI thick))]) hx hb d_Be_planColumn_161 hl (by decide) rfl (fun ls hl => ?_)
              refine lv_iload hx hb d_Be_planColumn_163 (lv_at hl 2 rfl) ?_
              refine ka_i (y := iI (k : Int)) (iI_of k) ?_
              refine lv_istore (lv' := [(6, .int (iI (k : Int))), (4, .long (lI (rkC RC side kf col wi (vaC side fl th wi wo tn row col) k))), (8, .long (lI (rkC RC side kf col wi (vaC side fl th wi wo tn row col) k))), (7, .int (nI k)), (0, .ref hb_), (1, .int (nI row)), (2, .int (nI col)), (3, .int (nI thick))]) hx hb d_Be_planColumn_165 hl (by decide) rfl (fun ls hl => ?_)
              refine lv_iinc (v := nI (k + 1)) (lv' := [(7, .int (nI (k + 1))), (6, .int (iI (k : Int))), (4, .long (lI (rkC RC side kf col wi (vaC side fl th wi wo tn row col) k))), (8, .long (lI (rkC RC side kf col wi (vaC side fl th wi wo tn row col) k))), (0, .ref hb_), (1, .int (nI row)), (2, .int (nI col)), (3, .int (nI thick))]) hx hb d_Be_planColumn_167 hl (k := 3) rfl (nI_add _ 1) (by decide) rfl (fun ls hl => ?_)
              refine lv_goto (tgt := 16) hx hb d_Be_planColumn_170 (by decide) ?_
              exact ih (k + 1) (rkC RC side kf col wi (vaC side fl th wi wo tn row col) k) (k : Int) (by omega) (by rw [es]; unfold colStep; rw [cif_t (⟨⟨by omega, cf⟩, Or.inl g2⟩)]) (by rw [es]; unfold colStep; rw [cif_t (⟨⟨by omega, cf⟩, Or.inl g2⟩)]) _ _ hP hD hS ls (lv_sub hl [0, 1, 2, 4, 5, 6, 7] rfl)
            · have l2 := cmpI_le.mp g1
              refine lv_lload hx hb d_Be_planColumn_145 (lv_at hl 0 rfl) ?_
              refine lv_lload hx hb d_Be_planColumn_147 (lv_at hl 3 rfl) ?_
              refine ka_lcmp (lI_t (by omega) (by omega)) (lI_t (by omega) (by omega)) hx hb d_Be_planColumn_149 ?_
              refine kb_ne (tgt := 167) (cmpI_b _ _) hx hb d_Be_planColumn_150 (by decide) (fun g3 => ?_) (fun g3 => ?_)
              · have g4 := (not_congr cmpI_eq).mp g3
                refine lv_iinc (v := nI (k + 1)) (lv' := [(7, .int (nI (k + 1))), (8, .long (lI (rkC RC side kf col wi (vaC side fl th wi wo tn row col) k))), (6, .int (iI b2)), (4, .long (lI b1)), (0, .ref hb_), (1, .int (nI row)), (2, .int (nI col)), (3, .int (nI thick))]) hx hb d_Be_planColumn_167 hl (k := 1) rfl (nI_add _ 1) (by decide) rfl (fun ls hl => ?_)
                refine lv_goto (tgt := 16) hx hb d_Be_planColumn_170 (by decide) ?_
                exact ih (k + 1) b1 b2 (by omega) (by rw [es]; unfold colStep; rw [cif_f (fun h => by
                    rcases h.2 with h9 | h9
                    · have h9 : b1 < _ := h9
                      omega
                    · exact g4 h9.1)]) (by rw [es]; unfold colStep; rw [cif_f (fun h => by
                    rcases h.2 with h9 | h9
                    · have h9 : b1 < _ := h9
                      omega
                    · exact g4 h9.1)]) _ _ hP hD hS ls (lv_sub hl [0, 2, 3, 4, 5, 6, 7] rfl)
              · have g4 := cmpI_eq.mp g3
                refine lv_iload hx hb d_Be_planColumn_153 (lv_at hl 2 rfl) ?_
                refine lv_iconst (v := iI (-1)) hx hb d_Be_planColumn_155 (by decide +kernel) ?_
                refine kb_cne (tgt := 167) (iI_t (by omega) (by omega)) (iI_t (by omega) (by omega)) hx hb d_Be_planColumn_156 (by decide) (fun g5 => ?_) (fun g5 => ?_)
                · refine lv_iinc (v := nI (k + 1)) (lv' := [(7, .int (nI (k + 1))), (8, .long (lI (rkC RC side kf col wi (vaC side fl th wi wo tn row col) k))), (6, .int (iI b2)), (4, .long (lI b1)), (0, .ref hb_), (1, .int (nI row)), (2, .int (nI col)), (3, .int (nI thick))]) hx hb d_Be_planColumn_167 hl (k := 1) rfl (nI_add _ 1) (by decide) rfl (fun ls hl => ?_)
                  refine lv_goto (tgt := 16) hx hb d_Be_planColumn_170 (by decide) ?_
                  exact ih (k + 1) b1 b2 (by omega) (by rw [es]; unfold colStep; rw [cif_f (fun h => by
                      rcases h.2 with h9 | h9
                      · have h9 : b1 < _ := h9
                        omega
                      · exact g5 h9.2)]) (by rw [es]; unfold colStep; rw [cif_f (fun h => by
                      rcases h.2 with h9 | h9
                      · have h9 : b1 < _ := h9
                        omega
                      · exact g5 h9.2)]) _ _ hP hD hS ls (lv_sub hl [0, 2, 3, 4, 5, 6, 7] rfl)
                · refine lv_lload hx hb d_Be_planColumn_159 (lv_at hl 0 rfl) ?_
                  refine lv_lstore (lv' := [(4, .long (lI (rkC RC side kf col wi (vaC side fl th wi wo tn row col) k))), (8, .long (lI (rkC RC side kf col wi (vaC side fl th wi wo tn row col) k))), (7, .int (nI k)), (6, .int (iI b2)), (0, .ref hb_), (1, .int (nI row)), (2, .int (nI col)), (3, .int (nI thick))]) hx hb d_Be_planColumn_161 hl (by decide) rfl (fun ls hl => ?_)
                  refine lv_iload hx hb d_Be_planColumn_163 (lv_at hl 2 rfl) ?_
                  refine ka_i (y := iI (k : Int)) (iI_of k) ?_
                  refine lv_istore (lv' := [(6, .int (iI (k : Int))), (4, .long (lI (rkC RC side kf col wi (vaC side fl th wi wo tn row col) k))), (8, .long (lI (rkC RC side kf col wi (vaC side fl th wi wo tn row col) k))), (7, .int (nI k)), (0, .ref hb_), (1, .int (nI row)), (2, .int (nI col)), (3, .int (nI thick))]) hx hb d_Be_planColumn_165 hl (by decide) rfl (fun ls hl => ?_)
                  refine lv_iinc (v := nI (k + 1)) (lv' := [(7, .int (nI (k + 1))), (6, .int (iI (k : Int))), (4, .long (lI (rkC RC side kf col wi (vaC side fl th wi wo tn row col) k))), (8, .long (lI (rkC RC side kf col wi (vaC side fl th wi wo tn row col) k))), (0, .ref hb_), (1, .int (nI row)), (2, .int (nI col)), (3, .int (nI thick))]) hx hb d_Be_planColumn_167 hl (k := 3) rfl (nI_add _ 1) (by decide) rfl (fun ls hl => ?_)
                  refine lv_goto (tgt := 16) hx hb d_Be_planColumn_170 (by decide) ?_
                  exact ih (k + 1) (rkC RC side kf col wi (vaC side fl th wi wo tn row col) k) (k : Int) (by omega) (by rw [es]; unfold colStep; rw [cif_t (⟨⟨by omega, cf⟩, Or.inr ⟨g4, g5⟩⟩)]) (by rw [es]; unfold colStep; rw [cif_t (⟨⟨by omega, cf⟩, Or.inr ⟨g4, g5⟩⟩)]) _ _ hP hD hS ls (lv_sub hl [0, 1, 2, 4, 5, 6, 7] rfl)
          · refine lv_goto (tgt := 167) hx hb d_Be_planColumn_70 (by decide) ?_
            refine lv_iinc (v := nI (k + 1)) (lv' := [(7, .int (nI (k + 1))), (6, .int (iI b2)), (4, .long (lI b1)), (0, .ref hb_), (1, .int (nI row)), (2, .int (nI col)), (3, .int (nI thick))]) hx hb d_Be_planColumn_167 hl (k := 0) rfl (nI_add _ 1) (by decide) rfl (fun ls hl => ?_)
            refine lv_goto (tgt := 16) hx hb d_Be_planColumn_170 (by decide) ?_
            exact ih (k + 1) b1 b2 (by omega) (by rw [es]; unfold colStep; rw [cif_f (fun h => cf h.1.2)]) (by rw [es]; unfold colStep; rw [cif_f (fun h => cf h.1.2)]) _ _ hP hD hS ls (lv_sub hl [0, 1, 2, 3, 4, 5, 6] rfl)
  exact lp cn 0 (RC (col + 1)) (-1) (by omega) rfl rfl _ _ hP hD hS ls (lv_sub hl [0, 1, 2, 3, 4, 5, 6] rfl)
