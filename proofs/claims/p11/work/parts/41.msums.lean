theorem d_Mo_woodCells_0 : decode b_Mo_woodCells 0 = .ok (.iconst 0, 1) := by decide +kernel
theorem d_Mo_woodCells_1 : decode b_Mo_woodCells 1 = .ok (.istore_n 1, 1) := by decide +kernel
theorem d_Mo_woodCells_2 : decode b_Mo_woodCells 2 = .ok (.iconst 0, 1) := by decide +kernel
theorem d_Mo_woodCells_3 : decode b_Mo_woodCells 3 = .ok (.istore_n 2, 1) := by decide +kernel
theorem d_Mo_woodCells_4 : decode b_Mo_woodCells 4 = .ok (.iload_n 2, 1) := by decide +kernel
theorem d_Mo_woodCells_5 : decode b_Mo_woodCells 5 = .ok (.aload_n 0, 1) := by decide +kernel
theorem d_Mo_woodCells_6 : decode b_Mo_woodCells 6 = .ok (.getfield 50, 3) := by decide +kernel
theorem d_Mo_woodCells_9 : decode b_Mo_woodCells 9 = .ok (.if_icmp .ge 42, 3) := by decide +kernel
theorem d_Mo_woodCells_12 : decode b_Mo_woodCells 12 = .ok (.iconst 0, 1) := by decide +kernel
theorem d_Mo_woodCells_13 : decode b_Mo_woodCells 13 = .ok (.istore_n 3, 1) := by decide +kernel
theorem d_Mo_woodCells_14 : decode b_Mo_woodCells 14 = .ok (.iload_n 3, 1) := by decide +kernel
theorem d_Mo_woodCells_15 : decode b_Mo_woodCells 15 = .ok (.aload_n 0, 1) := by decide +kernel
theorem d_Mo_woodCells_16 : decode b_Mo_woodCells 16 = .ok (.getfield 50, 3) := by decide +kernel
theorem d_Mo_woodCells_19 : decode b_Mo_woodCells 19 = .ok (.if_icmp .ge 26, 3) := by decide +kernel
theorem d_Mo_woodCells_22 : decode b_Mo_woodCells 22 = .ok (.aload_n 0, 1) := by decide +kernel
theorem d_Mo_woodCells_23 : decode b_Mo_woodCells 23 = .ok (.iload_n 3, 1) := by decide +kernel
theorem d_Mo_woodCells_24 : decode b_Mo_woodCells 24 = .ok (.iload_n 2, 1) := by decide +kernel
theorem d_Mo_woodCells_25 : decode b_Mo_woodCells 25 = .ok (.invokevirtual 76, 3) := by decide +kernel
theorem d_Mo_woodCells_28 : decode b_Mo_woodCells 28 = .ok (.ifCond .eq 9, 3) := by decide +kernel
theorem d_Mo_woodCells_31 : decode b_Mo_woodCells 31 = .ok (.iload_n 1, 1) := by decide +kernel
theorem d_Mo_woodCells_32 : decode b_Mo_woodCells 32 = .ok (.iconst 1, 1) := by decide +kernel
theorem d_Mo_woodCells_33 : decode b_Mo_woodCells 33 = .ok (.iadd, 1) := by decide +kernel
theorem d_Mo_woodCells_34 : decode b_Mo_woodCells 34 = .ok (.goto 4, 3) := by decide +kernel
theorem d_Mo_woodCells_37 : decode b_Mo_woodCells 37 = .ok (.iload_n 1, 1) := by decide +kernel
theorem d_Mo_woodCells_38 : decode b_Mo_woodCells 38 = .ok (.istore_n 1, 1) := by decide +kernel
theorem d_Mo_woodCells_39 : decode b_Mo_woodCells 39 = .ok (.iinc 3 1, 3) := by decide +kernel
theorem d_Mo_woodCells_42 : decode b_Mo_woodCells 42 = .ok (.goto (-28), 3) := by decide +kernel
theorem d_Mo_woodCells_45 : decode b_Mo_woodCells 45 = .ok (.iinc 2 1, 3) := by decide +kernel
theorem d_Mo_woodCells_48 : decode b_Mo_woodCells 48 = .ok (.goto (-44), 3) := by decide +kernel
theorem d_Mo_woodCells_51 : decode b_Mo_woodCells 51 = .ok (.iload_n 1, 1) := by decide +kernel
theorem d_Mo_woodCells_52 : decode b_Mo_woodCells 52 = .ok (.ireturn, 1) := by decide +kernel
theorem d_Mo_sums_0 : decode b_Mo_sums 0 = .ok (.iconst 0, 1) := by decide +kernel
theorem d_Mo_sums_1 : decode b_Mo_sums 1 = .ok (.istore_n 1, 1) := by decide +kernel
theorem d_Mo_sums_2 : decode b_Mo_sums 2 = .ok (.iload_n 1, 1) := by decide +kernel
theorem d_Mo_sums_3 : decode b_Mo_sums 3 = .ok (.aload_n 0, 1) := by decide +kernel
theorem d_Mo_sums_4 : decode b_Mo_sums 4 = .ok (.getfield 50, 3) := by decide +kernel
theorem d_Mo_sums_7 : decode b_Mo_sums 7 = .ok (.if_icmp .ge 135, 3) := by decide +kernel
theorem d_Mo_sums_10 : decode b_Mo_sums 10 = .ok (.iconst 0, 1) := by decide +kernel
theorem d_Mo_sums_11 : decode b_Mo_sums 11 = .ok (.istore_n 2, 1) := by decide +kernel
theorem d_Mo_sums_12 : decode b_Mo_sums 12 = .ok (.iload_n 2, 1) := by decide +kernel
theorem d_Mo_sums_13 : decode b_Mo_sums 13 = .ok (.aload_n 0, 1) := by decide +kernel
theorem d_Mo_sums_14 : decode b_Mo_sums 14 = .ok (.getfield 50, 3) := by decide +kernel
theorem d_Mo_sums_17 : decode b_Mo_sums 17 = .ok (.if_icmp .ge 119, 3) := by decide +kernel
theorem d_Mo_sums_20 : decode b_Mo_sums 20 = .ok (.bipush 21, 2) := by decide +kernel
theorem d_Mo_sums_22 : decode b_Mo_sums 22 = .ok (.iload_n 1, 1) := by decide +kernel
theorem d_Mo_sums_23 : decode b_Mo_sums 23 = .ok (.iconst 1, 1) := by decide +kernel
theorem d_Mo_sums_24 : decode b_Mo_sums 24 = .ok (.iadd, 1) := by decide +kernel
theorem d_Mo_sums_25 : decode b_Mo_sums 25 = .ok (.imul, 1) := by decide +kernel
theorem d_Mo_sums_26 : decode b_Mo_sums 26 = .ok (.iload_n 2, 1) := by decide +kernel
theorem d_Mo_sums_27 : decode b_Mo_sums 27 = .ok (.iadd, 1) := by decide +kernel
theorem d_Mo_sums_28 : decode b_Mo_sums 28 = .ok (.iconst 1, 1) := by decide +kernel
theorem d_Mo_sums_29 : decode b_Mo_sums 29 = .ok (.iadd, 1) := by decide +kernel
theorem d_Mo_sums_30 : decode b_Mo_sums 30 = .ok (.istore_n 3, 1) := by decide +kernel
theorem d_Mo_sums_31 : decode b_Mo_sums 31 = .ok (.aload_n 0, 1) := by decide +kernel
theorem d_Mo_sums_32 : decode b_Mo_sums 32 = .ok (.getfield 29, 3) := by decide +kernel
theorem d_Mo_sums_35 : decode b_Mo_sums 35 = .ok (.iload_n 3, 1) := by decide +kernel
theorem d_Mo_sums_36 : decode b_Mo_sums 36 = .ok (.aload_n 0, 1) := by decide +kernel
theorem d_Mo_sums_37 : decode b_Mo_sums 37 = .ok (.iload_n 2, 1) := by decide +kernel
theorem d_Mo_sums_38 : decode b_Mo_sums 38 = .ok (.iload_n 1, 1) := by decide +kernel
theorem d_Mo_sums_39 : decode b_Mo_sums 39 = .ok (.invokevirtual 76, 3) := by decide +kernel
theorem d_Mo_sums_42 : decode b_Mo_sums 42 = .ok (.ifCond .eq 7, 3) := by decide +kernel
theorem d_Mo_sums_45 : decode b_Mo_sums 45 = .ok (.iconst 0, 1) := by decide +kernel
theorem d_Mo_sums_46 : decode b_Mo_sums 46 = .ok (.goto 4, 3) := by decide +kernel
theorem d_Mo_sums_49 : decode b_Mo_sums 49 = .ok (.iconst 1, 1) := by decide +kernel
theorem d_Mo_sums_50 : decode b_Mo_sums 50 = .ok (.aload_n 0, 1) := by decide +kernel
theorem d_Mo_sums_51 : decode b_Mo_sums 51 = .ok (.getfield 29, 3) := by decide +kernel
theorem d_Mo_sums_54 : decode b_Mo_sums 54 = .ok (.iload_n 3, 1) := by decide +kernel
theorem d_Mo_sums_55 : decode b_Mo_sums 55 = .ok (.iconst 1, 1) := by decide +kernel
theorem d_Mo_sums_56 : decode b_Mo_sums 56 = .ok (.isub, 1) := by decide +kernel
theorem d_Mo_sums_57 : decode b_Mo_sums 57 = .ok (.iaload, 1) := by decide +kernel
theorem d_Mo_sums_58 : decode b_Mo_sums 58 = .ok (.iadd, 1) := by decide +kernel
theorem d_Mo_sums_59 : decode b_Mo_sums 59 = .ok (.aload_n 0, 1) := by decide +kernel
theorem d_Mo_sums_60 : decode b_Mo_sums 60 = .ok (.getfield 29, 3) := by decide +kernel
theorem d_Mo_sums_63 : decode b_Mo_sums 63 = .ok (.iload_n 3, 1) := by decide +kernel
theorem d_Mo_sums_64 : decode b_Mo_sums 64 = .ok (.bipush 21, 2) := by decide +kernel
theorem d_Mo_sums_66 : decode b_Mo_sums 66 = .ok (.isub, 1) := by decide +kernel
theorem d_Mo_sums_67 : decode b_Mo_sums 67 = .ok (.iaload, 1) := by decide +kernel
theorem d_Mo_sums_68 : decode b_Mo_sums 68 = .ok (.iadd, 1) := by decide +kernel
theorem d_Mo_sums_69 : decode b_Mo_sums 69 = .ok (.aload_n 0, 1) := by decide +kernel
theorem d_Mo_sums_70 : decode b_Mo_sums 70 = .ok (.getfield 29, 3) := by decide +kernel
theorem d_Mo_sums_73 : decode b_Mo_sums 73 = .ok (.iload_n 3, 1) := by decide +kernel
theorem d_Mo_sums_74 : decode b_Mo_sums 74 = .ok (.bipush 21, 2) := by decide +kernel
theorem d_Mo_sums_76 : decode b_Mo_sums 76 = .ok (.isub, 1) := by decide +kernel
theorem d_Mo_sums_77 : decode b_Mo_sums 77 = .ok (.iconst 1, 1) := by decide +kernel
theorem d_Mo_sums_78 : decode b_Mo_sums 78 = .ok (.isub, 1) := by decide +kernel
theorem d_Mo_sums_79 : decode b_Mo_sums 79 = .ok (.iaload, 1) := by decide +kernel
theorem d_Mo_sums_80 : decode b_Mo_sums 80 = .ok (.isub, 1) := by decide +kernel
theorem d_Mo_sums_81 : decode b_Mo_sums 81 = .ok (.iastore, 1) := by decide +kernel
theorem d_Mo_sums_82 : decode b_Mo_sums 82 = .ok (.aload_n 0, 1) := by decide +kernel
theorem d_Mo_sums_83 : decode b_Mo_sums 83 = .ok (.getfield 32, 3) := by decide +kernel
theorem d_Mo_sums_86 : decode b_Mo_sums 86 = .ok (.iload_n 3, 1) := by decide +kernel
theorem d_Mo_sums_87 : decode b_Mo_sums 87 = .ok (.aload_n 0, 1) := by decide +kernel
theorem d_Mo_sums_88 : decode b_Mo_sums 88 = .ok (.getfield 13, 3) := by decide +kernel
theorem d_Mo_sums_91 : decode b_Mo_sums 91 = .ok (.bipush 20, 2) := by decide +kernel
theorem d_Mo_sums_93 : decode b_Mo_sums 93 = .ok (.iload_n 1, 1) := by decide +kernel
theorem d_Mo_sums_94 : decode b_Mo_sums 94 = .ok (.imul, 1) := by decide +kernel
theorem d_Mo_sums_95 : decode b_Mo_sums 95 = .ok (.iload_n 2, 1) := by decide +kernel
theorem d_Mo_sums_96 : decode b_Mo_sums 96 = .ok (.iadd, 1) := by decide +kernel
theorem d_Mo_sums_97 : decode b_Mo_sums 97 = .ok (.iaload, 1) := by decide +kernel
theorem d_Mo_sums_98 : decode b_Mo_sums 98 = .ok (.aload_n 0, 1) := by decide +kernel
theorem d_Mo_sums_99 : decode b_Mo_sums 99 = .ok (.getfield 32, 3) := by decide +kernel
theorem d_Mo_sums_102 : decode b_Mo_sums 102 = .ok (.iload_n 3, 1) := by decide +kernel
theorem d_Mo_sums_103 : decode b_Mo_sums 103 = .ok (.iconst 1, 1) := by decide +kernel
theorem d_Mo_sums_104 : decode b_Mo_sums 104 = .ok (.isub, 1) := by decide +kernel
theorem d_Mo_sums_105 : decode b_Mo_sums 105 = .ok (.iaload, 1) := by decide +kernel
theorem d_Mo_sums_106 : decode b_Mo_sums 106 = .ok (.iadd, 1) := by decide +kernel
theorem d_Mo_sums_107 : decode b_Mo_sums 107 = .ok (.aload_n 0, 1) := by decide +kernel
theorem d_Mo_sums_108 : decode b_Mo_sums 108 = .ok (.getfield 32, 3) := by decide +kernel
theorem d_Mo_sums_111 : decode b_Mo_sums 111 = .ok (.iload_n 3, 1) := by decide +kernel
theorem d_Mo_sums_112 : decode b_Mo_sums 112 = .ok (.bipush 21, 2) := by decide +kernel
theorem d_Mo_sums_114 : decode b_Mo_sums 114 = .ok (.isub, 1) := by decide +kernel
theorem d_Mo_sums_115 : decode b_Mo_sums 115 = .ok (.iaload, 1) := by decide +kernel
theorem d_Mo_sums_116 : decode b_Mo_sums 116 = .ok (.iadd, 1) := by decide +kernel
theorem d_Mo_sums_117 : decode b_Mo_sums 117 = .ok (.aload_n 0, 1) := by decide +kernel
theorem d_Mo_sums_118 : decode b_Mo_sums 118 = .ok (.getfield 32, 3) := by decide +kernel
theorem d_Mo_sums_121 : decode b_Mo_sums 121 = .ok (.iload_n 3, 1) := by decide +kernel
theorem d_Mo_sums_122 : decode b_Mo_sums 122 = .ok (.bipush 21, 2) := by decide +kernel
theorem d_Mo_sums_124 : decode b_Mo_sums 124 = .ok (.isub, 1) := by decide +kernel
theorem d_Mo_sums_125 : decode b_Mo_sums 125 = .ok (.iconst 1, 1) := by decide +kernel
theorem d_Mo_sums_126 : decode b_Mo_sums 126 = .ok (.isub, 1) := by decide +kernel
theorem d_Mo_sums_127 : decode b_Mo_sums 127 = .ok (.iaload, 1) := by decide +kernel
theorem d_Mo_sums_128 : decode b_Mo_sums 128 = .ok (.isub, 1) := by decide +kernel
theorem d_Mo_sums_129 : decode b_Mo_sums 129 = .ok (.iastore, 1) := by decide +kernel
theorem d_Mo_sums_130 : decode b_Mo_sums 130 = .ok (.iinc 2 1, 3) := by decide +kernel
theorem d_Mo_sums_133 : decode b_Mo_sums 133 = .ok (.goto (-121), 3) := by decide +kernel
theorem d_Mo_sums_136 : decode b_Mo_sums 136 = .ok (.iinc 1 1, 3) := by decide +kernel
theorem d_Mo_sums_139 : decode b_Mo_sums 139 = .ok (.goto (-137), 3) := by decide +kernel
theorem d_Mo_sums_142 : decode b_Mo_sums 142 = .ok (.return_, 1) := by decide +kernel
/-- a cell that is wood counts 1 -/
noncomputable def wdN (P : Prop) : Nat := cif P 1 0
theorem wdN_t {P : Prop} (h : P) : wdN P = 1 := cif_t h
theorem wdN_f {P : Prop} (h : ¬ P) : wdN P = 0 := cif_f h
noncomputable def mwr (side : Nat) (IN : Nat → Prop) (y : Nat) : Nat := sN (fun i_ => wdN (IN (20 * y + i_) ∧ IN (400 + 20 * y + i_))) side
noncomputable def mfb (IN : Nat → Prop) (x y : Nat) : Nat := bareN (IN (20 * y + x) ∧ IN (400 + 20 * y + x))
def mfl (LO : Nat → Nat) (x y : Nat) : Nat := LO (20 * y + x)
theorem mfb_le (IN : Nat → Prop) (side : Nat) : ∀ i j, i < side → j < side → mfb IN i j ≤ 10000 := fun i j _ _ => Nat.le_trans (bareN_le _) (by decide)
theorem mfl_le {LO : Nat → Nat} (h : ∀ k, LO k ≤ 10000) (side : Nat) : ∀ i j, i < side → j < side → mfl LO i j ≤ 10000 := fun i j _ _ => h _
def mInv (side : Nat) (f : Nat → Nat → Nat) (F : Nat → Nat) (y : Nat) : Prop := (∀ X Y, X ≤ side → Y ≤ y → F (21 * Y + X) = psm f X Y) ∧ ∀ Y, Y ≤ side → F (21 * Y) = 0
theorem psm_step (f : Nat → Nat → Nat) (x y : Nat) : psm f (x + 1) (y + 1) + psm f x y = f x y + psm f x (y + 1) + psm f (x + 1) y := by
  have h1 := psm_y1 f (x + 1) y
  have h2 := psm_y1 f x y
  have h3 : sN (fun i => f i y) (x + 1) = sN (fun i => f i y) x + f x y := rfl
  omega
theorem msum_step {side x y v : Nat} {f : Nat → Nat → Nat} {F : Nat → Nat} (hs : side ≤ 20) (hx : x < side) (hy : y < side) (j : mInv side f F y) (l : ∀ X, X ≤ x → F (21 * (y + 1) + X) = psm f X (y + 1)) (hv : v = psm f (x + 1) (y + 1)) :
    mInv side f (va_up F (21 * (y + 1) + x + 1) v) y ∧ ∀ X, X ≤ x + 1 → va_up F (21 * (y + 1) + x + 1) v (21 * (y + 1) + X) = psm f X (y + 1) := by
  refine ⟨⟨fun X Y hX hY => ?_, fun Y hY => ?_⟩, fun X hX => ?_⟩
  · rw [va_up_ne _ _ (by omega)]; exact j.1 X Y hX hY
  · rw [va_up_ne _ _ (by omega)]; exact j.2 Y hY
  · by_cases e : X = x + 1
    · subst e
      rw [← Nat.add_assoc, va_up_self]; exact hv
    · rw [va_up_ne _ _ (by omega)]; exact l X (by omega)
theorem msum_row {side y : Nat} {f : Nat → Nat → Nat} {F : Nat → Nat} (j : mInv side f F y) (l : ∀ X, X ≤ side → F (21 * (y + 1) + X) = psm f X (y + 1)) : mInv side f F (y + 1) := by
  refine ⟨fun X Y hX hY => ?_, j.2⟩
  by_cases e : Y = y + 1
  · subst e; exact l X hX
  · exact j.1 X Y hX (by omega)
theorem msum_0 {side y : Nat} {f : Nat → Nat → Nat} {F : Nat → Nat} (hy : y < side) (j : mInv side f F y) : ∀ X, X ≤ 0 → F (21 * (y + 1) + X) = psm f X (y + 1) := fun X hX => by
  have e : X = 0 := by omega
  subst e
  rw [psm_x0]
  exact j.2 (y + 1) (by omega)
set_option maxHeartbeats 4000000 in
set_option maxRecDepth 100000 in
theorem m_woodCells (l : Launch) (D : va_G) (cI cJ cZ : ClassId) (mo : Nat) (thr : Nat) (side : Nat) (kf : Nat) (m1 : Nat) (m2 : Nat) (cn : Nat) (m3 : Nat) (m4 : Nat) (m5 : Nat) (m6 : Nat) (m7 : Nat) (m8 : Nat) (m9 : Nat) (m10 : Nat) (m11 : Nat) (m12 : Nat) (sw : Prop) (tn : Nat) (tot : Nat) (psl : Nat) (pc_ : Nat) (m13 : Nat) (IN : Nat → Prop) (s2 : side ≤ 20) : kRead l y_Mo_woodCells w_Mo_woodCells ({ frames := 1, cells := 0, slots := 0, locals := 22 }) D vwCl (tyL cI cJ cZ) [(mo, .inr (6, [.int (nI thr), .int (nI side), .int (nI kf), .ref m1, .ref m2, .int (nI cn), .ref m3, .ref m4, .ref m5, .ref m6, .ref m7, .ref m8, .ref m9, .ref m10, .ref m11, .ref m12, .int (pI sw), .int (nI tn), .int (nI tot), .int (nI psl), .int (nI pc_), .ref m13])), (m1, .inl (cZ, 800, .inl (fun j => pI (IN j))))] [.ref mo] (.int (nI (sN (mwr side IN) side))) := by
  refine Met.ofW (cc := b_Mo_woodCells) (maxL := 4) (ret := (some (.int))) (by decide) rfl ?_
  intro p e s m args below meth c s₁ B hml hv
  obtain ⟨rfl, hP, hK, hZ⟩ := hv
  have hx := B.exec
  have hb := B.bytes
  have hr := B.returns
  have hts := atoms_spec (ws := w_Mo_woodCells) B.pre
  have hown : s.vm.findClass R_Mo = some m.cls := findClass_of_methodNamed B.named
  have hlocks := B.notSynchronized
  have hP : va_P D vwCl [(mo, .inr (6, [.int (nI thr), .int (nI side), .int (nI kf), .ref m1, .ref m2, .int (nI cn), .ref m3, .ref m4, .ref m5, .ref m6, .ref m7, .ref m8, .ref m9, .ref m10, .ref m11, .ref m12, .int (pI sw), .int (nI tn), .int (nI tot), .int (nI psl), .int (nI pc_), .ref m13])), (m1, .inl (cZ, 800, .inl (fun j => pI (IN j))))] s.heap := hP
  have hl := lv_entry ([.ref mo]) (n := 4) (Nat.le_of_ble_eq_true rfl)
  rw [lg_entry_eq]
  generalize (lg_sl ([.ref mo]) ++ List.replicate (4 - (lg_sl ([.ref mo])).length) Slot.unset).toArray = ls at hl ⊢
  have hl : lv_has ls 4 [(0, .ref mo)] := hl
  refine lv_iconst (v := nI 0) hx hb d_Mo_woodCells_0 (by decide +kernel) ?_
  refine ka_i (y := nI (sN (mwr side IN) 0)) (rfl) ?_
  refine lv_istore_n (lv' := [(1, .int (nI (sN (mwr side IN) 0))), (0, .ref mo)]) hx hb d_Mo_woodCells_1 rfl hl (by decide) rfl (fun ls hl => ?_)
  refine lv_iconst (v := nI 0) hx hb d_Mo_woodCells_2 (by decide +kernel) ?_
  refine lv_istore_n (lv' := [(2, .int (nI 0)), (1, .int (nI (sN (mwr side IN) 0))), (0, .ref mo)]) hx hb d_Mo_woodCells_3 rfl hl (by decide) rfl (fun ls hl => ?_)
  have lp : ∀ (n : Nat) (y : Nat), (y + n = side) → ∀ ls : Array Slot, lv_has ls 4 [(2, .int (nI y)), (1, .int (nI (sN (mwr side IN) y))), (0, .ref mo)] → W p l e (headSpec w_Mo_woodCells ({ frames := 1, cells := 0, slots := 0, locals := 22 })).room s m ([.ref mo]).toArray below meth c s.heap [] 0 0 (MQ below (k2_QcV (.int (nI (sN (mwr side IN) side)))) ([.ref mo]).toArray s 0 0 (fun _ => False)) (F0 m 4 ls []) := by
    intro n
    induction n with
    | zero =>
      intro y hi ls hl
      have ek : side = y := by omega
      subst ek
      refine lv_iload_n hx hb d_Mo_woodCells_4 rfl (lv_at hl 0 rfl) ?_
      refine lv_aload_n hx hb d_Mo_woodCells_5 rfl (lv_at hl 2 rfl) ?_
      refine va_get (D := D) (ci := 6) (v := .int (nI side)) (C := R_Mo) (T := T_Mo) (N := 22) hx hb hts (fun w h => List.mem_cons_of_mem _ (iw_Mo w h)) hown hK hP 0 rfl rfl 1 (by decide) (hts _ (List.mem_cons_of_mem _ k_546)) (fun _ h9 => h9) rfl d_Mo_woodCells_6 ?_
      refine kb_cge (tgt := 51) (nI_t (by omega)) (nI_t (by omega)) hx hb d_Mo_woodCells_9 (by decide) (fun c_9 => ?_) (fun c_9 => ?_)
      · refine lv_iload_n hx hb d_Mo_woodCells_51 rfl (lv_at hl 1 rfl) ?_
        exact krdi hx hb hr hlocks d_Mo_woodCells_52
      · exfalso; omega
    | succ n ih =>
      intro y hi ls hl
      refine lv_iload_n hx hb d_Mo_woodCells_4 rfl (lv_at hl 0 rfl) ?_
      refine lv_aload_n hx hb d_Mo_woodCells_5 rfl (lv_at hl 2 rfl) ?_
      refine va_get (D := D) (ci := 6) (v := .int (nI side)) (C := R_Mo) (T := T_Mo) (N := 22) hx hb hts (fun w h => List.mem_cons_of_mem _ (iw_Mo w h)) hown hK hP 0 rfl rfl 1 (by decide) (hts _ (List.mem_cons_of_mem _ k_546)) (fun _ h9 => h9) rfl d_Mo_woodCells_6 ?_
      refine kb_cge (tgt := 51) (nI_t (by omega)) (nI_t (by omega)) hx hb d_Mo_woodCells_9 (by decide) (fun c_9 => ?_) (fun c_9 => ?_)
      · exfalso; omega
      · refine lv_iconst (v := nI 0) hx hb d_Mo_woodCells_12 (by decide +kernel) ?_
        refine lv_istore_n (lv' := [(3, .int (nI 0)), (2, .int (nI y)), (1, .int (nI (sN (mwr side IN) y))), (0, .ref mo)]) hx hb d_Mo_woodCells_13 rfl hl (by decide) rfl (fun ls hl => ?_)
        have lq : ∀ (k : Nat) (x : Nat), (x + k = side) → ∀ ls : Array Slot, lv_has ls 4 [(3, .int (nI x)), (1, .int (nI (sN (mwr side IN) y + sN (fun i_ => wdN (IN (20 * y + i_) ∧ IN (400 + 20 * y + i_))) x))), (2, .int (nI y)), (0, .ref mo)] → W p l e (headSpec w_Mo_woodCells ({ frames := 1, cells := 0, slots := 0, locals := 22 })).room s m ([.ref mo]).toArray below meth c s.heap [] 0 0 (MQ below (k2_QcV (.int (nI (sN (mwr side IN) side)))) ([.ref mo]).toArray s 0 0 (fun _ => False)) (F0 m 14 ls []) := by
          intro k
          induction k with
          | zero =>
            intro x hxk ls hl
            have ek : side = x := by omega
            subst ek
            refine lv_iload_n hx hb d_Mo_woodCells_14 rfl (lv_at hl 0 rfl) ?_
            refine lv_aload_n hx hb d_Mo_woodCells_15 rfl (lv_at hl 3 rfl) ?_
            refine va_get (D := D) (ci := 6) (v := .int (nI side)) (C := R_Mo) (T := T_Mo) (N := 22) hx hb hts (fun w h => List.mem_cons_of_mem _ (iw_Mo w h)) hown hK hP 0 rfl rfl 1 (by decide) (hts _ (List.mem_cons_of_mem _ k_546)) (fun _ h9 => h9) rfl d_Mo_woodCells_16 ?_
            refine kb_cge (tgt := 45) (nI_t (by omega)) (nI_t (by omega)) hx hb d_Mo_woodCells_19 (by decide) (fun c_19 => ?_) (fun c_19 => ?_)
            · refine lv_iinc (v := nI (y + 1)) (lv' := [(2, .int (nI (y + 1))), (3, .int (nI side)), (1, .int (nI (sN (mwr side IN) y + sN (fun i_ => wdN (IN (20 * y + i_) ∧ IN (400 + 20 * y + i_))) side))), (0, .ref mo)]) hx hb d_Mo_woodCells_45 hl (k := 2) rfl (nI_add _ 1) (by decide) rfl (fun ls hl => ?_)
              refine lv_goto (tgt := 4) hx hb d_Mo_woodCells_48 (by decide) ?_
              exact ih (y + 1) (by omega) ls (lv_sub hl [0, 2, 3] rfl)
            · exfalso; omega
          | succ k ih =>
            intro x hxk ls hl
            refine lv_iload_n hx hb d_Mo_woodCells_14 rfl (lv_at hl 0 rfl) ?_
            refine lv_aload_n hx hb d_Mo_woodCells_15 rfl (lv_at hl 3 rfl) ?_
            refine va_get (D := D) (ci := 6) (v := .int (nI side)) (C := R_Mo) (T := T_Mo) (N := 22) hx hb hts (fun w h => List.mem_cons_of_mem _ (iw_Mo w h)) hown hK hP 0 rfl rfl 1 (by decide) (hts _ (List.mem_cons_of_mem _ k_546)) (fun _ h9 => h9) rfl d_Mo_woodCells_16 ?_
            refine kb_cge (tgt := 45) (nI_t (by omega)) (nI_t (by omega)) hx hb d_Mo_woodCells_19 (by decide) (fun c_19 => ?_) (fun c_19 => ?_)
            · exfalso; omega
            · refine lv_aload_n hx hb d_Mo_woodCells_22 rfl (lv_at hl 3 rfl) ?_
              refine lv_iload_n hx hb d_Mo_woodCells_23 rfl (lv_at hl 0 rfl) ?_
              refine lv_iload_n hx hb d_Mo_woodCells_24 rfl (lv_at hl 2 rfl) ?_
              refine kcallR (r := .int (pI (IN (20 * y + x) ∧ IN (400 + 20 * y + x)))) (va_runV (As := [.int (nI x), .int (nI y)]) (rest := []) ⟨hx, hb, hml, hown, hts⟩ (m_isWood l D cI cJ cZ mo thr side kf m1 m2 cn m3 m4 m5 m6 m7 m8 m9 m10 m11 m12 sw tn tot psl pc_ m13 IN x y (by omega) (by omega)) ⟨callB_of 2 hts (gd kc_Mo_isWood) rfl rfl rfl (hts _ (List.mem_cons_of_mem _ k_8)) (hts _ (List.mem_cons_of_mem _ k_652)) (by decide +kernel) ⟨Nat.le_of_ble_eq_true rfl, Nat.le_of_ble_eq_true rfl⟩, hts _ (List.mem_cons_of_mem _ k_654), hts _ (List.mem_cons_of_mem _ ks_15)⟩ ⟨kR_blind, va_recv hK hP (ci := 6) (q0 := 0) rfl rfl, kR_at hP hK hZ [0, 1] rfl⟩ rfl rfl hl.1 rfl (lv_room (Nat.le_of_ble_eq_true rfl)) d_Mo_woodCells_25 ⟨Nat.zero_le _, Nat.zero_le _⟩) ?_
              refine kb_eqP (tgt := 37) hx hb d_Mo_woodCells_28 (by decide) (fun cw => ?_) (fun cw => ?_)
              · refine lv_iload_n hx hb d_Mo_woodCells_37 rfl (lv_at hl 1 rfl) ?_
                refine ka_i (y := nI (sN (mwr side IN) y + sN (fun i_ => wdN (IN (20 * y + i_) ∧ IN (400 + 20 * y + i_))) (x + 1))) (congrArg nI (by
                    show _ = sN (mwr side IN) y + (sN (fun i_ => wdN (IN (20 * y + i_) ∧ IN (400 + 20 * y + i_))) x + wdN (IN (20 * y + x) ∧ IN (400 + 20 * y + x)))
                    rw [wdN_f cw]
                    omega)) ?_
                refine lv_istore_n (lv' := [(1, .int (nI (sN (mwr side IN) y + sN (fun i_ => wdN (IN (20 * y + i_) ∧ IN (400 + 20 * y + i_))) (x + 1)))), (3, .int (nI x)), (2, .int (nI y)), (0, .ref mo)]) hx hb d_Mo_woodCells_38 rfl hl (by decide) rfl (fun ls hl => ?_)
                refine lv_iinc (v := nI (x + 1)) (lv' := [(3, .int (nI (x + 1))), (1, .int (nI (sN (mwr side IN) y + sN (fun i_ => wdN (IN (20 * y + i_) ∧ IN (400 + 20 * y + i_))) (x + 1)))), (2, .int (nI y)), (0, .ref mo)]) hx hb d_Mo_woodCells_39 hl (k := 1) rfl (nI_add _ 1) (by decide) rfl (fun ls hl => ?_)
                refine lv_goto (tgt := 14) hx hb d_Mo_woodCells_42 (by decide) ?_
                exact ih (x + 1) (by omega) ls (lv_sub hl [0, 1, 2, 3] rfl)
              · refine lv_iload_n hx hb d_Mo_woodCells_31 rfl (lv_at hl 1 rfl) ?_
                refine lv_iconst (v := nI 1) hx hb d_Mo_woodCells_32 (by decide +kernel) ?_
                refine lv_iadd hx hb d_Mo_woodCells_33 ?_
                refine ka_i (y := nI ((sN (mwr side IN) y + sN (fun i_ => wdN (IN (20 * y + i_) ∧ IN (400 + 20 * y + i_))) x) + 1)) (nI_add _ _) ?_
                refine lv_goto (tgt := 38) hx hb d_Mo_woodCells_34 (by decide) ?_
                refine ka_i (y := nI (sN (mwr side IN) y + sN (fun i_ => wdN (IN (20 * y + i_) ∧ IN (400 + 20 * y + i_))) (x + 1))) (congrArg nI (by
                    show _ = sN (mwr side IN) y + (sN (fun i_ => wdN (IN (20 * y + i_) ∧ IN (400 + 20 * y + i_))) x + wdN (IN (20 * y + x) ∧ IN (400 + 20 * y + x)))
                    rw [wdN_t cw]
                    omega)) ?_
                refine lv_istore_n (lv' := [(1, .int (nI (sN (mwr side IN) y + sN (fun i_ => wdN (IN (20 * y + i_) ∧ IN (400 + 20 * y + i_))) (x + 1)))), (3, .int (nI x)), (2, .int (nI y)), (0, .ref mo)]) hx hb d_Mo_woodCells_38 rfl hl (by decide) rfl (fun ls hl => ?_)
                refine lv_iinc (v := nI (x + 1)) (lv' := [(3, .int (nI (x + 1))), (1, .int (nI (sN (mwr side IN) y + sN (fun i_ => wdN (IN (20 * y + i_) ∧ IN (400 + 20 * y + i_))) (x + 1)))), (2, .int (nI y)), (0, .ref mo)]) hx hb d_Mo_woodCells_39 hl (k := 1) rfl (nI_add _ 1) (by decide) rfl (fun ls hl => ?_)
                refine lv_goto (tgt := 14) hx hb d_Mo_woodCells_42 (by decide) ?_
                exact ih (x + 1) (by omega) ls (lv_sub hl [0, 1, 2, 3] rfl)
        exact lq side 0 (by omega) ls (lv_sub hl [0, 2, 1, 3] rfl)
  exact lp side 0 (by omega) ls (lv_sub hl [0, 1, 2] rfl)
set_option maxHeartbeats 4000000 in
set_option maxRecDepth 100000 in
theorem m_sums (l : Launch) (D : va_G) (cI cJ cZ : ClassId) (sz : Nat) (mo : Nat) (thr : Nat) (side : Nat) (kf : Nat) (m1 : Nat) (m2 : Nat) (cn : Nat) (m3 : Nat) (m4 : Nat) (m5 : Nat) (m6 : Nat) (m7 : Nat) (m8 : Nat) (m9 : Nat) (m10 : Nat) (m11 : Nat) (m12 : Nat) (sw : Prop) (tn : Nat) (tot : Nat) (psl : Nat) (pc_ : Nat) (m13 : Nat) (IN : Nat → Prop) (LO : Nat → Nat) (F3 : Nat → Nat) (F4 : Nat → Nat) (s2 : side ≤ 20) (e3 : (∀ X, X ≤ side → F3 X = 0) ∧ ∀ Y, Y ≤ side → F3 (21 * Y) = 0) (e4 : (∀ X, X ≤ side → F4 X = 0) ∧ ∀ Y, Y ≤ side → F4 (21 * Y) = 0) : Met l y_Mo_sums w_Mo_sums ({ frames := 1, cells := 0, slots := 0, locals := 22 }) (va_Pc [.ref mo] (kB D vwCl (tyL cI cJ cZ) sz [(mo, .inr (6, [.int (nI thr), .int (nI side), .int (nI kf), .ref m1, .ref m2, .int (nI cn), .ref m3, .ref m4, .ref m5, .ref m6, .ref m7, .ref m8, .ref m9, .ref m10, .ref m11, .ref m12, .int (pI sw), .int (nI tn), .int (nI tot), .int (nI psl), .int (nI pc_), .ref m13])), (m1, .inl (cZ, 800, .inl (fun j => pI (IN j)))), (m2, .inl (cI, 400, .inl (fun j => nI (LO j)))), (m7, .inl (cI, 441, .inl (fun j => nI (F3 j)))), (m8, .inl (cI, 441, .inl (fun j => nI (F4 j))))])) (va_Qv (fun (u : (Nat → Nat) × (Nat → Nat)) => (∀ X Y, X ≤ side → Y ≤ side → u.1 (21 * Y + X) = psm (mfb IN) X Y) ∧ ∀ X Y, X ≤ side → Y ≤ side → u.2 (21 * Y + X) = psm (mfl LO) X Y) (fun (u : (Nat → Nat) × (Nat → Nat)) t => kE D vwCl (va_A [(mo, .inr (6, [.int (nI thr), .int (nI side), .int (nI kf), .ref m1, .ref m2, .int (nI cn), .ref m3, .ref m4, .ref m5, .ref m6, .ref m7, .ref m8, .ref m9, .ref m10, .ref m11, .ref m12, .int (pI sw), .int (nI tn), .int (nI tot), .int (nI psl), .int (nI pc_), .ref m13])), (m1, .inl (cZ, 800, .inl (fun j => pI (IN j)))), (m2, .inl (cI, 400, .inl (fun j => nI (LO j)))), (m7, .inl (cI, 441, .inl (fun j => nI (F3 j)))), (m8, .inl (cI, 441, .inl (fun j => nI (F4 j))))] sz) [(mo, .inr (6, [.int (nI thr), .int (nI side), .int (nI kf), .ref m1, .ref m2, .int (nI cn), .ref m3, .ref m4, .ref m5, .ref m6, .ref m7, .ref m8, .ref m9, .ref m10, .ref m11, .ref m12, .int (pI sw), .int (nI tn), .int (nI tot), .int (nI psl), .int (nI pc_), .ref m13])), (m1, .inl (cZ, 800, .inl (fun j => pI (IN j)))), (m2, .inl (cI, 400, .inl (fun j => nI (LO j)))), (m7, .inl (cI, 441, .inl (fun j => nI (u.1 j)))), (m8, .inl (cI, 441, .inl (fun j => nI (u.2 j))))] t) (va_A [(mo, .inr (6, [.int (nI thr), .int (nI side), .int (nI kf), .ref m1, .ref m2, .int (nI cn), .ref m3, .ref m4, .ref m5, .ref m6, .ref m7, .ref m8, .ref m9, .ref m10, .ref m11, .ref m12, .int (pI sw), .int (nI tn), .int (nI tot), .int (nI psl), .int (nI pc_), .ref m13])), (m1, .inl (cZ, 800, .inl (fun j => pI (IN j)))), (m2, .inl (cI, 400, .inl (fun j => nI (LO j)))), (m7, .inl (cI, 441, .inl (fun j => nI (F3 j)))), (m8, .inl (cI, 441, .inl (fun j => nI (F4 j))))] sz)) 0 0 (va_A [(mo, .inr (6, [.int (nI thr), .int (nI side), .int (nI kf), .ref m1, .ref m2, .int (nI cn), .ref m3, .ref m4, .ref m5, .ref m6, .ref m7, .ref m8, .ref m9, .ref m10, .ref m11, .ref m12, .int (pI sw), .int (nI tn), .int (nI tot), .int (nI psl), .int (nI pc_), .ref m13])), (m1, .inl (cZ, 800, .inl (fun j => pI (IN j)))), (m2, .inl (cI, 400, .inl (fun j => nI (LO j)))), (m7, .inl (cI, 441, .inl (fun j => nI (F3 j)))), (m8, .inl (cI, 441, .inl (fun j => nI (F4 j))))] sz) := by
  refine Met.ofW (cc := b_Mo_sums) (maxL := 4) (ret := none) (by decide) rfl ?_
  intro p e s m args below meth c s₁ B hml hv
  obtain ⟨rfl, hsz, hP, hK, hD0, hZ⟩ := hv
  have hx := B.exec
  have hb := B.bytes
  have hr := B.returns
  have hts := atoms_spec (ws := w_Mo_sums) B.pre
  have hown : s.vm.findClass R_Mo = some m.cls := findClass_of_methodNamed B.named
  have hlocks := B.notSynchronized
  subst hsz
  have hD := hD0.self (sz := s.heap.size)
  generalize hAe : va_A [(mo, .inr (6, [.int (nI thr), .int (nI side), .int (nI kf), .ref m1, .ref m2, .int (nI cn), .ref m3, .ref m4, .ref m5, .ref m6, .ref m7, .ref m8, .ref m9, .ref m10, .ref m11, .ref m12, .int (pI sw), .int (nI tn), .int (nI tot), .int (nI psl), .int (nI pc_), .ref m13])), (m1, .inl (cZ, 800, .inl (fun j => pI (IN j)))), (m2, .inl (cI, 400, .inl (fun j => nI (LO j)))), (m7, .inl (cI, 441, .inl (fun j => nI (F3 j)))), (m8, .inl (cI, 441, .inl (fun j => nI (F4 j))))] s.heap.size = A at hD ⊢
  have hA : ∀ q : Nat, s.heap.size ≤ q → A q := fun q h => by rw [← hAe]; exact Or.inr h
  have hS : va_S A s.heap s.heap [] := va_S.rf
  have hP : va_P D vwCl [(mo, .inr (6, [.int (nI thr), .int (nI side), .int (nI kf), .ref m1, .ref m2, .int (nI cn), .ref m3, .ref m4, .ref m5, .ref m6, .ref m7, .ref m8, .ref m9, .ref m10, .ref m11, .ref m12, .int (pI sw), .int (nI tn), .int (nI tot), .int (nI psl), .int (nI pc_), .ref m13])), (m1, .inl (cZ, 800, .inl (fun j => pI (IN j)))), (m2, .inl (cI, 400, .inl (fun j => nI (LO j)))), (m7, .inl (cI, 441, .inl (fun j => nI (F3 j)))), (m8, .inl (cI, 441, .inl (fun j => nI (F4 j))))] s.heap := hP
  have hl := lv_entry ([.ref mo]) (n := 4) (Nat.le_of_ble_eq_true rfl)
  rw [lg_entry_eq]
  generalize (lg_sl ([.ref mo]) ++ List.replicate (4 - (lg_sl ([.ref mo])).length) Slot.unset).toArray = ls at hl ⊢
  have hl : lv_has ls 4 [(0, .ref mo)] := hl
  refine lv_iconst (v := nI 0) hx hb d_Mo_sums_0 (by decide +kernel) ?_
  refine lv_istore_n (lv' := [(1, .int (nI 0)), (0, .ref mo)]) hx hb d_Mo_sums_1 rfl hl (by decide) rfl (fun ls hl => ?_)
  have lp : ∀ (n : Nat) (y : Nat) (FA : Nat → Nat) (FB : Nat → Nat), (y + n = side) → (mInv side (mfb IN) FA y) → (mInv side (mfl LO) FB y) → ∀ (H : Heap) (locs : List Loc), va_P D vwCl [(mo, .inr (6, [.int (nI thr), .int (nI side), .int (nI kf), .ref m1, .ref m2, .int (nI cn), .ref m3, .ref m4, .ref m5, .ref m6, .ref m7, .ref m8, .ref m9, .ref m10, .ref m11, .ref m12, .int (pI sw), .int (nI tn), .int (nI tot), .int (nI psl), .int (nI pc_), .ref m13])), (m1, .inl (cZ, 800, .inl (fun j => pI (IN j)))), (m2, .inl (cI, 400, .inl (fun j => nI (LO j)))), (m7, .inl (cI, 441, .inl (fun j => nI (FA j)))), (m8, .inl (cI, 441, .inl (fun j => nI (FB j))))] H → va_D A [(mo, .inr (6, [.int (nI thr), .int (nI side), .int (nI kf), .ref m1, .ref m2, .int (nI cn), .ref m3, .ref m4, .ref m5, .ref m6, .ref m7, .ref m8, .ref m9, .ref m10, .ref m11, .ref m12, .int (pI sw), .int (nI tn), .int (nI tot), .int (nI psl), .int (nI pc_), .ref m13])), (m1, .inl (cZ, 800, .inl (fun j => pI (IN j)))), (m2, .inl (cI, 400, .inl (fun j => nI (LO j)))), (m7, .inl (cI, 441, .inl (fun j => nI (FA j)))), (m8, .inl (cI, 441, .inl (fun j => nI (FB j))))] → va_S A s.heap H locs → ∀ ls : Array Slot, lv_has ls 4 [(1, .int (nI y)), (0, .ref mo)] → W p l e (headSpec w_Mo_sums ({ frames := 1, cells := 0, slots := 0, locals := 22 })).room s m ([.ref mo]).toArray below meth c H locs 0 0 (MQ below (va_Qv (fun (u : (Nat → Nat) × (Nat → Nat)) => (∀ X Y, X ≤ side → Y ≤ side → u.1 (21 * Y + X) = psm (mfb IN) X Y) ∧ ∀ X Y, X ≤ side → Y ≤ side → u.2 (21 * Y + X) = psm (mfl LO) X Y) (fun (u : (Nat → Nat) × (Nat → Nat)) t => kE D vwCl A [(mo, .inr (6, [.int (nI thr), .int (nI side), .int (nI kf), .ref m1, .ref m2, .int (nI cn), .ref m3, .ref m4, .ref m5, .ref m6, .ref m7, .ref m8, .ref m9, .ref m10, .ref m11, .ref m12, .int (pI sw), .int (nI tn), .int (nI tot), .int (nI psl), .int (nI pc_), .ref m13])), (m1, .inl (cZ, 800, .inl (fun j => pI (IN j)))), (m2, .inl (cI, 400, .inl (fun j => nI (LO j)))), (m7, .inl (cI, 441, .inl (fun j => nI (u.1 j)))), (m8, .inl (cI, 441, .inl (fun j => nI (u.2 j))))] t) A) ([.ref mo]).toArray s 0 0 A) (F0 m 2 ls []) := by
    intro n
    induction n with
    | zero =>
      intro y FA FB hi i3 i4 H locs hP hD hS ls hl
      have ek : side = y := by omega
      subst ek
      refine lv_iload_n hx hb d_Mo_sums_2 rfl (lv_at hl 0 rfl) ?_
      refine lv_aload_n hx hb d_Mo_sums_3 rfl (lv_at hl 1 rfl) ?_
      refine va_get (D := D) (ci := 6) (v := .int (nI side)) (C := R_Mo) (T := T_Mo) (N := 22) hx hb hts (fun w h => List.mem_cons_of_mem _ (iw_Mo w h)) hown hK hP 0 rfl rfl 1 (by decide) (hts _ (List.mem_cons_of_mem _ k_546)) (fun _ h9 => h9) rfl d_Mo_sums_4 ?_
      refine kb_cge (tgt := 142) (nI_t (by omega)) (nI_t (by omega)) hx hb d_Mo_sums_7 (by decide) (fun c_7 => ?_) (fun c_7 => ?_)
      · exact kretv (u := (FA, FB)) hx hb hr hP hD hS hlocks rfl (⟨i3.1, i4.1⟩) d_Mo_sums_142
      · exfalso; omega
    | succ n ih =>
      intro y FA FB hi i3 i4 H locs hP hD hS ls hl
      refine lv_iload_n hx hb d_Mo_sums_2 rfl (lv_at hl 0 rfl) ?_
      refine lv_aload_n hx hb d_Mo_sums_3 rfl (lv_at hl 1 rfl) ?_
      refine va_get (D := D) (ci := 6) (v := .int (nI side)) (C := R_Mo) (T := T_Mo) (N := 22) hx hb hts (fun w h => List.mem_cons_of_mem _ (iw_Mo w h)) hown hK hP 0 rfl rfl 1 (by decide) (hts _ (List.mem_cons_of_mem _ k_546)) (fun _ h9 => h9) rfl d_Mo_sums_4 ?_
      refine kb_cge (tgt := 142) (nI_t (by omega)) (nI_t (by omega)) hx hb d_Mo_sums_7 (by decide) (fun c_7 => ?_) (fun c_7 => ?_)
      · exfalso; omega
      · refine lv_iconst (v := nI 0) hx hb d_Mo_sums_10 (by decide +kernel) ?_
        refine lv_istore_n (lv' := [(2, .int (nI 0)), (1, .int (nI y)), (0, .ref mo)]) hx hb d_Mo_sums_11 rfl hl (by decide) rfl (fun ls hl => ?_)
        have lq : ∀ (k : Nat) (x : Nat) (FC : Nat → Nat) (FD : Nat → Nat), (x + k = side) → (mInv side (mfb IN) FC y) → (mInv side (mfl LO) FD y) → (∀ X, X ≤ x → FC (21 * (y + 1) + X) = psm (mfb IN) X (y + 1)) → (∀ X, X ≤ x → FD (21 * (y + 1) + X) = psm (mfl LO) X (y + 1)) → ∀ (H : Heap) (locs : List Loc), va_P D vwCl [(mo, .inr (6, [.int (nI thr), .int (nI side), .int (nI kf), .ref m1, .ref m2, .int (nI cn), .ref m3, .ref m4, .ref m5, .ref m6, .ref m7, .ref m8, .ref m9, .ref m10, .ref m11, .ref m12, .int (pI sw), .int (nI tn), .int (nI tot), .int (nI psl), .int (nI pc_), .ref m13])), (m1, .inl (cZ, 800, .inl (fun j => pI (IN j)))), (m2, .inl (cI, 400, .inl (fun j => nI (LO j)))), (m7, .inl (cI, 441, .inl (fun j => nI (FC j)))), (m8, .inl (cI, 441, .inl (fun j => nI (FD j))))] H → va_D A [(mo, .inr (6, [.int (nI thr), .int (nI side), .int (nI kf), .ref m1, .ref m2, .int (nI cn), .ref m3, .ref m4, .ref m5, .ref m6, .ref m7, .ref m8, .ref m9, .ref m10, .ref m11, .ref m12, .int (pI sw), .int (nI tn), .int (nI tot), .int (nI psl), .int (nI pc_), .ref m13])), (m1, .inl (cZ, 800, .inl (fun j => pI (IN j)))), (m2, .inl (cI, 400, .inl (fun j => nI (LO j)))), (m7, .inl (cI, 441, .inl (fun j => nI (FC j)))), (m8, .inl (cI, 441, .inl (fun j => nI (FD j))))] → va_S A s.heap H locs → ∀ ls : Array Slot, lv_has ls 4 [(2, .int (nI x)), (1, .int (nI y)), (0, .ref mo)] → W p l e (headSpec w_Mo_sums ({ frames := 1, cells := 0, slots := 0, locals := 22 })).room s m ([.ref mo]).toArray below meth c H locs 0 0 (MQ below (va_Qv (fun (u : (Nat → Nat) × (Nat → Nat)) => (∀ X Y, X ≤ side → Y ≤ side → u.1 (21 * Y + X) = psm (mfb IN) X Y) ∧ ∀ X Y, X ≤ side → Y ≤ side → u.2 (21 * Y + X) = psm (mfl LO) X Y) (fun (u : (Nat → Nat) × (Nat → Nat)) t => kE D vwCl A [(mo, .inr (6, [.int (nI thr), .int (nI side), .int (nI kf), .ref m1, .ref m2, .int (nI cn), .ref m3, .ref m4, .ref m5, .ref m6, .ref m7, .ref m8, .ref m9, .ref m10, .ref m11, .ref m12, .int (pI sw), .int (nI tn), .int (nI tot), .int (nI psl), .int (nI pc_), .ref m13])), (m1, .inl (cZ, 800, .inl (fun j => pI (IN j)))), (m2, .inl (cI, 400, .inl (fun j => nI (LO j)))), (m7, .inl (cI, 441, .inl (fun j => nI (u.1 j)))), (m8, .inl (cI, 441, .inl (fun j => nI (u.2 j))))] t) A) ([.ref mo]).toArray s 0 0 A) (F0 m 12 ls []) := by
          intro k
          induction k with
          | zero =>
            intro x FC FD hxk j3 j4 l3 l4 H locs hP hD hS ls hl
            have ek : side = x := by omega
            subst ek
            refine lv_iload_n hx hb d_Mo_sums_12 rfl (lv_at hl 0 rfl) ?_
            refine lv_aload_n hx hb d_Mo_sums_13 rfl (lv_at hl 2 rfl) ?_
            refine va_get (D := D) (ci := 6) (v := .int (nI side)) (C := R_Mo) (T := T_Mo) (N := 22) hx hb hts (fun w h => List.mem_cons_of_mem _ (iw_Mo w h)) hown hK hP 0 rfl rfl 1 (by decide) (hts _ (List.mem_cons_of_mem _ k_546)) (fun _ h9 => h9) rfl d_Mo_sums_14 ?_
            refine kb_cge (tgt := 136) (nI_t (by omega)) (nI_t (by omega)) hx hb d_Mo_sums_17 (by decide) (fun c_17 => ?_) (fun c_17 => ?_)
            · refine lv_iinc (v := nI (y + 1)) (lv' := [(1, .int (nI (y + 1))), (2, .int (nI side)), (0, .ref mo)]) hx hb d_Mo_sums_136 hl (k := 1) rfl (nI_add _ 1) (by decide) rfl (fun ls hl => ?_)
              refine lv_goto (tgt := 2) hx hb d_Mo_sums_139 (by decide) ?_
              exact ih (y + 1) FC FD (by omega) (msum_row j3 l3) (msum_row j4 l4) _ _ hP hD hS ls (lv_sub hl [0, 2] rfl)
            · exfalso; omega
          | succ k ih =>
            intro x FC FD hxk j3 j4 l3 l4 H locs hP hD hS ls hl
            refine lv_iload_n hx hb d_Mo_sums_12 rfl (lv_at hl 0 rfl) ?_
            refine lv_aload_n hx hb d_Mo_sums_13 rfl (lv_at hl 2 rfl) ?_
            refine va_get (D := D) (ci := 6) (v := .int (nI side)) (C := R_Mo) (T := T_Mo) (N := 22) hx hb hts (fun w h => List.mem_cons_of_mem _ (iw_Mo w h)) hown hK hP 0 rfl rfl 1 (by decide) (hts _ (List.mem_cons_of_mem _ k_546)) (fun _ h9 => h9) rfl d_Mo_sums_14 ?_
            refine kb_cge (tgt := 136) (nI_t (by omega)) (nI_t (by omega)) hx hb d_Mo_sums_17 (by decide) (fun c_17 => ?_) (fun c_17 => ?_)
            · exfalso; omega
            · have p3a : FC (21 * (y + 1) + x + 1 - 1) = psm (mfb IN) x (y + 1) := by rw [show 21 * (y + 1) + x + 1 - 1 = 21 * (y + 1) + x by omega]; exact l3 x (Nat.le_refl _)
              have p3b : FC (21 * (y + 1) + x + 1 - 21) = psm (mfb IN) (x + 1) y := by rw [show 21 * (y + 1) + x + 1 - 21 = 21 * y + (x + 1) by omega]; exact j3.1 (x + 1) y (by omega) (Nat.le_refl _)
              have p3c : FC (21 * (y + 1) + x + 1 - 21 - 1) = psm (mfb IN) x y := by rw [show 21 * (y + 1) + x + 1 - 21 - 1 = 21 * y + x by omega]; exact j3.1 x y (by omega) (Nat.le_refl _)
              have p3d := psm_step (mfb IN) x y
              have p4a : FD (21 * (y + 1) + x + 1 - 1) = psm (mfl LO) x (y + 1) := by rw [show 21 * (y + 1) + x + 1 - 1 = 21 * (y + 1) + x by omega]; exact l4 x (Nat.le_refl _)
              have p4b : FD (21 * (y + 1) + x + 1 - 21) = psm (mfl LO) (x + 1) y := by rw [show 21 * (y + 1) + x + 1 - 21 = 21 * y + (x + 1) by omega]; exact j4.1 (x + 1) y (by omega) (Nat.le_refl _)
              have p4c : FD (21 * (y + 1) + x + 1 - 21 - 1) = psm (mfl LO) x y := by rw [show 21 * (y + 1) + x + 1 - 21 - 1 = 21 * y + x by omega]; exact j4.1 x y (by omega) (Nat.le_refl _)
              have p4d := psm_step (mfl LO) x y
              have pb : mfb IN x y = bareN (IN (20 * y + x) ∧ IN (400 + 20 * y + x)) := rfl
              have pl : mfl LO x y = LO (20 * y + x) := rfl
              refine lv_bipush (v := nI 21) hx hb d_Mo_sums_20 (by decide +kernel) ?_
              refine lv_iload_n hx hb d_Mo_sums_22 rfl (lv_at hl 1 rfl) ?_
              refine lv_iconst (v := nI 1) hx hb d_Mo_sums_23 (by decide +kernel) ?_
              refine lv_iadd hx hb d_Mo_sums_24 ?_
              refine ka_i (y := nI (y + 1)) (nI_add _ _) ?_
              refine lv_imul hx hb d_Mo_sums_25 ?_
              refine ka_i (y := nI (21 * (y + 1))) (pk_mul _ _) ?_
              refine lv_iload_n hx hb d_Mo_sums_26 rfl (lv_at hl 0 rfl) ?_
              refine lv_iadd hx hb d_Mo_sums_27 ?_
              refine ka_i (y := nI ((21 * (y + 1)) + x)) (nI_add _ _) ?_
              refine lv_iconst (v := nI 1) hx hb d_Mo_sums_28 (by decide +kernel) ?_
              refine lv_iadd hx hb d_Mo_sums_29 ?_
              refine ka_i (y := nI (((21 * (y + 1)) + x) + 1)) (nI_add _ _) ?_
              refine lv_istore_n (lv' := [(3, .int (nI (((21 * (y + 1)) + x) + 1))), (2, .int (nI x)), (1, .int (nI y)), (0, .ref mo)]) hx hb d_Mo_sums_30 rfl hl (by decide) rfl (fun ls hl => ?_)
              refine lv_aload_n hx hb d_Mo_sums_31 rfl (lv_at hl 3 rfl) ?_
              refine va_get (D := D) (ci := 6) (v := .ref m7) (C := R_Mo) (T := T_Mo) (N := 22) hx hb hts (fun w h => List.mem_cons_of_mem _ (iw_Mo w h)) hown hK hP 0 rfl rfl 10 (by decide) (hts _ (List.mem_cons_of_mem _ k_555)) (fun _ h9 => h9) rfl d_Mo_sums_32 ?_
              refine lv_iload_n hx hb d_Mo_sums_35 rfl (lv_at hl 0 rfl) ?_
              refine lv_aload_n hx hb d_Mo_sums_36 rfl (lv_at hl 3 rfl) ?_
              refine lv_iload_n hx hb d_Mo_sums_37 rfl (lv_at hl 1 rfl) ?_
              refine lv_iload_n hx hb d_Mo_sums_38 rfl (lv_at hl 2 rfl) ?_
              refine kcallR (r := .int (pI (IN (20 * y + x) ∧ IN (400 + 20 * y + x)))) (va_runV (As := [.int (nI x), .int (nI y)]) (rest := [.int (nI (((21 * (y + 1)) + x) + 1)), .ref m7]) ⟨hx, hb, hml, hown, hts⟩ (m_isWood l D cI cJ cZ mo thr side kf m1 m2 cn m3 m4 m5 m6 m7 m8 m9 m10 m11 m12 sw tn tot psl pc_ m13 IN x y (by omega) (by omega)) ⟨callB_of 2 hts (gd kc_Mo_isWood) rfl rfl rfl (hts _ (List.mem_cons_of_mem _ k_8)) (hts _ (List.mem_cons_of_mem _ k_652)) (by decide +kernel) ⟨Nat.le_of_ble_eq_true rfl, Nat.le_of_ble_eq_true rfl⟩, hts _ (List.mem_cons_of_mem _ k_654), hts _ (List.mem_cons_of_mem _ ks_15)⟩ ⟨kR_blind, va_recv hK hP (ci := 6) (q0 := 0) rfl rfl, kR_at hP hK hZ [0, 1] rfl⟩ rfl rfl hl.1 rfl (lv_room (Nat.le_of_ble_eq_true rfl)) d_Mo_sums_39 ⟨Nat.zero_le _, Nat.zero_le _⟩) ?_
              refine kb_eqP (tgt := 49) hx hb d_Mo_sums_42 (by decide) (fun cw => ?_) (fun cw => ?_)
              · have pw := bareN_f cw
                refine lv_iconst (v := nI 1) hx hb d_Mo_sums_49 (by decide +kernel) ?_
                refine lv_aload_n hx hb d_Mo_sums_50 rfl (lv_at hl 3 rfl) ?_
                refine va_get (D := D) (ci := 6) (v := .ref m7) (C := R_Mo) (T := T_Mo) (N := 22) hx hb hts (fun w h => List.mem_cons_of_mem _ (iw_Mo w h)) hown hK hP 0 rfl rfl 10 (by decide) (hts _ (List.mem_cons_of_mem _ k_555)) (fun _ h9 => h9) rfl d_Mo_sums_51 ?_
                refine lv_iload_n hx hb d_Mo_sums_54 rfl (lv_at hl 0 rfl) ?_
                refine lv_iconst (v := nI 1) hx hb d_Mo_sums_55 (by decide +kernel) ?_
                refine lv_isub hx hb d_Mo_sums_56 ?_
                refine ka_i (y := nI ((((21 * (y + 1)) + x) + 1) - 1)) (pk_sub (by omega)) ?_
                refine ka_iald (k := ((((21 * (y + 1)) + x) + 1) - 1)) (n := 441) (f := fun j => nI (FC j)) (nI_t (by omega)) (by omega) hx hb hK hP 3 0 rfl rfl d_Mo_sums_57 ?_
                refine lv_iadd hx hb d_Mo_sums_58 ?_
                refine ka_i (y := nI (1 + (FC ((((21 * (y + 1)) + x) + 1) - 1)))) (nI_add _ _) ?_
                refine lv_aload_n hx hb d_Mo_sums_59 rfl (lv_at hl 3 rfl) ?_
                refine va_get (D := D) (ci := 6) (v := .ref m7) (C := R_Mo) (T := T_Mo) (N := 22) hx hb hts (fun w h => List.mem_cons_of_mem _ (iw_Mo w h)) hown hK hP 0 rfl rfl 10 (by decide) (hts _ (List.mem_cons_of_mem _ k_555)) (fun _ h9 => h9) rfl d_Mo_sums_60 ?_
                refine lv_iload_n hx hb d_Mo_sums_63 rfl (lv_at hl 0 rfl) ?_
                refine lv_bipush (v := nI 21) hx hb d_Mo_sums_64 (by decide +kernel) ?_
                refine lv_isub hx hb d_Mo_sums_66 ?_
                refine ka_i (y := nI ((((21 * (y + 1)) + x) + 1) - 21)) (pk_sub (by omega)) ?_
                refine ka_iald (k := ((((21 * (y + 1)) + x) + 1) - 21)) (n := 441) (f := fun j => nI (FC j)) (nI_t (by omega)) (by omega) hx hb hK hP 3 0 rfl rfl d_Mo_sums_67 ?_
                refine lv_iadd hx hb d_Mo_sums_68 ?_
                refine ka_i (y := nI ((1 + (FC ((((21 * (y + 1)) + x) + 1) - 1))) + (FC ((((21 * (y + 1)) + x) + 1) - 21)))) (nI_add _ _) ?_
                refine lv_aload_n hx hb d_Mo_sums_69 rfl (lv_at hl 3 rfl) ?_
                refine va_get (D := D) (ci := 6) (v := .ref m7) (C := R_Mo) (T := T_Mo) (N := 22) hx hb hts (fun w h => List.mem_cons_of_mem _ (iw_Mo w h)) hown hK hP 0 rfl rfl 10 (by decide) (hts _ (List.mem_cons_of_mem _ k_555)) (fun _ h9 => h9) rfl d_Mo_sums_70 ?_
                refine lv_iload_n hx hb d_Mo_sums_73 rfl (lv_at hl 0 rfl) ?_
                refine lv_bipush (v := nI 21) hx hb d_Mo_sums_74 (by decide +kernel) ?_
                refine lv_isub hx hb d_Mo_sums_76 ?_
                refine ka_i (y := nI ((((21 * (y + 1)) + x) + 1) - 21)) (pk_sub (by omega)) ?_
                refine lv_iconst (v := nI 1) hx hb d_Mo_sums_77 (by decide +kernel) ?_
                refine lv_isub hx hb d_Mo_sums_78 ?_
                refine ka_i (y := nI (((((21 * (y + 1)) + x) + 1) - 21) - 1)) (pk_sub (by omega)) ?_
                refine ka_iald (k := (((((21 * (y + 1)) + x) + 1) - 21) - 1)) (n := 441) (f := fun j => nI (FC j)) (nI_t (by omega)) (by omega) hx hb hK hP 3 0 rfl rfl d_Mo_sums_79 ?_
                refine lv_isub hx hb d_Mo_sums_80 ?_
                refine ka_i (y := nI (((1 + (FC ((((21 * (y + 1)) + x) + 1) - 1))) + (FC ((((21 * (y + 1)) + x) + 1) - 21))) - (FC (((((21 * (y + 1)) + x) + 1) - 21) - 1)))) (pk_sub (by omega)) ?_
                refine ka_i (y := nI (psm (mfb IN) (x + 1) (y + 1))) (congrArg nI (by omega)) ?_
                refine ka_iastN (F := FC) (v := (psm (mfb IN) (x + 1) (y + 1))) (k := (((21 * (y + 1)) + x) + 1)) (n := 441) (nI_t (by omega)) (by omega) hx hb hK hP hD hS 3 0 rfl rfl d_Mo_sums_81 (fun H locs hP hD hS => ?_)
                have hP : va_P D vwCl [(mo, .inr (6, [.int (nI thr), .int (nI side), .int (nI kf), .ref m1, .ref m2, .int (nI cn), .ref m3, .ref m4, .ref m5, .ref m6, .ref m7, .ref m8, .ref m9, .ref m10, .ref m11, .ref m12, .int (pI sw), .int (nI tn), .int (nI tot), .int (nI psl), .int (nI pc_), .ref m13])), (m1, .inl (cZ, 800, .inl (fun j => pI (IN j)))), (m2, .inl (cI, 400, .inl (fun j => nI (LO j)))), (m7, .inl (cI, 441, .inl (fun j => nI ((va_up FC (((21 * (y + 1)) + x) + 1) (psm (mfb IN) (x + 1) (y + 1))) j)))), (m8, .inl (cI, 441, .inl (fun j => nI (FD j))))] H := hP
                have hD : va_D A [(mo, .inr (6, [.int (nI thr), .int (nI side), .int (nI kf), .ref m1, .ref m2, .int (nI cn), .ref m3, .ref m4, .ref m5, .ref m6, .ref m7, .ref m8, .ref m9, .ref m10, .ref m11, .ref m12, .int (pI sw), .int (nI tn), .int (nI tot), .int (nI psl), .int (nI pc_), .ref m13])), (m1, .inl (cZ, 800, .inl (fun j => pI (IN j)))), (m2, .inl (cI, 400, .inl (fun j => nI (LO j)))), (m7, .inl (cI, 441, .inl (fun j => nI ((va_up FC (((21 * (y + 1)) + x) + 1) (psm (mfb IN) (x + 1) (y + 1))) j)))), (m8, .inl (cI, 441, .inl (fun j => nI (FD j))))] := hD
                refine lv_aload_n hx hb d_Mo_sums_82 rfl (lv_at hl 3 rfl) ?_
                refine va_get (D := D) (ci := 6) (v := .ref m8) (C := R_Mo) (T := T_Mo) (N := 22) hx hb hts (fun w h => List.mem_cons_of_mem _ (iw_Mo w h)) hown hK hP 0 rfl rfl 11 (by decide) (hts _ (List.mem_cons_of_mem _ k_556)) (fun _ h9 => h9) rfl d_Mo_sums_83 ?_
                refine lv_iload_n hx hb d_Mo_sums_86 rfl (lv_at hl 0 rfl) ?_
                refine lv_aload_n hx hb d_Mo_sums_87 rfl (lv_at hl 3 rfl) ?_
                refine va_get (D := D) (ci := 6) (v := .ref m2) (C := R_Mo) (T := T_Mo) (N := 22) hx hb hts (fun w h => List.mem_cons_of_mem _ (iw_Mo w h)) hown hK hP 0 rfl rfl 4 (by decide) (hts _ (List.mem_cons_of_mem _ k_549)) (fun _ h9 => h9) rfl d_Mo_sums_88 ?_
                refine lv_bipush (v := nI 20) hx hb d_Mo_sums_91 (by decide +kernel) ?_
                refine lv_iload_n hx hb d_Mo_sums_93 rfl (lv_at hl 2 rfl) ?_
                refine lv_imul hx hb d_Mo_sums_94 ?_
                refine ka_i (y := nI (20 * y)) (pk_mul _ _) ?_
                refine lv_iload_n hx hb d_Mo_sums_95 rfl (lv_at hl 1 rfl) ?_
                refine lv_iadd hx hb d_Mo_sums_96 ?_
                refine ka_i (y := nI ((20 * y) + x)) (nI_add _ _) ?_
                refine ka_iald (k := ((20 * y) + x)) (n := 400) (f := fun j => nI (LO j)) (nI_t (by omega)) (by omega) hx hb hK hP 2 0 rfl rfl d_Mo_sums_97 ?_
                refine lv_aload_n hx hb d_Mo_sums_98 rfl (lv_at hl 3 rfl) ?_
                refine va_get (D := D) (ci := 6) (v := .ref m8) (C := R_Mo) (T := T_Mo) (N := 22) hx hb hts (fun w h => List.mem_cons_of_mem _ (iw_Mo w h)) hown hK hP 0 rfl rfl 11 (by decide) (hts _ (List.mem_cons_of_mem _ k_556)) (fun _ h9 => h9) rfl d_Mo_sums_99 ?_
                refine lv_iload_n hx hb d_Mo_sums_102 rfl (lv_at hl 0 rfl) ?_
                refine lv_iconst (v := nI 1) hx hb d_Mo_sums_103 (by decide +kernel) ?_
                refine lv_isub hx hb d_Mo_sums_104 ?_
                refine ka_i (y := nI ((((21 * (y + 1)) + x) + 1) - 1)) (pk_sub (by omega)) ?_
                refine ka_iald (k := ((((21 * (y + 1)) + x) + 1) - 1)) (n := 441) (f := fun j => nI (FD j)) (nI_t (by omega)) (by omega) hx hb hK hP 4 0 rfl rfl d_Mo_sums_105 ?_
                refine lv_iadd hx hb d_Mo_sums_106 ?_
                refine ka_i (y := nI ((LO ((20 * y) + x)) + (FD ((((21 * (y + 1)) + x) + 1) - 1)))) (nI_add _ _) ?_
                refine lv_aload_n hx hb d_Mo_sums_107 rfl (lv_at hl 3 rfl) ?_
                refine va_get (D := D) (ci := 6) (v := .ref m8) (C := R_Mo) (T := T_Mo) (N := 22) hx hb hts (fun w h => List.mem_cons_of_mem _ (iw_Mo w h)) hown hK hP 0 rfl rfl 11 (by decide) (hts _ (List.mem_cons_of_mem _ k_556)) (fun _ h9 => h9) rfl d_Mo_sums_108 ?_
                refine lv_iload_n hx hb d_Mo_sums_111 rfl (lv_at hl 0 rfl) ?_
                refine lv_bipush (v := nI 21) hx hb d_Mo_sums_112 (by decide +kernel) ?_
                refine lv_isub hx hb d_Mo_sums_114 ?_
                refine ka_i (y := nI ((((21 * (y + 1)) + x) + 1) - 21)) (pk_sub (by omega)) ?_
                refine ka_iald (k := ((((21 * (y + 1)) + x) + 1) - 21)) (n := 441) (f := fun j => nI (FD j)) (nI_t (by omega)) (by omega) hx hb hK hP 4 0 rfl rfl d_Mo_sums_115 ?_
                refine lv_iadd hx hb d_Mo_sums_116 ?_
                refine ka_i (y := nI (((LO ((20 * y) + x)) + (FD ((((21 * (y + 1)) + x) + 1) - 1))) + (FD ((((21 * (y + 1)) + x) + 1) - 21)))) (nI_add _ _) ?_
                refine lv_aload_n hx hb d_Mo_sums_117 rfl (lv_at hl 3 rfl) ?_
                refine va_get (D := D) (ci := 6) (v := .ref m8) (C := R_Mo) (T := T_Mo) (N := 22) hx hb hts (fun w h => List.mem_cons_of_mem _ (iw_Mo w h)) hown hK hP 0 rfl rfl 11 (by decide) (hts _ (List.mem_cons_of_mem _ k_556)) (fun _ h9 => h9) rfl d_Mo_sums_118 ?_
                refine lv_iload_n hx hb d_Mo_sums_121 rfl (lv_at hl 0 rfl) ?_
                refine lv_bipush (v := nI 21) hx hb d_Mo_sums_122 (by decide +kernel) ?_
                refine lv_isub hx hb d_Mo_sums_124 ?_
                refine ka_i (y := nI ((((21 * (y + 1)) + x) + 1) - 21)) (pk_sub (by omega)) ?_
                refine lv_iconst (v := nI 1) hx hb d_Mo_sums_125 (by decide +kernel) ?_
                refine lv_isub hx hb d_Mo_sums_126 ?_
                refine ka_i (y := nI (((((21 * (y + 1)) + x) + 1) - 21) - 1)) (pk_sub (by omega)) ?_
                refine ka_iald (k := (((((21 * (y + 1)) + x) + 1) - 21) - 1)) (n := 441) (f := fun j => nI (FD j)) (nI_t (by omega)) (by omega) hx hb hK hP 4 0 rfl rfl d_Mo_sums_127 ?_
                refine lv_isub hx hb d_Mo_sums_128 ?_
                refine ka_i (y := nI ((((LO ((20 * y) + x)) + (FD ((((21 * (y + 1)) + x) + 1) - 1))) + (FD ((((21 * (y + 1)) + x) + 1) - 21))) - (FD (((((21 * (y + 1)) + x) + 1) - 21) - 1)))) (pk_sub (by omega)) ?_
                refine ka_i (y := nI (psm (mfl LO) (x + 1) (y + 1))) (congrArg nI (by omega)) ?_
                refine ka_iastN (F := FD) (v := (psm (mfl LO) (x + 1) (y + 1))) (k := (((21 * (y + 1)) + x) + 1)) (n := 441) (nI_t (by omega)) (by omega) hx hb hK hP hD hS 4 0 rfl rfl d_Mo_sums_129 (fun H locs hP hD hS => ?_)
                have hP : va_P D vwCl [(mo, .inr (6, [.int (nI thr), .int (nI side), .int (nI kf), .ref m1, .ref m2, .int (nI cn), .ref m3, .ref m4, .ref m5, .ref m6, .ref m7, .ref m8, .ref m9, .ref m10, .ref m11, .ref m12, .int (pI sw), .int (nI tn), .int (nI tot), .int (nI psl), .int (nI pc_), .ref m13])), (m1, .inl (cZ, 800, .inl (fun j => pI (IN j)))), (m2, .inl (cI, 400, .inl (fun j => nI (LO j)))), (m7, .inl (cI, 441, .inl (fun j => nI ((va_up FC (((21 * (y + 1)) + x) + 1) (psm (mfb IN) (x + 1) (y + 1))) j)))), (m8, .inl (cI, 441, .inl (fun j => nI ((va_up FD (((21 * (y + 1)) + x) + 1) (psm (mfl LO) (x + 1) (y + 1))) j))))] H := hP
                have hD : va_D A [(mo, .inr (6, [.int (nI thr), .int (nI side), .int (nI kf), .ref m1, .ref m2, .int (nI cn), .ref m3, .ref m4, .ref m5, .ref m6, .ref m7, .ref m8, .ref m9, .ref m10, .ref m11, .ref m12, .int (pI sw), .int (nI tn), .int (nI tot), .int (nI psl), .int (nI pc_), .ref m13])), (m1, .inl (cZ, 800, .inl (fun j => pI (IN j)))), (m2, .inl (cI, 400, .inl (fun j => nI (LO j)))), (m7, .inl (cI, 441, .inl (fun j => nI ((va_up FC (((21 * (y + 1)) + x) + 1) (psm (mfb IN) (x + 1) (y + 1))) j)))), (m8, .inl (cI, 441, .inl (fun j => nI ((va_up FD (((21 * (y + 1)) + x) + 1) (psm (mfl LO) (x + 1) (y + 1))) j))))] := hD
                refine lv_iinc (v := nI (x + 1)) (lv' := [(2, .int (nI (x + 1))), (3, .int (nI (((21 * (y + 1)) + x) + 1))), (1, .int (nI y)), (0, .ref mo)]) hx hb d_Mo_sums_130 hl (k := 1) rfl (nI_add _ 1) (by decide) rfl (fun ls hl => ?_)
                refine lv_goto (tgt := 12) hx hb d_Mo_sums_133 (by decide) ?_
                have u3 := msum_step s2 (by omega) (by omega) j3 l3 (v := psm (mfb IN) (x + 1) (y + 1)) rfl
                have u4 := msum_step s2 (by omega) (by omega) j4 l4 (v := psm (mfl LO) (x + 1) (y + 1)) rfl
                exact ih (x + 1) (va_up FC (21 * (y + 1) + x + 1) (psm (mfb IN) (x + 1) (y + 1))) (va_up FD (21 * (y + 1) + x + 1) (psm (mfl LO) (x + 1) (y + 1))) (by omega) u3.1 u4.1 u3.2 u4.2 _ _ hP hD hS ls (lv_sub hl [0, 2, 3] rfl)
              · have pw := bareN_t cw
                refine lv_iconst (v := nI 0) hx hb d_Mo_sums_45 (by decide +kernel) ?_
                refine lv_goto (tgt := 50) hx hb d_Mo_sums_46 (by decide) ?_
                refine lv_aload_n hx hb d_Mo_sums_50 rfl (lv_at hl 3 rfl) ?_
                refine va_get (D := D) (ci := 6) (v := .ref m7) (C := R_Mo) (T := T_Mo) (N := 22) hx hb hts (fun w h => List.mem_cons_of_mem _ (iw_Mo w h)) hown hK hP 0 rfl rfl 10 (by decide) (hts _ (List.mem_cons_of_mem _ k_555)) (fun _ h9 => h9) rfl d_Mo_sums_51 ?_
                refine lv_iload_n hx hb d_Mo_sums_54 rfl (lv_at hl 0 rfl) ?_
                refine lv_iconst (v := nI 1) hx hb d_Mo_sums_55 (by decide +kernel) ?_
                refine lv_isub hx hb d_Mo_sums_56 ?_
                refine ka_i (y := nI ((((21 * (y + 1)) + x) + 1) - 1)) (pk_sub (by omega)) ?_
                refine ka_iald (k := ((((21 * (y + 1)) + x) + 1) - 1)) (n := 441) (f := fun j => nI (FC j)) (nI_t (by omega)) (by omega) hx hb hK hP 3 0 rfl rfl d_Mo_sums_57 ?_
                refine lv_iadd hx hb d_Mo_sums_58 ?_
                refine ka_i (y := nI (0 + (FC ((((21 * (y + 1)) + x) + 1) - 1)))) (nI_add _ _) ?_
                refine lv_aload_n hx hb d_Mo_sums_59 rfl (lv_at hl 3 rfl) ?_
                refine va_get (D := D) (ci := 6) (v := .ref m7) (C := R_Mo) (T := T_Mo) (N := 22) hx hb hts (fun w h => List.mem_cons_of_mem _ (iw_Mo w h)) hown hK hP 0 rfl rfl 10 (by decide) (hts _ (List.mem_cons_of_mem _ k_555)) (fun _ h9 => h9) rfl d_Mo_sums_60 ?_
                refine lv_iload_n hx hb d_Mo_sums_63 rfl (lv_at hl 0 rfl) ?_
                refine lv_bipush (v := nI 21) hx hb d_Mo_sums_64 (by decide +kernel) ?_
                refine lv_isub hx hb d_Mo_sums_66 ?_
                refine ka_i (y := nI ((((21 * (y + 1)) + x) + 1) - 21)) (pk_sub (by omega)) ?_
                refine ka_iald (k := ((((21 * (y + 1)) + x) + 1) - 21)) (n := 441) (f := fun j => nI (FC j)) (nI_t (by omega)) (by omega) hx hb hK hP 3 0 rfl rfl d_Mo_sums_67 ?_
                refine lv_iadd hx hb d_Mo_sums_68 ?_
                refine ka_i (y := nI ((0 + (FC ((((21 * (y + 1)) + x) + 1) - 1))) + (FC ((((21 * (y + 1)) + x) + 1) - 21)))) (nI_add _ _) ?_
                refine lv_aload_n hx hb d_Mo_sums_69 rfl (lv_at hl 3 rfl) ?_
                refine va_get (D := D) (ci := 6) (v := .ref m7) (C := R_Mo) (T := T_Mo) (N := 22) hx hb hts (fun w h => List.mem_cons_of_mem _ (iw_Mo w h)) hown hK hP 0 rfl rfl 10 (by decide) (hts _ (List.mem_cons_of_mem _ k_555)) (fun _ h9 => h9) rfl d_Mo_sums_70 ?_
                refine lv_iload_n hx hb d_Mo_sums_73 rfl (lv_at hl 0 rfl) ?_
                refine lv_bipush (v := nI 21) hx hb d_Mo_sums_74 (by decide +kernel) ?_
                refine lv_isub hx hb d_Mo_sums_76 ?_
                refine ka_i (y := nI ((((21 * (y + 1)) + x) + 1) - 21)) (pk_sub (by omega)) ?_
                refine lv_iconst (v := nI 1) hx hb d_Mo_sums_77 (by decide +kernel) ?_
                refine lv_isub hx hb d_Mo_sums_78 ?_
                refine ka_i (y := nI (((((21 * (y + 1)) + x) + 1) - 21) - 1)) (pk_sub (by omega)) ?_
                refine ka_iald (k := (((((21 * (y + 1)) + x) + 1) - 21) - 1)) (n := 441) (f := fun j => nI (FC j)) (nI_t (by omega)) (by omega) hx hb hK hP 3 0 rfl rfl d_Mo_sums_79 ?_
                refine lv_isub hx hb d_Mo_sums_80 ?_
                refine ka_i (y := nI (((0 + (FC ((((21 * (y + 1)) + x) + 1) - 1))) + (FC ((((21 * (y + 1)) + x) + 1) - 21))) - (FC (((((21 * (y + 1)) + x) + 1) - 21) - 1)))) (pk_sub (by omega)) ?_
                refine ka_i (y := nI (psm (mfb IN) (x + 1) (y + 1))) (congrArg nI (by omega)) ?_
                refine ka_iastN (F := FC) (v := (psm (mfb IN) (x + 1) (y + 1))) (k := (((21 * (y + 1)) + x) + 1)) (n := 441) (nI_t (by omega)) (by omega) hx hb hK hP hD hS 3 0 rfl rfl d_Mo_sums_81 (fun H locs hP hD hS => ?_)
                have hP : va_P D vwCl [(mo, .inr (6, [.int (nI thr), .int (nI side), .int (nI kf), .ref m1, .ref m2, .int (nI cn), .ref m3, .ref m4, .ref m5, .ref m6, .ref m7, .ref m8, .ref m9, .ref m10, .ref m11, .ref m12, .int (pI sw), .int (nI tn), .int (nI tot), .int (nI psl), .int (nI pc_), .ref m13])), (m1, .inl (cZ, 800, .inl (fun j => pI (IN j)))), (m2, .inl (cI, 400, .inl (fun j => nI (LO j)))), (m7, .inl (cI, 441, .inl (fun j => nI ((va_up FC (((21 * (y + 1)) + x) + 1) (psm (mfb IN) (x + 1) (y + 1))) j)))), (m8, .inl (cI, 441, .inl (fun j => nI (FD j))))] H := hP
                have hD : va_D A [(mo, .inr (6, [.int (nI thr), .int (nI side), .int (nI kf), .ref m1, .ref m2, .int (nI cn), .ref m3, .ref m4, .ref m5, .ref m6, .ref m7, .ref m8, .ref m9, .ref m10, .ref m11, .ref m12, .int (pI sw), .int (nI tn), .int (nI tot), .int (nI psl), .int (nI pc_), .ref m13])), (m1, .inl (cZ, 800, .inl (fun j => pI (IN j)))), (m2, .inl (cI, 400, .inl (fun j => nI (LO j)))), (m7, .inl (cI, 441, .inl (fun j => nI ((va_up FC (((21 * (y + 1)) + x) + 1) (psm (mfb IN) (x + 1) (y + 1))) j)))), (m8, .inl (cI, 441, .inl (fun j => nI (FD j))))] := hD
                refine lv_aload_n hx hb d_Mo_sums_82 rfl (lv_at hl 3 rfl) ?_
                refine va_get (D := D) (ci := 6) (v := .ref m8) (C := R_Mo) (T := T_Mo) (N := 22) hx hb hts (fun w h => List.mem_cons_of_mem _ (iw_Mo w h)) hown hK hP 0 rfl rfl 11 (by decide) (hts _ (List.mem_cons_of_mem _ k_556)) (fun _ h9 => h9) rfl d_Mo_sums_83 ?_
                refine lv_iload_n hx hb d_Mo_sums_86 rfl (lv_at hl 0 rfl) ?_
                refine lv_aload_n hx hb d_Mo_sums_87 rfl (lv_at hl 3 rfl) ?_
                refine va_get (D := D) (ci := 6) (v := .ref m2) (C := R_Mo) (T := T_Mo) (N := 22) hx hb hts (fun w h => List.mem_cons_of_mem _ (iw_Mo w h)) hown hK hP 0 rfl rfl 4 (by decide) (hts _ (List.mem_cons_of_mem _ k_549)) (fun _ h9 => h9) rfl d_Mo_sums_88 ?_
                refine lv_bipush (v := nI 20) hx hb d_Mo_sums_91 (by decide +kernel) ?_
                refine lv_iload_n hx hb d_Mo_sums_93 rfl (lv_at hl 2 rfl) ?_
                refine lv_imul hx hb d_Mo_sums_94 ?_
                refine ka_i (y := nI (20 * y)) (pk_mul _ _) ?_
                refine lv_iload_n hx hb d_Mo_sums_95 rfl (lv_at hl 1 rfl) ?_
                refine lv_iadd hx hb d_Mo_sums_96 ?_
                refine ka_i (y := nI ((20 * y) + x)) (nI_add _ _) ?_
                refine ka_iald (k := ((20 * y) + x)) (n := 400) (f := fun j => nI (LO j)) (nI_t (by omega)) (by omega) hx hb hK hP 2 0 rfl rfl d_Mo_sums_97 ?_
                refine lv_aload_n hx hb d_Mo_sums_98 rfl (lv_at hl 3 rfl) ?_
                refine va_get (D := D) (ci := 6) (v := .ref m8) (C := R_Mo) (T := T_Mo) (N := 22) hx hb hts (fun w h => List.mem_cons_of_mem _ (iw_Mo w h)) hown hK hP 0 rfl rfl 11 (by decide) (hts _ (List.mem_cons_of_mem _ k_556)) (fun _ h9 => h9) rfl d_Mo_sums_99 ?_
                refine lv_iload_n hx hb d_Mo_sums_102 rfl (lv_at hl 0 rfl) ?_
                refine lv_iconst (v := nI 1) hx hb d_Mo_sums_103 (by decide +kernel) ?_
                refine lv_isub hx hb d_Mo_sums_104 ?_
                refine ka_i (y := nI ((((21 * (y + 1)) + x) + 1) - 1)) (pk_sub (by omega)) ?_
                refine ka_iald (k := ((((21 * (y + 1)) + x) + 1) - 1)) (n := 441) (f := fun j => nI (FD j)) (nI_t (by omega)) (by omega) hx hb hK hP 4 0 rfl rfl d_Mo_sums_105 ?_
                refine lv_iadd hx hb d_Mo_sums_106 ?_
                refine ka_i (y := nI ((LO ((20 * y) + x)) + (FD ((((21 * (y + 1)) + x) + 1) - 1)))) (nI_add _ _) ?_
                refine lv_aload_n hx hb d_Mo_sums_107 rfl (lv_at hl 3 rfl) ?_
                refine va_get (D := D) (ci := 6) (v := .ref m8) (C := R_Mo) (T := T_Mo) (N := 22) hx hb hts (fun w h => List.mem_cons_of_mem _ (iw_Mo w h)) hown hK hP 0 rfl rfl 11 (by decide) (hts _ (List.mem_cons_of_mem _ k_556)) (fun _ h9 => h9) rfl d_Mo_sums_108 ?_
                refine lv_iload_n hx hb d_Mo_sums_111 rfl (lv_at hl 0 rfl) ?_
                refine lv_bipush (v := nI 21) hx hb d_Mo_sums_112 (by decide +kernel) ?_
                refine lv_isub hx hb d_Mo_sums_114 ?_
                refine ka_i (y := nI ((((21 * (y + 1)) + x) + 1) - 21)) (pk_sub (by omega)) ?_
                refine ka_iald (k := ((((21 * (y + 1)) + x) + 1) - 21)) (n := 441) (f := fun j => nI (FD j)) (nI_t (by omega)) (by omega) hx hb hK hP 4 0 rfl rfl d_Mo_sums_115 ?_
                refine lv_iadd hx hb d_Mo_sums_116 ?_
                refine ka_i (y := nI (((LO ((20 * y) + x)) + (FD ((((21 * (y + 1)) + x) + 1) - 1))) + (FD ((((21 * (y + 1)) + x) + 1) - 21)))) (nI_add _ _) ?_
                refine lv_aload_n hx hb d_Mo_sums_117 rfl (lv_at hl 3 rfl) ?_
                refine va_get (D := D) (ci := 6) (v := .ref m8) (C := R_Mo) (T := T_Mo) (N := 22) hx hb hts (fun w h => List.mem_cons_of_mem _ (iw_Mo w h)) hown hK hP 0 rfl rfl 11 (by decide) (hts _ (List.mem_cons_of_mem _ k_556)) (fun _ h9 => h9) rfl d_Mo_sums_118 ?_
                refine lv_iload_n hx hb d_Mo_sums_121 rfl (lv_at hl 0 rfl) ?_
                refine lv_bipush (v := nI 21) hx hb d_Mo_sums_122 (by decide +kernel) ?_
                refine lv_isub hx hb d_Mo_sums_124 ?_
                refine ka_i (y := nI ((((21 * (y + 1)) + x) + 1) - 21)) (pk_sub (by omega)) ?_
                refine lv_iconst (v := nI 1) hx hb d_Mo_sums_125 (by decide +kernel) ?_
                refine lv_isub hx hb d_Mo_sums_126 ?_
                refine ka_i (y := nI (((((21 * (y + 1)) + x) + 1) - 21) - 1)) (pk_sub (by omega)) ?_
                refine ka_iald (k := (((((21 * (y + 1)) + x) + 1) - 21) - 1)) (n := 441) (f := fun j => nI (FD j)) (nI_t (by omega)) (by omega) hx hb hK hP 4 0 rfl rfl d_Mo_sums_127 ?_
                refine lv_isub hx hb d_Mo_sums_128 ?_
                refine ka_i (y := nI ((((LO ((20 * y) + x)) + (FD ((((21 * (y + 1)) + x) + 1) - 1))) + (FD ((((21 * (y + 1)) + x) + 1) - 21))) - (FD (((((21 * (y + 1)) + x) + 1) - 21) - 1)))) (pk_sub (by omega)) ?_
                refine ka_i (y := nI (psm (mfl LO) (x + 1) (y + 1))) (congrArg nI (by omega)) ?_
                refine ka_iastN (F := FD) (v := (psm (mfl LO) (x + 1) (y + 1))) (k := (((21 * (y + 1)) + x) + 1)) (n := 441) (nI_t (by omega)) (by omega) hx hb hK hP hD hS 4 0 rfl rfl d_Mo_sums_129 (fun H locs hP hD hS => ?_)
                have hP : va_P D vwCl [(mo, .inr (6, [.int (nI thr), .int (nI side), .int (nI kf), .ref m1, .ref m2, .int (nI cn), .ref m3, .ref m4, .ref m5, .ref m6, .ref m7, .ref m8, .ref m9, .ref m10, .ref m11, .ref m12, .int (pI sw), .int (nI tn), .int (nI tot), .int (nI psl), .int (nI pc_), .ref m13])), (m1, .inl (cZ, 800, .inl (fun j => pI (IN j)))), (m2, .inl (cI, 400, .inl (fun j => nI (LO j)))), (m7, .inl (cI, 441, .inl (fun j => nI ((va_up FC (((21 * (y + 1)) + x) + 1) (psm (mfb IN) (x + 1) (y + 1))) j)))), (m8, .inl (cI, 441, .inl (fun j => nI ((va_up FD (((21 * (y + 1)) + x) + 1) (psm (mfl LO) (x + 1) (y + 1))) j))))] H := hP
                have hD : va_D A [(mo, .inr (6, [.int (nI thr), .int (nI side), .int (nI kf), .ref m1, .ref m2, .int (nI cn), .ref m3, .ref m4, .ref m5, .ref m6, .ref m7, .ref m8, .ref m9, .ref m10, .ref m11, .ref m12, .int (pI sw), .int (nI tn), .int (nI tot), .int (nI psl), .int (nI pc_), .ref m13])), (m1, .inl (cZ, 800, .inl (fun j => pI (IN j)))), (m2, .inl (cI, 400, .inl (fun j => nI (LO j)))), (m7, .inl (cI, 441, .inl (fun j => nI ((va_up FC (((21 * (y + 1)) + x) + 1) (psm (mfb IN) (x + 1) (y + 1))) j)))), (m8, .inl (cI, 441, .inl (fun j => nI ((va_up FD (((21 * (y + 1)) + x) + 1) (psm (mfl LO) (x + 1) (y + 1))) j))))] := hD
                refine lv_iinc (v := nI (x + 1)) (lv' := [(2, .int (nI (x + 1))), (3, .int (nI (((21 * (y + 1)) + x) + 1))), (1, .int (nI y)), (0, .ref mo)]) hx hb d_Mo_sums_130 hl (k := 1) rfl (nI_add _ 1) (by decide) rfl (fun ls hl => ?_)
                refine lv_goto (tgt := 12) hx hb d_Mo_sums_133 (by decide) ?_
                have u3 := msum_step s2 (by omega) (by omega) j3 l3 (v := psm (mfb IN) (x + 1) (y + 1)) rfl
                have u4 := msum_step s2 (by omega) (by omega) j4 l4 (v := psm (mfl LO) (x + 1) (y + 1)) rfl
                exact ih (x + 1) (va_up FC (21 * (y + 1) + x + 1) (psm (mfb IN) (x + 1) (y + 1))) (va_up FD (21 * (y + 1) + x + 1) (psm (mfl LO) (x + 1) (y + 1))) (by omega) u3.1 u4.1 u3.2 u4.2 _ _ hP hD hS ls (lv_sub hl [0, 2, 3] rfl)
        exact lq side 0 FA FB (by omega) i3 i4 (msum_0 (by omega) i3) (msum_0 (by omega) i4) _ _ hP hD hS ls (lv_sub hl [0, 1, 2] rfl)
  exact lp side 0 F3 F4 (by omega) (⟨fun X Y hX hY => by
      have e : Y = 0 := by omega
      subst e
      rw [psm_y0, Nat.mul_zero, Nat.zero_add]
      exact e3.1 X hX, e3.2⟩) (⟨fun X Y hX hY => by
      have e : Y = 0 := by omega
      subst e
      rw [psm_y0, Nat.mul_zero, Nat.zero_add]
      exact e4.1 X hX, e4.2⟩) _ _ hP hD hS ls (lv_sub hl [0, 1] rfl)
