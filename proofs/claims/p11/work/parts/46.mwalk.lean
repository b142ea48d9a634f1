theorem d_Mo_add_0 : decode b_Mo_add 0 = .ok (.iload_n 2, 1) := by decide +kernel
theorem d_Mo_add_1 : decode b_Mo_add 1 = .ok (.ifCond .ne 8, 3) := by decide +kernel
theorem d_Mo_add_4 : decode b_Mo_add 4 = .ok (.iload 4, 2) := by decide +kernel
theorem d_Mo_add_6 : decode b_Mo_add 6 = .ok (.goto 4, 3) := by decide +kernel
theorem d_Mo_add_9 : decode b_Mo_add 9 = .ok (.iload_n 3, 1) := by decide +kernel
theorem d_Mo_add_10 : decode b_Mo_add 10 = .ok (.istore 5, 2) := by decide +kernel
theorem d_Mo_add_12 : decode b_Mo_add 12 = .ok (.iload_n 2, 1) := by decide +kernel
theorem d_Mo_add_13 : decode b_Mo_add 13 = .ok (.ifCond .ne 7, 3) := by decide +kernel
theorem d_Mo_add_16 : decode b_Mo_add 16 = .ok (.iload_n 3, 1) := by decide +kernel
theorem d_Mo_add_17 : decode b_Mo_add 17 = .ok (.goto 5, 3) := by decide +kernel
theorem d_Mo_add_20 : decode b_Mo_add 20 = .ok (.iload 4, 2) := by decide +kernel
theorem d_Mo_add_22 : decode b_Mo_add 22 = .ok (.istore 6, 2) := by decide +kernel
theorem d_Mo_add_24 : decode b_Mo_add 24 = .ok (.bipush 6, 2) := by decide +kernel
theorem d_Mo_add_26 : decode b_Mo_add 26 = .ok (.aload_n 0, 1) := by decide +kernel
theorem d_Mo_add_27 : decode b_Mo_add 27 = .ok (.getfield 133, 3) := by decide +kernel
theorem d_Mo_add_30 : decode b_Mo_add 30 = .ok (.imul, 1) := by decide +kernel
theorem d_Mo_add_31 : decode b_Mo_add 31 = .ok (.istore 7, 2) := by decide +kernel
theorem d_Mo_add_33 : decode b_Mo_add 33 = .ok (.aload_n 0, 1) := by decide +kernel
theorem d_Mo_add_34 : decode b_Mo_add 34 = .ok (.getfield 47, 3) := by decide +kernel
theorem d_Mo_add_37 : decode b_Mo_add 37 = .ok (.iload 7, 2) := by decide +kernel
theorem d_Mo_add_39 : decode b_Mo_add 39 = .ok (.iload_n 1, 1) := by decide +kernel
theorem d_Mo_add_40 : decode b_Mo_add 40 = .ok (.iastore, 1) := by decide +kernel
theorem d_Mo_add_41 : decode b_Mo_add 41 = .ok (.aload_n 0, 1) := by decide +kernel
theorem d_Mo_add_42 : decode b_Mo_add 42 = .ok (.getfield 47, 3) := by decide +kernel
theorem d_Mo_add_45 : decode b_Mo_add 45 = .ok (.iload 7, 2) := by decide +kernel
theorem d_Mo_add_47 : decode b_Mo_add 47 = .ok (.iconst 1, 1) := by decide +kernel
theorem d_Mo_add_48 : decode b_Mo_add 48 = .ok (.iadd, 1) := by decide +kernel
theorem d_Mo_add_49 : decode b_Mo_add 49 = .ok (.iload 5, 2) := by decide +kernel
theorem d_Mo_add_51 : decode b_Mo_add 51 = .ok (.iastore, 1) := by decide +kernel
theorem d_Mo_add_52 : decode b_Mo_add 52 = .ok (.aload_n 0, 1) := by decide +kernel
theorem d_Mo_add_53 : decode b_Mo_add 53 = .ok (.getfield 47, 3) := by decide +kernel
theorem d_Mo_add_56 : decode b_Mo_add 56 = .ok (.iload 7, 2) := by decide +kernel
theorem d_Mo_add_58 : decode b_Mo_add 58 = .ok (.iconst 2, 1) := by decide +kernel
theorem d_Mo_add_59 : decode b_Mo_add 59 = .ok (.iadd, 1) := by decide +kernel
theorem d_Mo_add_60 : decode b_Mo_add 60 = .ok (.iload 6, 2) := by decide +kernel
theorem d_Mo_add_62 : decode b_Mo_add 62 = .ok (.iastore, 1) := by decide +kernel
theorem d_Mo_add_63 : decode b_Mo_add 63 = .ok (.aload_n 0, 1) := by decide +kernel
theorem d_Mo_add_64 : decode b_Mo_add 64 = .ok (.getfield 47, 3) := by decide +kernel
theorem d_Mo_add_67 : decode b_Mo_add 67 = .ok (.iload 7, 2) := by decide +kernel
theorem d_Mo_add_69 : decode b_Mo_add 69 = .ok (.iconst 3, 1) := by decide +kernel
theorem d_Mo_add_70 : decode b_Mo_add 70 = .ok (.iadd, 1) := by decide +kernel
theorem d_Mo_add_71 : decode b_Mo_add 71 = .ok (.aload_n 0, 1) := by decide +kernel
theorem d_Mo_add_72 : decode b_Mo_add 72 = .ok (.iload_n 1, 1) := by decide +kernel
theorem d_Mo_add_73 : decode b_Mo_add 73 = .ok (.iload_n 2, 1) := by decide +kernel
theorem d_Mo_add_74 : decode b_Mo_add 74 = .ok (.invokevirtual 79, 3) := by decide +kernel
theorem d_Mo_add_77 : decode b_Mo_add 77 = .ok (.iastore, 1) := by decide +kernel
theorem d_Mo_add_78 : decode b_Mo_add 78 = .ok (.aload_n 0, 1) := by decide +kernel
theorem d_Mo_add_79 : decode b_Mo_add 79 = .ok (.getfield 47, 3) := by decide +kernel
theorem d_Mo_add_82 : decode b_Mo_add 82 = .ok (.iload 7, 2) := by decide +kernel
theorem d_Mo_add_84 : decode b_Mo_add 84 = .ok (.iconst 4, 1) := by decide +kernel
theorem d_Mo_add_85 : decode b_Mo_add 85 = .ok (.iadd, 1) := by decide +kernel
theorem d_Mo_add_86 : decode b_Mo_add 86 = .ok (.aload_n 0, 1) := by decide +kernel
theorem d_Mo_add_87 : decode b_Mo_add 87 = .ok (.iload_n 1, 1) := by decide +kernel
theorem d_Mo_add_88 : decode b_Mo_add 88 = .ok (.iload_n 2, 1) := by decide +kernel
theorem d_Mo_add_89 : decode b_Mo_add 89 = .ok (.invokevirtual 83, 3) := by decide +kernel
theorem d_Mo_add_92 : decode b_Mo_add 92 = .ok (.iastore, 1) := by decide +kernel
theorem d_Mo_add_93 : decode b_Mo_add 93 = .ok (.aload_n 0, 1) := by decide +kernel
theorem d_Mo_add_94 : decode b_Mo_add 94 = .ok (.getfield 47, 3) := by decide +kernel
theorem d_Mo_add_97 : decode b_Mo_add 97 = .ok (.iload 7, 2) := by decide +kernel
theorem d_Mo_add_99 : decode b_Mo_add 99 = .ok (.iconst 5, 1) := by decide +kernel
theorem d_Mo_add_100 : decode b_Mo_add 100 = .ok (.iadd, 1) := by decide +kernel
theorem d_Mo_add_101 : decode b_Mo_add 101 = .ok (.aload_n 0, 1) := by decide +kernel
theorem d_Mo_add_102 : decode b_Mo_add 102 = .ok (.iload_n 1, 1) := by decide +kernel
theorem d_Mo_add_103 : decode b_Mo_add 103 = .ok (.iload 5, 2) := by decide +kernel
theorem d_Mo_add_105 : decode b_Mo_add 105 = .ok (.iload 6, 2) := by decide +kernel
theorem d_Mo_add_107 : decode b_Mo_add 107 = .ok (.iload_n 2, 1) := by decide +kernel
theorem d_Mo_add_108 : decode b_Mo_add 108 = .ok (.invokevirtual 94, 3) := by decide +kernel
theorem d_Mo_add_111 : decode b_Mo_add 111 = .ok (.iastore, 1) := by decide +kernel
theorem d_Mo_add_112 : decode b_Mo_add 112 = .ok (.aload_n 0, 1) := by decide +kernel
theorem d_Mo_add_113 : decode b_Mo_add 113 = .ok (.dup, 1) := by decide +kernel
theorem d_Mo_add_114 : decode b_Mo_add 114 = .ok (.getfield 133, 3) := by decide +kernel
theorem d_Mo_add_117 : decode b_Mo_add 117 = .ok (.iconst 1, 1) := by decide +kernel
theorem d_Mo_add_118 : decode b_Mo_add 118 = .ok (.iadd, 1) := by decide +kernel
theorem d_Mo_add_119 : decode b_Mo_add 119 = .ok (.putfield 133, 3) := by decide +kernel
theorem d_Mo_add_122 : decode b_Mo_add 122 = .ok (.return_, 1) := by decide +kernel
theorem d_Mo_walkSlab_0 : decode b_Mo_walkSlab 0 = .ok (.iconst 0, 1) := by decide +kernel
theorem d_Mo_walkSlab_1 : decode b_Mo_walkSlab 1 = .ok (.istore 4, 2) := by decide +kernel
theorem d_Mo_walkSlab_3 : decode b_Mo_walkSlab 3 = .ok (.iload 4, 2) := by decide +kernel
theorem d_Mo_walkSlab_5 : decode b_Mo_walkSlab 5 = .ok (.aload_n 0, 1) := by decide +kernel
theorem d_Mo_walkSlab_6 : decode b_Mo_walkSlab 6 = .ok (.getfield 50, 3) := by decide +kernel
theorem d_Mo_walkSlab_9 : decode b_Mo_walkSlab 9 = .ok (.if_icmp .ge 128, 3) := by decide +kernel
theorem d_Mo_walkSlab_12 : decode b_Mo_walkSlab 12 = .ok (.iload_n 2, 1) := by decide +kernel
theorem d_Mo_walkSlab_13 : decode b_Mo_walkSlab 13 = .ok (.iload_n 3, 1) := by decide +kernel
theorem d_Mo_walkSlab_14 : decode b_Mo_walkSlab 14 = .ok (.iload 4, 2) := by decide +kernel
theorem d_Mo_walkSlab_16 : decode b_Mo_walkSlab 16 = .ok (.invokestatic 101, 3) := by decide +kernel
theorem d_Mo_walkSlab_19 : decode b_Mo_walkSlab 19 = .ok (.istore 5, 2) := by decide +kernel
theorem d_Mo_walkSlab_21 : decode b_Mo_walkSlab 21 = .ok (.iconst 0, 1) := by decide +kernel
theorem d_Mo_walkSlab_22 : decode b_Mo_walkSlab 22 = .ok (.istore 6, 2) := by decide +kernel
theorem d_Mo_walkSlab_24 : decode b_Mo_walkSlab 24 = .ok (.iload 6, 2) := by decide +kernel
theorem d_Mo_walkSlab_26 : decode b_Mo_walkSlab 26 = .ok (.aload_n 0, 1) := by decide +kernel
theorem d_Mo_walkSlab_27 : decode b_Mo_walkSlab 27 = .ok (.getfield 73, 3) := by decide +kernel
theorem d_Mo_walkSlab_30 : decode b_Mo_walkSlab 30 = .ok (.if_icmp .ge 64, 3) := by decide +kernel
theorem d_Mo_walkSlab_33 : decode b_Mo_walkSlab 33 = .ok (.aload_n 0, 1) := by decide +kernel
theorem d_Mo_walkSlab_34 : decode b_Mo_walkSlab 34 = .ok (.iload 6, 2) := by decide +kernel
theorem d_Mo_walkSlab_36 : decode b_Mo_walkSlab 36 = .ok (.iload_n 1, 1) := by decide +kernel
theorem d_Mo_walkSlab_37 : decode b_Mo_walkSlab 37 = .ok (.iload_n 2, 1) := by decide +kernel
theorem d_Mo_walkSlab_38 : decode b_Mo_walkSlab 38 = .ok (.iload_n 3, 1) := by decide +kernel
theorem d_Mo_walkSlab_39 : decode b_Mo_walkSlab 39 = .ok (.iload 4, 2) := by decide +kernel
theorem d_Mo_walkSlab_41 : decode b_Mo_walkSlab 41 = .ok (.invokevirtual 105, 3) := by decide +kernel
theorem d_Mo_walkSlab_44 : decode b_Mo_walkSlab 44 = .ok (.ifCond .eq 44, 3) := by decide +kernel
theorem d_Mo_walkSlab_47 : decode b_Mo_walkSlab 47 = .ok (.aload_n 0, 1) := by decide +kernel
theorem d_Mo_walkSlab_48 : decode b_Mo_walkSlab 48 = .ok (.iload 6, 2) := by decide +kernel
theorem d_Mo_walkSlab_50 : decode b_Mo_walkSlab 50 = .ok (.iload_n 1, 1) := by decide +kernel
theorem d_Mo_walkSlab_51 : decode b_Mo_walkSlab 51 = .ok (.iload_n 2, 1) := by decide +kernel
theorem d_Mo_walkSlab_52 : decode b_Mo_walkSlab 52 = .ok (.iload_n 3, 1) := by decide +kernel
theorem d_Mo_walkSlab_53 : decode b_Mo_walkSlab 53 = .ok (.iload 4, 2) := by decide +kernel
theorem d_Mo_walkSlab_55 : decode b_Mo_walkSlab 55 = .ok (.invokevirtual 109, 3) := by decide +kernel
theorem d_Mo_walkSlab_58 : decode b_Mo_walkSlab 58 = .ok (.aload_n 0, 1) := by decide +kernel
theorem d_Mo_walkSlab_59 : decode b_Mo_walkSlab 59 = .ok (.getfield 35, 3) := by decide +kernel
theorem d_Mo_walkSlab_62 : decode b_Mo_walkSlab 62 = .ok (.iload 5, 2) := by decide +kernel
theorem d_Mo_walkSlab_64 : decode b_Mo_walkSlab 64 = .ok (.iaload, 1) := by decide +kernel
theorem d_Mo_walkSlab_65 : decode b_Mo_walkSlab 65 = .ok (.if_icmp .ne 23, 3) := by decide +kernel
theorem d_Mo_walkSlab_68 : decode b_Mo_walkSlab 68 = .ok (.aload_n 0, 1) := by decide +kernel
theorem d_Mo_walkSlab_69 : decode b_Mo_walkSlab 69 = .ok (.iload 6, 2) := by decide +kernel
theorem d_Mo_walkSlab_71 : decode b_Mo_walkSlab 71 = .ok (.iload_n 2, 1) := by decide +kernel
theorem d_Mo_walkSlab_72 : decode b_Mo_walkSlab 72 = .ok (.iload_n 3, 1) := by decide +kernel
theorem d_Mo_walkSlab_73 : decode b_Mo_walkSlab 73 = .ok (.iload 4, 2) := by decide +kernel
theorem d_Mo_walkSlab_75 : decode b_Mo_walkSlab 75 = .ok (.invokevirtual 113, 3) := by decide +kernel
theorem d_Mo_walkSlab_78 : decode b_Mo_walkSlab 78 = .ok (.aload_n 0, 1) := by decide +kernel
theorem d_Mo_walkSlab_79 : decode b_Mo_walkSlab 79 = .ok (.getfield 38, 3) := by decide +kernel
theorem d_Mo_walkSlab_82 : decode b_Mo_walkSlab 82 = .ok (.iload 5, 2) := by decide +kernel
theorem d_Mo_walkSlab_84 : decode b_Mo_walkSlab 84 = .ok (.iaload, 1) := by decide +kernel
theorem d_Mo_walkSlab_85 : decode b_Mo_walkSlab 85 = .ok (.if_icmp .eq 9, 3) := by decide +kernel
theorem d_Mo_walkSlab_88 : decode b_Mo_walkSlab 88 = .ok (.iinc 6 1, 3) := by decide +kernel
theorem d_Mo_walkSlab_91 : decode b_Mo_walkSlab 91 = .ok (.goto (-67), 3) := by decide +kernel
theorem d_Mo_walkSlab_94 : decode b_Mo_walkSlab 94 = .ok (.iload 6, 2) := by decide +kernel
theorem d_Mo_walkSlab_96 : decode b_Mo_walkSlab 96 = .ok (.aload_n 0, 1) := by decide +kernel
theorem d_Mo_walkSlab_97 : decode b_Mo_walkSlab 97 = .ok (.getfield 73, 3) := by decide +kernel
theorem d_Mo_walkSlab_100 : decode b_Mo_walkSlab 100 = .ok (.if_icmp .ge 31, 3) := by decide +kernel
theorem d_Mo_walkSlab_103 : decode b_Mo_walkSlab 103 = .ok (.aload_n 0, 1) := by decide +kernel
theorem d_Mo_walkSlab_104 : decode b_Mo_walkSlab 104 = .ok (.iload 6, 2) := by decide +kernel
theorem d_Mo_walkSlab_106 : decode b_Mo_walkSlab 106 = .ok (.iload_n 1, 1) := by decide +kernel
theorem d_Mo_walkSlab_107 : decode b_Mo_walkSlab 107 = .ok (.iload_n 2, 1) := by decide +kernel
theorem d_Mo_walkSlab_108 : decode b_Mo_walkSlab 108 = .ok (.iload 4, 2) := by decide +kernel
theorem d_Mo_walkSlab_110 : decode b_Mo_walkSlab 110 = .ok (.invokevirtual 136, 3) := by decide +kernel
theorem d_Mo_walkSlab_113 : decode b_Mo_walkSlab 113 = .ok (.aload_n 0, 1) := by decide +kernel
theorem d_Mo_walkSlab_114 : decode b_Mo_walkSlab 114 = .ok (.iload 4, 2) := by decide +kernel
theorem d_Mo_walkSlab_116 : decode b_Mo_walkSlab 116 = .ok (.aload_n 0, 1) := by decide +kernel
theorem d_Mo_walkSlab_117 : decode b_Mo_walkSlab 117 = .ok (.getfield 20, 3) := by decide +kernel
theorem d_Mo_walkSlab_120 : decode b_Mo_walkSlab 120 = .ok (.iload 6, 2) := by decide +kernel
theorem d_Mo_walkSlab_122 : decode b_Mo_walkSlab 122 = .ok (.iaload, 1) := by decide +kernel
theorem d_Mo_walkSlab_123 : decode b_Mo_walkSlab 123 = .ok (.invokevirtual 98, 3) := by decide +kernel
theorem d_Mo_walkSlab_126 : decode b_Mo_walkSlab 126 = .ok (.istore 4, 2) := by decide +kernel
theorem d_Mo_walkSlab_128 : decode b_Mo_walkSlab 128 = .ok (.goto 6, 3) := by decide +kernel
theorem d_Mo_walkSlab_131 : decode b_Mo_walkSlab 131 = .ok (.iinc 4 1, 3) := by decide +kernel
theorem d_Mo_walkSlab_134 : decode b_Mo_walkSlab 134 = .ok (.goto (-131), 3) := by decide +kernel
theorem d_Mo_walkSlab_137 : decode b_Mo_walkSlab 137 = .ok (.return_, 1) := by decide +kernel
/-- the boards as the reference lays them down -/
def atP (side : Nat) (th wi wo : Nat → Nat) (fl : Nat → Nat → Nat) (tq : Nat) (AT : Nat → Nat) (s : PSt) : Prop := ∀ k, k < s.1 → (AT (6 * k) = s.2.1 k ∧ AT (6 * k + 1) = s.2.2.1 k ∧ AT (6 * k + 2) = s.2.2.2.1 k ∧ AT (6 * k + 3) = (if ((tq : Nat) : Int) = 0 then wi (s.2.1 k) else th (s.2.1 k)) ∧ AT (6 * k + 4) = (if ((tq : Nat) : Int) = 0 then th (s.2.1 k) else wi (s.2.1 k)) ∧ AT (6 * k + 5) = (max 0 ((wo (s.2.1 k) : Int) - sumZ fl side ((s.2.2.1 k : Nat) : Int) ((s.2.2.2.1 k : Nat) : Int) (if ((tq : Nat) : Int) = 0 then wi (s.2.1 k) else th (s.2.1 k)) (if ((tq : Nat) : Int) = 0 then th (s.2.1 k) else wi (s.2.1 k)))).toNat) ∧ AT (6 * k + 1) + AT (6 * k + 3) ≤ side ∧ AT (6 * k + 2) + AT (6 * k + 4) ≤ side
def at6 (AT : Nat → Nat) (c i x y a b v : Nat) : Nat → Nat := va_up (va_up (va_up (va_up (va_up (va_up AT c i) (c + 1) x) (c + 2) y) (c + 3) a) (c + 4) b) (c + 5) v
theorem at6_new (AT : Nat → Nat) (c i x y a b v : Nat) : at6 AT c i x y a b v c = i ∧ at6 AT c i x y a b v (c + 1) = x ∧ at6 AT c i x y a b v (c + 2) = y ∧ at6 AT c i x y a b v (c + 3) = a ∧ at6 AT c i x y a b v (c + 4) = b ∧ at6 AT c i x y a b v (c + 5) = v := by
  unfold at6
  refine ⟨?_, ?_, ?_, ?_, ?_, ?_⟩
  · rw [va_up_ne _ _ (by omega), va_up_ne _ _ (by omega), va_up_ne _ _ (by omega), va_up_ne _ _ (by omega), va_up_ne _ _ (by omega), va_up_self]
  · rw [va_up_ne _ _ (by omega), va_up_ne _ _ (by omega), va_up_ne _ _ (by omega), va_up_ne _ _ (by omega), va_up_self]
  · rw [va_up_ne _ _ (by omega), va_up_ne _ _ (by omega), va_up_ne _ _ (by omega), va_up_self]
  · rw [va_up_ne _ _ (by omega), va_up_ne _ _ (by omega), va_up_self]
  · rw [va_up_ne _ _ (by omega), va_up_self]
  · rw [va_up_self]
theorem at6_old (AT : Nat → Nat) {c i x y a b v q : Nat} (h : q < c) : at6 AT c i x y a b v q = AT q := by
  unfold at6
  rw [va_up_ne _ _ (by omega), va_up_ne _ _ (by omega), va_up_ne _ _ (by omega), va_up_ne _ _ (by omega), va_up_ne _ _ (by omega), va_up_ne _ _ (by omega)]
theorem atP_add {side : Nat} {th wi wo : Nat → Nat} {fl : Nat → Nat → Nat} {tq : Nat} {AT : Nat → Nat} {s : PSt} {va : Int} {ce i x y : Nat} (h : atP side th wi wo fl tq AT s) (hv : va = max 0 ((wo i : Int) - sumZ fl side ((x : Nat) : Int) ((y : Nat) : Int) (if ((tq : Nat) : Int) = 0 then wi i else th i) (if ((tq : Nat) : Int) = 0 then th i else wi i)))
    (h1 : ((x : Nat) : Int) + (((if ((tq : Nat) : Int) = 0 then wi i else th i) : Nat) : Int) ≤ (side : Int)) (h2 : ((y : Nat) : Int) + (((if ((tq : Nat) : Int) = 0 then th i else wi i) : Nat) : Int) ≤ (side : Int)) :
    atP side th wi wo fl tq (at6 AT (6 * s.1) i x y (if ((tq : Nat) : Int) = 0 then wi i else th i) (if ((tq : Nat) : Int) = 0 then th i else wi i) va.toNat) (addB va ce i x y s) := by
  intro k hk
  have hk' : k < s.1 + 1 := hk
  by_cases e : k = s.1
  · subst e
    obtain ⟨e0, e1, e2, e3, e4, e5⟩ := at6_new AT (6 * s.1) i x y (if ((tq : Nat) : Int) = 0 then wi i else th i) (if ((tq : Nat) : Int) = 0 then th i else wi i) va.toNat
    rw [e0, e1, e2, e3, e4, e5]
    have f1 : (addB va ce i x y s).2.1 s.1 = i := va_up_self _ _ _
    have f2 : (addB va ce i x y s).2.2.1 s.1 = x := va_up_self _ _ _
    have f3 : (addB va ce i x y s).2.2.2.1 s.1 = y := va_up_self _ _ _
    rw [f1, f2, f3]
    exact ⟨⟨rfl, rfl, rfl, rfl, rfl, congrArg Int.toNat hv⟩, by omega, by omega⟩
  · have f1 : (addB va ce i x y s).2.1 k = s.2.1 k := va_up_ne _ _ e
    have f2 : (addB va ce i x y s).2.2.1 k = s.2.2.1 k := va_up_ne _ _ e
    have f3 : (addB va ce i x y s).2.2.2.1 k = s.2.2.2.1 k := va_up_ne _ _ e
    rw [f1, f2, f3, at6_old AT (by omega), at6_old AT (by omega), at6_old AT (by omega), at6_old AT (by omega), at6_old AT (by omega), at6_old AT (by omega)]
    exact h k (by omega)
set_option maxHeartbeats 4000000 in
set_option maxRecDepth 100000 in
theorem m_add (l : Launch) (D : va_G) (cI cJ cZ : ClassId) (sz : Nat) (mo : Nat) (thr : Nat) (side : Nat) (kf : Nat) (m1 : Nat) (m2 : Nat) (cn : Nat) (m3 : Nat) (m4 : Nat) (m5 : Nat) (m6 : Nat) (m7 : Nat) (m8 : Nat) (m9 : Nat) (m10 : Nat) (m11 : Nat) (m12 : Nat) (sw : Prop) (tn : Nat) (tot : Nat) (psl : Nat) (pc_ : Nat) (m13 : Nat) (th : Nat → Nat) (wi : Nat → Nat) (wo : Nat → Nat) (F4 : Nat → Nat) (AT : Nat → Nat) (fb : Nat → Nat → Nat) (fl : Nat → Nat → Nat) (wn : Nat → Nat) (i : Nat) (tq : Nat) (row : Nat) (col : Nat) (s2 : side ≤ 20) (i8 : i < 8) (tq1 : tq ≤ 1) (rb : row ≤ 20) (cb : col ≤ 20) (pb : pc_ < 400) (hok : okC side fb th wi wn tq row col i) (ho : ∀ k, k < 8 → wo k ≤ 100000) (hF : ∀ X Y, X ≤ side → Y ≤ side → F4 (21 * Y + X) = psm fl X Y) (hf : ∀ i j, i < side → j < side → fl i j ≤ 10000) : Met l y_Mo_add w_Mo_add ({ frames := 2, cells := 0, slots := 0, locals := 52 }) (va_Pc [.ref mo, .int (nI i), .int (nI tq), .int (nI row), .int (nI col)] (kB D vwCl (tyL cI cJ cZ) sz [(mo, .inr (6, [.int (nI thr), .int (nI side), .int (nI kf), .ref m1, .ref m2, .int (nI cn), .ref m3, .ref m4, .ref m5, .ref m6, .ref m7, .ref m8, .ref m9, .ref m10, .ref m11, .ref m12, .int (pI sw), .int (nI tn), .int (nI tot), .int (nI psl), .int (nI pc_), .ref m13])), (m3, .inl (cI, 8, .inl (fun j => nI (th j)))), (m4, .inl (cI, 8, .inl (fun j => nI (wi j)))), (m5, .inl (cI, 8, .inl (fun j => nI (wo j)))), (m8, .inl (cI, 441, .inl (fun j => nI (F4 j)))), (m13, .inl (cI, 2400, .inl (fun j => nI (AT j))))])) (va_Qv (fun (_ : Unit) => True) (fun (_ : Unit) t => kE D vwCl (va_A [(mo, .inr (6, [.int (nI thr), .int (nI side), .int (nI kf), .ref m1, .ref m2, .int (nI cn), .ref m3, .ref m4, .ref m5, .ref m6, .ref m7, .ref m8, .ref m9, .ref m10, .ref m11, .ref m12, .int (pI sw), .int (nI tn), .int (nI tot), .int (nI psl), .int (nI pc_), .ref m13])), (m3, .inl (cI, 8, .inl (fun j => nI (th j)))), (m4, .inl (cI, 8, .inl (fun j => nI (wi j)))), (m5, .inl (cI, 8, .inl (fun j => nI (wo j)))), (m8, .inl (cI, 441, .inl (fun j => nI (F4 j)))), (m13, .inl (cI, 2400, .inl (fun j => nI (AT j))))] sz) [(mo, .inr (6, [.int (nI thr), .int (nI side), .int (nI kf), .ref m1, .ref m2, .int (nI cn), .ref m3, .ref m4, .ref m5, .ref m6, .ref m7, .ref m8, .ref m9, .ref m10, .ref m11, .ref m12, .int (pI sw), .int (nI tn), .int (nI tot), .int (nI psl), .int (nI (pc_ + 1)), .ref m13])), (m3, .inl (cI, 8, .inl (fun j => nI (th j)))), (m4, .inl (cI, 8, .inl (fun j => nI (wi j)))), (m5, .inl (cI, 8, .inl (fun j => nI (wo j)))), (m8, .inl (cI, 441, .inl (fun j => nI (F4 j)))), (m13, .inl (cI, 2400, .inl (fun j => nI ((at6 AT (6 * pc_) i (pX tq row col) (pY tq row col) (if ((tq : Nat) : Int) = 0 then wi i else th i) (if ((tq : Nat) : Int) = 0 then th i else wi i) (vaC side fl th wi wo tq row col i).toNat) j))))] t) (va_A [(mo, .inr (6, [.int (nI thr), .int (nI side), .int (nI kf), .ref m1, .ref m2, .int (nI cn), .ref m3, .ref m4, .ref m5, .ref m6, .ref m7, .ref m8, .ref m9, .ref m10, .ref m11, .ref m12, .int (pI sw), .int (nI tn), .int (nI tot), .int (nI psl), .int (nI pc_), .ref m13])), (m3, .inl (cI, 8, .inl (fun j => nI (th j)))), (m4, .inl (cI, 8, .inl (fun j => nI (wi j)))), (m5, .inl (cI, 8, .inl (fun j => nI (wo j)))), (m8, .inl (cI, 441, .inl (fun j => nI (F4 j)))), (m13, .inl (cI, 2400, .inl (fun j => nI (AT j))))] sz)) 0 0 (va_A [(mo, .inr (6, [.int (nI thr), .int (nI side), .int (nI kf), .ref m1, .ref m2, .int (nI cn), .ref m3, .ref m4, .ref m5, .ref m6, .ref m7, .ref m8, .ref m9, .ref m10, .ref m11, .ref m12, .int (pI sw), .int (nI tn), .int (nI tot), .int (nI psl), .int (nI pc_), .ref m13])), (m3, .inl (cI, 8, .inl (fun j => nI (th j)))), (m4, .inl (cI, 8, .inl (fun j => nI (wi j)))), (m5, .inl (cI, 8, .inl (fun j => nI (wo j)))), (m8, .inl (cI, 441, .inl (fun j => nI (F4 j)))), (m13, .inl (cI, 2400, .inl (fun j => nI (AT j))))] sz) := by
  refine Met.ofW (cc := b_Mo_add) (maxL := 8) (ret := none) (by decide) rfl ?_
  intro p e s m args below meth c s₁ B hml hv
  obtain ⟨rfl, hsz, hP, hK, hD0, hZ⟩ := hv
  have hx := B.exec
  have hb := B.bytes
  have hr := B.returns
  have hts := atoms_spec (ws := w_Mo_add) B.pre
  have hown : s.vm.findClass R_Mo = some m.cls := findClass_of_methodNamed B.named
  have hlocks := B.notSynchronized
  subst hsz
  have hD := hD0.self (sz := s.heap.size)
  generalize hAe : va_A [(mo, .inr (6, [.int (nI thr), .int (nI side), .int (nI kf), .ref m1, .ref m2, .int (nI cn), .ref m3, .ref m4, .ref m5, .ref m6, .ref m7, .ref m8, .ref m9, .ref m10, .ref m11, .ref m12, .int (pI sw), .int (nI tn), .int (nI tot), .int (nI psl), .int (nI pc_), .ref m13])), (m3, .inl (cI, 8, .inl (fun j => nI (th j)))), (m4, .inl (cI, 8, .inl (fun j => nI (wi j)))), (m5, .inl (cI, 8, .inl (fun j => nI (wo j)))), (m8, .inl (cI, 441, .inl (fun j => nI (F4 j)))), (m13, .inl (cI, 2400, .inl (fun j => nI (AT j))))] s.heap.size = A at hD ⊢
  have hA : ∀ q : Nat, s.heap.size ≤ q → A q := fun q h => by rw [← hAe]; exact Or.inr h
  have hS : va_S A s.heap s.heap [] := va_S.rf
  have hP : va_P D vwCl [(mo, .inr (6, [.int (nI thr), .int (nI side), .int (nI kf), .ref m1, .ref m2, .int (nI cn), .ref m3, .ref m4, .ref m5, .ref m6, .ref m7, .ref m8, .ref m9, .ref m10, .ref m11, .ref m12, .int (pI sw), .int (nI tn), .int (nI tot), .int (nI psl), .int (nI pc_), .ref m13])), (m3, .inl (cI, 8, .inl (fun j => nI (th j)))), (m4, .inl (cI, 8, .inl (fun j => nI (wi j)))), (m5, .inl (cI, 8, .inl (fun j => nI (wo j)))), (m8, .inl (cI, 441, .inl (fun j => nI (F4 j)))), (m13, .inl (cI, 2400, .inl (fun j => nI (AT j))))] s.heap := hP
  have hl := lv_entry ([.ref mo, .int (nI i), .int (nI tq), .int (nI row), .int (nI col)]) (n := 8) (Nat.le_of_ble_eq_true rfl)
  rw [lg_entry_eq]
  generalize (lg_sl ([.ref mo, .int (nI i), .int (nI tq), .int (nI row), .int (nI col)]) ++ List.replicate (8 - (lg_sl ([.ref mo, .int (nI i), .int (nI tq), .int (nI row), .int (nI col)])).length) Slot.unset).toArray = ls at hl ⊢
  have hl : lv_has ls 8 [(0, .ref mo), (1, .int (nI i)), (2, .int (nI tq)), (3, .int (nI row)), (4, .int (nI col))] := hl
  refine lv_iload_n hx hb d_Mo_add_0 rfl (lv_at hl 2 rfl) ?_
  refine kb_ne (tgt := 9) (nI_t (by omega)) hx hb d_Mo_add_1 (by decide) (fun c1 => ?_) (fun c1 => ?_)
  · have e_tq : tq = 1 := by omega
    subst e_tq
    have og := sumZ_on hok.1
    have g1 : ((row : Nat) : Int) + (((if ((1 : Nat) : Int) = 0 then wi i else th i) : Nat) : Int) ≤ (side : Int) := og.2.2.1
    have g2 : ((col : Nat) : Int) + (((if ((1 : Nat) : Int) = 0 then th i else wi i) : Nat) : Int) ≤ (side : Int) := og.2.2.2
    refine lv_iload_n hx hb d_Mo_add_9 rfl (lv_at hl 3 rfl) ?_
    refine lv_istore (lv' := [(5, .int (nI row)), (0, .ref mo), (1, .int (nI i)), (2, .int (nI 1)), (3, .int (nI row)), (4, .int (nI col))]) hx hb d_Mo_add_10 hl (by decide) rfl (fun ls hl => ?_)
    refine lv_iload_n hx hb d_Mo_add_12 rfl (lv_at hl 3 rfl) ?_
    refine kb_ne (tgt := 20) (nI_t (by omega)) hx hb d_Mo_add_13 (by decide) (fun c_13 => ?_) (fun c_13 => ?_)
    · refine lv_iload hx hb d_Mo_add_20 (lv_at hl 5 rfl) ?_
      refine lv_istore (lv' := [(6, .int (nI col)), (5, .int (nI row)), (0, .ref mo), (1, .int (nI i)), (2, .int (nI 1)), (3, .int (nI row)), (4, .int (nI col))]) hx hb d_Mo_add_22 hl (by decide) rfl (fun ls hl => ?_)
      refine lv_bipush (v := nI 6) hx hb d_Mo_add_24 (by decide +kernel) ?_
      refine lv_aload_n hx hb d_Mo_add_26 rfl (lv_at hl 2 rfl) ?_
      refine va_get (D := D) (ci := 6) (v := .int (nI pc_)) (C := R_Mo) (T := T_Mo) (N := 22) hx hb hts (fun w h => List.mem_cons_of_mem _ (iw_Mo w h)) hown hK hP 0 rfl rfl 20 (by decide) (hts _ (List.mem_cons_of_mem _ k_565)) (fun _ h9 => h9) rfl d_Mo_add_27 ?_
      refine lv_imul hx hb d_Mo_add_30 ?_
      refine ka_i (y := nI (6 * pc_)) (pk_mul _ _) ?_
      refine lv_istore (lv' := [(7, .int (nI (6 * pc_))), (6, .int (nI col)), (5, .int (nI row)), (0, .ref mo), (1, .int (nI i)), (2, .int (nI 1)), (3, .int (nI row)), (4, .int (nI col))]) hx hb d_Mo_add_31 hl (by decide) rfl (fun ls hl => ?_)
      refine lv_aload_n hx hb d_Mo_add_33 rfl (lv_at hl 3 rfl) ?_
      refine va_get (D := D) (ci := 6) (v := .ref m13) (C := R_Mo) (T := T_Mo) (N := 22) hx hb hts (fun w h => List.mem_cons_of_mem _ (iw_Mo w h)) hown hK hP 0 rfl rfl 21 (by decide) (hts _ (List.mem_cons_of_mem _ k_566)) (fun _ h9 => h9) rfl d_Mo_add_34 ?_
      refine lv_iload hx hb d_Mo_add_37 (lv_at hl 0 rfl) ?_
      refine lv_iload_n hx hb d_Mo_add_39 rfl (lv_at hl 4 rfl) ?_
      refine ka_iastN (F := AT) (v := i) (k := (6 * pc_)) (n := 2400) (nI_t (by omega)) (by omega) hx hb hK hP hD hS 5 0 rfl rfl d_Mo_add_40 (fun H locs hP hD hS => ?_)
      have hP : va_P D vwCl [(mo, .inr (6, [.int (nI thr), .int (nI side), .int (nI kf), .ref m1, .ref m2, .int (nI cn), .ref m3, .ref m4, .ref m5, .ref m6, .ref m7, .ref m8, .ref m9, .ref m10, .ref m11, .ref m12, .int (pI sw), .int (nI tn), .int (nI tot), .int (nI psl), .int (nI pc_), .ref m13])), (m3, .inl (cI, 8, .inl (fun j => nI (th j)))), (m4, .inl (cI, 8, .inl (fun j => nI (wi j)))), (m5, .inl (cI, 8, .inl (fun j => nI (wo j)))), (m8, .inl (cI, 441, .inl (fun j => nI (F4 j)))), (m13, .inl (cI, 2400, .inl (fun j => nI ((va_up AT (6 * pc_) i) j))))] H := hP
      have hD : va_D A [(mo, .inr (6, [.int (nI thr), .int (nI side), .int (nI kf), .ref m1, .ref m2, .int (nI cn), .ref m3, .ref m4, .ref m5, .ref m6, .ref m7, .ref m8, .ref m9, .ref m10, .ref m11, .ref m12, .int (pI sw), .int (nI tn), .int (nI tot), .int (nI psl), .int (nI pc_), .ref m13])), (m3, .inl (cI, 8, .inl (fun j => nI (th j)))), (m4, .inl (cI, 8, .inl (fun j => nI (wi j)))), (m5, .inl (cI, 8, .inl (fun j => nI (wo j)))), (m8, .inl (cI, 441, .inl (fun j => nI (F4 j)))), (m13, .inl (cI, 2400, .inl (fun j => nI ((va_up AT (6 * pc_) i) j))))] := hD
      refine lv_aload_n hx hb d_Mo_add_41 rfl (lv_at hl 3 rfl) ?_
      refine va_get (D := D) (ci := 6) (v := .ref m13) (C := R_Mo) (T := T_Mo) (N := 22) hx hb hts (fun w h => List.mem_cons_of_mem _ (iw_Mo w h)) hown hK hP 0 rfl rfl 21 (by decide) (hts _ (List.mem_cons_of_mem _ k_566)) (fun _ h9 => h9) rfl d_Mo_add_42 ?_
      refine lv_iload hx hb d_Mo_add_45 (lv_at hl 0 rfl) ?_
      refine lv_iconst (v := nI 1) hx hb d_Mo_add_47 (by decide +kernel) ?_
      refine lv_iadd hx hb d_Mo_add_48 ?_
      refine ka_i (y := nI ((6 * pc_) + 1)) (nI_add _ _) ?_
      refine lv_iload hx hb d_Mo_add_49 (lv_at hl 2 rfl) ?_
      refine ka_iastN (F := (va_up AT (6 * pc_) i)) (v := row) (k := ((6 * pc_) + 1)) (n := 2400) (nI_t (by omega)) (by omega) hx hb hK hP hD hS 5 0 rfl rfl d_Mo_add_51 (fun H locs hP hD hS => ?_)
      have hP : va_P D vwCl [(mo, .inr (6, [.int (nI thr), .int (nI side), .int (nI kf), .ref m1, .ref m2, .int (nI cn), .ref m3, .ref m4, .ref m5, .ref m6, .ref m7, .ref m8, .ref m9, .ref m10, .ref m11, .ref m12, .int (pI sw), .int (nI tn), .int (nI tot), .int (nI psl), .int (nI pc_), .ref m13])), (m3, .inl (cI, 8, .inl (fun j => nI (th j)))), (m4, .inl (cI, 8, .inl (fun j => nI (wi j)))), (m5, .inl (cI, 8, .inl (fun j => nI (wo j)))), (m8, .inl (cI, 441, .inl (fun j => nI (F4 j)))), (m13, .inl (cI, 2400, .inl (fun j => nI ((va_up (va_up AT (6 * pc_) i) ((6 * pc_) + 1) row) j))))] H := hP
      have hD : va_D A [(mo, .inr (6, [.int (nI thr), .int (nI side), .int (nI kf), .ref m1, .ref m2, .int (nI cn), .ref m3, .ref m4, .ref m5, .ref m6, .ref m7, .ref m8, .ref m9, .ref m10, .ref m11, .ref m12, .int (pI sw), .int (nI tn), .int (nI tot), .int (nI psl), .int (nI pc_), .ref m13])), (m3, .inl (cI, 8, .inl (fun j => nI (th j)))), (m4, .inl (cI, 8, .inl (fun j => nI (wi j)))), (m5, .inl (cI, 8, .inl (fun j => nI (wo j)))), (m8, .inl (cI, 441, .inl (fun j => nI (F4 j)))), (m13, .inl (cI, 2400, .inl (fun j => nI ((va_up (va_up AT (6 * pc_) i) ((6 * pc_) + 1) row) j))))] := hD
      refine lv_aload_n hx hb d_Mo_add_52 rfl (lv_at hl 3 rfl) ?_
      refine va_get (D := D) (ci := 6) (v := .ref m13) (C := R_Mo) (T := T_Mo) (N := 22) hx hb hts (fun w h => List.mem_cons_of_mem _ (iw_Mo w h)) hown hK hP 0 rfl rfl 21 (by decide) (hts _ (List.mem_cons_of_mem _ k_566)) (fun _ h9 => h9) rfl d_Mo_add_53 ?_
      refine lv_iload hx hb d_Mo_add_56 (lv_at hl 0 rfl) ?_
      refine lv_iconst (v := nI 2) hx hb d_Mo_add_58 (by decide +kernel) ?_
      refine lv_iadd hx hb d_Mo_add_59 ?_
      refine ka_i (y := nI ((6 * pc_) + 2)) (nI_add _ _) ?_
      refine lv_iload hx hb d_Mo_add_60 (lv_at hl 1 rfl) ?_
      refine ka_iastN (F := (va_up (va_up AT (6 * pc_) i) ((6 * pc_) + 1) row)) (v := col) (k := ((6 * pc_) + 2)) (n := 2400) (nI_t (by omega)) (by omega) hx hb hK hP hD hS 5 0 rfl rfl d_Mo_add_62 (fun H locs hP hD hS => ?_)
      have hP : va_P D vwCl [(mo, .inr (6, [.int (nI thr), .int (nI side), .int (nI kf), .ref m1, .ref m2, .int (nI cn), .ref m3, .ref m4, .ref m5, .ref m6, .ref m7, .ref m8, .ref m9, .ref m10, .ref m11, .ref m12, .int (pI sw), .int (nI tn), .int (nI tot), .int (nI psl), .int (nI pc_), .ref m13])), (m3, .inl (cI, 8, .inl (fun j => nI (th j)))), (m4, .inl (cI, 8, .inl (fun j => nI (wi j)))), (m5, .inl (cI, 8, .inl (fun j => nI (wo j)))), (m8, .inl (cI, 441, .inl (fun j => nI (F4 j)))), (m13, .inl (cI, 2400, .inl (fun j => nI ((va_up (va_up (va_up AT (6 * pc_) i) ((6 * pc_) + 1) row) ((6 * pc_) + 2) col) j))))] H := hP
      have hD : va_D A [(mo, .inr (6, [.int (nI thr), .int (nI side), .int (nI kf), .ref m1, .ref m2, .int (nI cn), .ref m3, .ref m4, .ref m5, .ref m6, .ref m7, .ref m8, .ref m9, .ref m10, .ref m11, .ref m12, .int (pI sw), .int (nI tn), .int (nI tot), .int (nI psl), .int (nI pc_), .ref m13])), (m3, .inl (cI, 8, .inl (fun j => nI (th j)))), (m4, .inl (cI, 8, .inl (fun j => nI (wi j)))), (m5, .inl (cI, 8, .inl (fun j => nI (wo j)))), (m8, .inl (cI, 441, .inl (fun j => nI (F4 j)))), (m13, .inl (cI, 2400, .inl (fun j => nI ((va_up (va_up (va_up AT (6 * pc_) i) ((6 * pc_) + 1) row) ((6 * pc_) + 2) col) j))))] := hD
      refine lv_aload_n hx hb d_Mo_add_63 rfl (lv_at hl 3 rfl) ?_
      refine va_get (D := D) (ci := 6) (v := .ref m13) (C := R_Mo) (T := T_Mo) (N := 22) hx hb hts (fun w h => List.mem_cons_of_mem _ (iw_Mo w h)) hown hK hP 0 rfl rfl 21 (by decide) (hts _ (List.mem_cons_of_mem _ k_566)) (fun _ h9 => h9) rfl d_Mo_add_64 ?_
      refine lv_iload hx hb d_Mo_add_67 (lv_at hl 0 rfl) ?_
      refine lv_iconst (v := nI 3) hx hb d_Mo_add_69 (by decide +kernel) ?_
      refine lv_iadd hx hb d_Mo_add_70 ?_
      refine ka_i (y := nI ((6 * pc_) + 3)) (nI_add _ _) ?_
      refine lv_aload_n hx hb d_Mo_add_71 rfl (lv_at hl 3 rfl) ?_
      refine lv_iload_n hx hb d_Mo_add_72 rfl (lv_at hl 4 rfl) ?_
      refine lv_iload_n hx hb d_Mo_add_73 rfl (lv_at hl 5 rfl) ?_
      refine kcallR (r := .int (nI (if ((1 : Nat) : Int) = 0 then wi i else th i))) (va_runV (As := [.int (nI i), .int (nI 1)]) (rest := [.int (nI ((6 * pc_) + 3)), .ref m13]) ⟨hx, hb, hml, hown, hts⟩ (m_alongX l D cI cJ cZ mo thr side kf m1 m2 cn m3 m4 m5 m6 m7 m8 m9 m10 m11 m12 sw tn tot psl pc_ m13 th wi i 1 (by omega) (by omega)) ⟨callB_of 2 hts (gd kc_Mo_alongX) rfl rfl rfl (hts _ (List.mem_cons_of_mem _ k_8)) (hts _ (List.mem_cons_of_mem _ k_675)) (by decide +kernel) ⟨Nat.le_of_ble_eq_true rfl, Nat.le_of_ble_eq_true rfl⟩, hts _ (List.mem_cons_of_mem _ k_677), hts _ (List.mem_cons_of_mem _ ks_20)⟩ ⟨kR_blind, va_recv hK hP (ci := 6) (q0 := 0) rfl rfl, kR_at hP hK hZ [0, 1, 2] rfl⟩ rfl rfl hl.1 rfl (lv_room (Nat.le_of_ble_eq_true rfl)) d_Mo_add_74 ⟨Nat.zero_le _, Nat.zero_le _⟩) ?_
      refine ka_iastN (F := (va_up (va_up (va_up AT (6 * pc_) i) ((6 * pc_) + 1) row) ((6 * pc_) + 2) col)) (v := (if ((1 : Nat) : Int) = 0 then wi i else th i)) (k := ((6 * pc_) + 3)) (n := 2400) (nI_t (by omega)) (by omega) hx hb hK hP hD hS 5 0 rfl rfl d_Mo_add_77 (fun H locs hP hD hS => ?_)
      have hP : va_P D vwCl [(mo, .inr (6, [.int (nI thr), .int (nI side), .int (nI kf), .ref m1, .ref m2, .int (nI cn), .ref m3, .ref m4, .ref m5, .ref m6, .ref m7, .ref m8, .ref m9, .ref m10, .ref m11, .ref m12, .int (pI sw), .int (nI tn), .int (nI tot), .int (nI psl), .int (nI pc_), .ref m13])), (m3, .inl (cI, 8, .inl (fun j => nI (th j)))), (m4, .inl (cI, 8, .inl (fun j => nI (wi j)))), (m5, .inl (cI, 8, .inl (fun j => nI (wo j)))), (m8, .inl (cI, 441, .inl (fun j => nI (F4 j)))), (m13, .inl (cI, 2400, .inl (fun j => nI ((va_up (va_up (va_up (va_up AT (6 * pc_) i) ((6 * pc_) + 1) row) ((6 * pc_) + 2) col) ((6 * pc_) + 3) (if ((1 : Nat) : Int) = 0 then wi i else th i)) j))))] H := hP
      have hD : va_D A [(mo, .inr (6, [.int (nI thr), .int (nI side), .int (nI kf), .ref m1, .ref m2, .int (nI cn), .ref m3, .ref m4, .ref m5, .ref m6, .ref m7, .ref m8, .ref m9, .ref m10, .ref m11, .ref m12, .int (pI sw), .int (nI tn), .int (nI tot), .int (nI psl), .int (nI pc_), .ref m13])), (m3, .inl (cI, 8, .inl (fun j => nI (th j)))), (m4, .inl (cI, 8, .inl (fun j => nI (wi j)))), (m5, .inl (cI, 8, .inl (fun j => nI (wo j)))), (m8, .inl (cI, 441, .inl (fun j => nI (F4 j)))), (m13, .inl (cI, 2400, .inl (fun j => nI ((va_up (va_up (va_up (va_up AT (6 * pc_) i) ((6 * pc_) + 1) row) ((6 * pc_) + 2) col) ((6 * pc_) + 3) (if ((1 : Nat) : Int) = 0 then wi i else th i)) j))))] := hD
      refine lv_aload_n hx hb d_Mo_add_78 rfl (lv_at hl 3 rfl) ?_
      refine va_get (D := D) (ci := 6) (v := .ref m13) (C := R_Mo) (T := T_Mo) (N := 22) hx hb hts (fun w h => List.mem_cons_of_mem _ (iw_Mo w h)) hown hK hP 0 rfl rfl 21 (by decide) (hts _ (List.mem_cons_of_mem _ k_566)) (fun _ h9 => h9) rfl d_Mo_add_79 ?_
      refine lv_iload hx hb d_Mo_add_82 (lv_at hl 0 rfl) ?_
      refine lv_iconst (v := nI 4) hx hb d_Mo_add_84 (by decide +kernel) ?_
      refine lv_iadd hx hb d_Mo_add_85 ?_
      refine ka_i (y := nI ((6 * pc_) + 4)) (nI_add _ _) ?_
      refine lv_aload_n hx hb d_Mo_add_86 rfl (lv_at hl 3 rfl) ?_
      refine lv_iload_n hx hb d_Mo_add_87 rfl (lv_at hl 4 rfl) ?_
      refine lv_iload_n hx hb d_Mo_add_88 rfl (lv_at hl 5 rfl) ?_
      refine kcallR (r := .int (nI (if ((1 : Nat) : Int) = 0 then th i else wi i))) (va_runV (As := [.int (nI i), .int (nI 1)]) (rest := [.int (nI ((6 * pc_) + 4)), .ref m13]) ⟨hx, hb, hml, hown, hts⟩ (m_alongY l D cI cJ cZ mo thr side kf m1 m2 cn m3 m4 m5 m6 m7 m8 m9 m10 m11 m12 sw tn tot psl pc_ m13 th wi i 1 (by omega) (by omega)) ⟨callB_of 2 hts (gd kc_Mo_alongY) rfl rfl rfl (hts _ (List.mem_cons_of_mem _ k_8)) (hts _ (List.mem_cons_of_mem _ k_679)) (by decide +kernel) ⟨Nat.le_of_ble_eq_true rfl, Nat.le_of_ble_eq_true rfl⟩, hts _ (List.mem_cons_of_mem _ k_681), hts _ (List.mem_cons_of_mem _ ks_21)⟩ ⟨kR_blind, va_recv hK hP (ci := 6) (q0 := 0) rfl rfl, kR_at hP hK hZ [0, 1, 2] rfl⟩ rfl rfl hl.1 rfl (lv_room (Nat.le_of_ble_eq_true rfl)) d_Mo_add_89 ⟨Nat.zero_le _, Nat.zero_le _⟩) ?_
      refine ka_iastN (F := (va_up (va_up (va_up (va_up AT (6 * pc_) i) ((6 * pc_) + 1) row) ((6 * pc_) + 2) col) ((6 * pc_) + 3) (if ((1 : Nat) : Int) = 0 then wi i else th i))) (v := (if ((1 : Nat) : Int) = 0 then th i else wi i)) (k := ((6 * pc_) + 4)) (n := 2400) (nI_t (by omega)) (by omega) hx hb hK hP hD hS 5 0 rfl rfl d_Mo_add_92 (fun H locs hP hD hS => ?_)
      have hP : va_P D vwCl [(mo, .inr (6, [.int (nI thr), .int (nI side), .int (nI kf), .ref m1, .ref m2, .int (nI cn), .ref m3, .ref m4, .ref m5, .ref m6, .ref m7, .ref m8, .ref m9, .ref m10, .ref m11, .ref m12, .int (pI sw), .int (nI tn), .int (nI tot), .int (nI psl), .int (nI pc_), .ref m13])), (m3, .inl (cI, 8, .inl (fun j => nI (th j)))), (m4, .inl (cI, 8, .inl (fun j => nI (wi j)))), (m5, .inl (cI, 8, .inl (fun j => nI (wo j)))), (m8, .inl (cI, 441, .inl (fun j => nI (F4 j)))), (m13, .inl (cI, 2400, .inl (fun j => nI ((va_up (va_up (va_up (va_up (va_up AT (6 * pc_) i) ((6 * pc_) + 1) row) ((6 * pc_) + 2) col) ((6 * pc_) + 3) (if ((1 : Nat) : Int) = 0 then wi i else th i)) ((6 * pc_) + 4) (if ((1 : Nat) : Int) = 0 then th i else wi i)) j))))] H := hP
      have hD : va_D A [(mo, .inr (6, [.int (nI thr), .int (nI side), .int (nI kf), .ref m1, .ref m2, .int (nI cn), .ref m3, .ref m4, .ref m5, .ref m6, .ref m7, .ref m8, .ref m9, .ref m10, .ref m11, .ref m12, .int (pI sw), .int (nI tn), .int (nI tot), .int (nI psl), .int (nI pc_), .ref m13])), (m3, .inl (cI, 8, .inl (fun j => nI (th j)))), (m4, .inl (cI, 8, .inl (fun j => nI (wi j)))), (m5, .inl (cI, 8, .inl (fun j => nI (wo j)))), (m8, .inl (cI, 441, .inl (fun j => nI (F4 j)))), (m13, .inl (cI, 2400, .inl (fun j => nI ((va_up (va_up (va_up (va_up (va_up AT (6 * pc_) i) ((6 * pc_) + 1) row) ((6 * pc_) + 2) col) ((6 * pc_) + 3) (if ((1 : Nat) : Int) = 0 then wi i else th i)) ((6 * pc_) + 4) (if ((1 : Nat) : Int) = 0 then th i else wi i)) j))))] := hD
      refine lv_aload_n hx hb d_Mo_add_93 rfl (lv_at hl 3 rfl) ?_
      refine va_get (D := D) (ci := 6) (v := .ref m13) (C := R_Mo) (T := T_Mo) (N := 22) hx hb hts (fun w h => List.mem_cons_of_mem _ (iw_Mo w h)) hown hK hP 0 rfl rfl 21 (by decide) (hts _ (List.mem_cons_of_mem _ k_566)) (fun _ h9 => h9) rfl d_Mo_add_94 ?_
      refine lv_iload hx hb d_Mo_add_97 (lv_at hl 0 rfl) ?_
      refine lv_iconst (v := nI 5) hx hb d_Mo_add_99 (by decide +kernel) ?_
      refine lv_iadd hx hb d_Mo_add_100 ?_
      refine ka_i (y := nI ((6 * pc_) + 5)) (nI_add _ _) ?_
      refine lv_aload_n hx hb d_Mo_add_101 rfl (lv_at hl 3 rfl) ?_
      refine lv_iload_n hx hb d_Mo_add_102 rfl (lv_at hl 4 rfl) ?_
      refine lv_iload hx hb d_Mo_add_103 (lv_at hl 2 rfl) ?_
      refine lv_iload hx hb d_Mo_add_105 (lv_at hl 1 rfl) ?_
      refine lv_iload_n hx hb d_Mo_add_107 rfl (lv_at hl 5 rfl) ?_
      refine kcallR (r := .int (nI ((max 0 ((wo i : Int) - sumZ fl side ((row : Nat) : Int) ((col : Nat) : Int) (if ((1 : Nat) : Int) = 0 then wi i else th i) (if ((1 : Nat) : Int) = 0 then th i else wi i))).toNat))) (va_runV (As := [.int (nI i), .int (nI row), .int (nI col), .int (nI 1)]) (rest := [.int (nI ((6 * pc_) + 5)), .ref m13]) ⟨hx, hb, hml, hown, hts⟩ (m_brings l D cI cJ cZ mo thr side kf m1 m2 cn m3 m4 m5 m6 m7 m8 m9 m10 m11 m12 sw tn tot psl pc_ m13 th wi wo F4 fl i row col 1 s2 i8 (by omega) g1 g2 ho hF hf) ⟨callB_of 4 hts (gd kc_Mo_brings) rfl rfl rfl (hts _ (List.mem_cons_of_mem _ k_8)) (hts _ (List.mem_cons_of_mem _ k_691)) (by decide +kernel) ⟨Nat.le_of_ble_eq_true rfl, Nat.le_of_ble_eq_true rfl⟩, hts _ (List.mem_cons_of_mem _ k_693), hts _ (List.mem_cons_of_mem _ ks_24)⟩ ⟨kR_blind, va_recv hK hP (ci := 6) (q0 := 0) rfl rfl, kR_at hP hK hZ [0, 1, 2, 3, 4] rfl⟩ rfl rfl hl.1 rfl (lv_room (Nat.le_of_ble_eq_true rfl)) d_Mo_add_108 ⟨Nat.zero_le _, Nat.zero_le _⟩) ?_
      refine ka_iastN (F := (va_up (va_up (va_up (va_up (va_up AT (6 * pc_) i) ((6 * pc_) + 1) row) ((6 * pc_) + 2) col) ((6 * pc_) + 3) (if ((1 : Nat) : Int) = 0 then wi i else th i)) ((6 * pc_) + 4) (if ((1 : Nat) : Int) = 0 then th i else wi i))) (v := ((max 0 ((wo i : Int) - sumZ fl side ((row : Nat) : Int) ((col : Nat) : Int) (if ((1 : Nat) : Int) = 0 then wi i else th i) (if ((1 : Nat) : Int) = 0 then th i else wi i))).toNat)) (k := ((6 * pc_) + 5)) (n := 2400) (nI_t (by omega)) (by omega) hx hb hK hP hD hS 5 0 rfl rfl d_Mo_add_111 (fun H locs hP hD hS => ?_)
      have hP : va_P D vwCl [(mo, .inr (6, [.int (nI thr), .int (nI side), .int (nI kf), .ref m1, .ref m2, .int (nI cn), .ref m3, .ref m4, .ref m5, .ref m6, .ref m7, .ref m8, .ref m9, .ref m10, .ref m11, .ref m12, .int (pI sw), .int (nI tn), .int (nI tot), .int (nI psl), .int (nI pc_), .ref m13])), (m3, .inl (cI, 8, .inl (fun j => nI (th j)))), (m4, .inl (cI, 8, .inl (fun j => nI (wi j)))), (m5, .inl (cI, 8, .inl (fun j => nI (wo j)))), (m8, .inl (cI, 441, .inl (fun j => nI (F4 j)))), (m13, .inl (cI, 2400, .inl (fun j => nI ((va_up (va_up (va_up (va_up (va_up (va_up AT (6 * pc_) i) ((6 * pc_) + 1) row) ((6 * pc_) + 2) col) ((6 * pc_) + 3) (if ((1 : Nat) : Int) = 0 then wi i else th i)) ((6 * pc_) + 4) (if ((1 : Nat) : Int) = 0 then th i else wi i)) ((6 * pc_) + 5) ((max 0 ((wo i : Int) - sumZ fl side ((row : Nat) : Int) ((col : Nat) : Int) (if ((1 : Nat) : Int) = 0 then wi i else th i) (if ((1 : Nat) : Int) = 0 then th i else wi i))).toNat)) j))))] H := hP
      have hD : va_D A [(mo, .inr (6, [.int (nI thr), .int (nI side), .int (nI kf), .ref m1, .ref m2, .int (nI cn), .ref m3, .ref m4, .ref m5, .ref m6, .ref m7, .ref m8, .ref m9, .ref m10, .ref m11, .ref m12, .int (pI sw), .int (nI tn), .int (nI tot), .int (nI psl), .int (nI pc_), .ref m13])), (m3, .inl (cI, 8, .inl (fun j => nI (th j)))), (m4, .inl (cI, 8, .inl (fun j => nI (wi j)))), (m5, .inl (cI, 8, .inl (fun j => nI (wo j)))), (m8, .inl (cI, 441, .inl (fun j => nI (F4 j)))), (m13, .inl (cI, 2400, .inl (fun j => nI ((va_up (va_up (va_up (va_up (va_up (va_up AT (6 * pc_) i) ((6 * pc_) + 1) row) ((6 * pc_) + 2) col) ((6 * pc_) + 3) (if ((1 : Nat) : Int) = 0 then wi i else th i)) ((6 * pc_) + 4) (if ((1 : Nat) : Int) = 0 then th i else wi i)) ((6 * pc_) + 5) ((max 0 ((wo i : Int) - sumZ fl side ((row : Nat) : Int) ((col : Nat) : Int) (if ((1 : Nat) : Int) = 0 then wi i else th i) (if ((1 : Nat) : Int) = 0 then th i else wi i))).toNat)) j))))] := hD
      refine lv_aload_n hx hb d_Mo_add_112 rfl (lv_at hl 3 rfl) ?_
      refine lv_dup hx hb d_Mo_add_113 rfl ?_
      refine va_get (D := D) (ci := 6) (v := .int (nI pc_)) (C := R_Mo) (T := T_Mo) (N := 22) hx hb hts (fun w h => List.mem_cons_of_mem _ (iw_Mo w h)) hown hK hP 0 rfl rfl 20 (by decide) (hts _ (List.mem_cons_of_mem _ k_565)) (fun _ h9 => h9) rfl d_Mo_add_114 ?_
      refine lv_iconst (v := nI 1) hx hb d_Mo_add_117 (by decide +kernel) ?_
      refine lv_iadd hx hb d_Mo_add_118 ?_
      refine ka_i (y := nI (pc_ + 1)) (nI_add _ _) ?_
      refine va_put (D := D) (ci := 6) (v := .int (nI (pc_ + 1))) (ty := .int) (C := R_Mo) (T := T_Mo) (N := 22) hx hb hts (fun w h => List.mem_cons_of_mem _ (iw_Mo w h)) ty_Mo tyok_Mo nm_Mo hown hK hP hD hS 0 rfl rfl 20 (by decide) (hts _ (List.mem_cons_of_mem _ k_565)) (fun _ h9 => h9) rfl (by decide +kernel) (rfl) (rfl) (Nat.le_of_ble_eq_true rfl) d_Mo_add_119 (fun H locs hP hD hS => ?_)
      have hP : va_P D vwCl [(mo, .inr (6, [.int (nI thr), .int (nI side), .int (nI kf), .ref m1, .ref m2, .int (nI cn), .ref m3, .ref m4, .ref m5, .ref m6, .ref m7, .ref m8, .ref m9, .ref m10, .ref m11, .ref m12, .int (pI sw), .int (nI tn), .int (nI tot), .int (nI psl), .int (nI (pc_ + 1)), .ref m13])), (m3, .inl (cI, 8, .inl (fun j => nI (th j)))), (m4, .inl (cI, 8, .inl (fun j => nI (wi j)))), (m5, .inl (cI, 8, .inl (fun j => nI (wo j)))), (m8, .inl (cI, 441, .inl (fun j => nI (F4 j)))), (m13, .inl (cI, 2400, .inl (fun j => nI ((va_up (va_up (va_up (va_up (va_up (va_up AT (6 * pc_) i) ((6 * pc_) + 1) row) ((6 * pc_) + 2) col) ((6 * pc_) + 3) (if ((1 : Nat) : Int) = 0 then wi i else th i)) ((6 * pc_) + 4) (if ((1 : Nat) : Int) = 0 then th i else wi i)) ((6 * pc_) + 5) ((max 0 ((wo i : Int) - sumZ fl side ((row : Nat) : Int) ((col : Nat) : Int) (if ((1 : Nat) : Int) = 0 then wi i else th i) (if ((1 : Nat) : Int) = 0 then th i else wi i))).toNat)) j))))] H := hP
      have hD : va_D A [(mo, .inr (6, [.int (nI thr), .int (nI side), .int (nI kf), .ref m1, .ref m2, .int (nI cn), .ref m3, .ref m4, .ref m5, .ref m6, .ref m7, .ref m8, .ref m9, .ref m10, .ref m11, .ref m12, .int (pI sw), .int (nI tn), .int (nI tot), .int (nI psl), .int (nI (pc_ + 1)), .ref m13])), (m3, .inl (cI, 8, .inl (fun j => nI (th j)))), (m4, .inl (cI, 8, .inl (fun j => nI (wi j)))), (m5, .inl (cI, 8, .inl (fun j => nI (wo j)))), (m8, .inl (cI, 441, .inl (fun j => nI (F4 j)))), (m13, .inl (cI, 2400, .inl (fun j => nI ((va_up (va_up (va_up (va_up (va_up (va_up AT (6 * pc_) i) ((6 * pc_) + 1) row) ((6 * pc_) + 2) col) ((6 * pc_) + 3) (if ((1 : Nat) : Int) = 0 then wi i else th i)) ((6 * pc_) + 4) (if ((1 : Nat) : Int) = 0 then th i else wi i)) ((6 * pc_) + 5) ((max 0 ((wo i : Int) - sumZ fl side ((row : Nat) : Int) ((col : Nat) : Int) (if ((1 : Nat) : Int) = 0 then wi i else th i) (if ((1 : Nat) : Int) = 0 then th i else wi i))).toNat)) j))))] := hD
      exact kretv (u := ()) hx hb hr hP hD hS hlocks rfl (trivial) d_Mo_add_122
    · exfalso; omega
  · have e_tq : tq = 0 := by omega
    subst e_tq
    have og := sumZ_on hok.1
    have g1 : ((col : Nat) : Int) + (((if ((0 : Nat) : Int) = 0 then wi i else th i) : Nat) : Int) ≤ (side : Int) := og.2.2.1
    have g2 : ((row : Nat) : Int) + (((if ((0 : Nat) : Int) = 0 then th i else wi i) : Nat) : Int) ≤ (side : Int) := og.2.2.2
    refine lv_iload hx hb d_Mo_add_4 (lv_at hl 4 rfl) ?_
    refine lv_goto (tgt := 10) hx hb d_Mo_add_6 (by decide) ?_
    refine lv_istore (lv' := [(5, .int (nI col)), (0, .ref mo), (1, .int (nI i)), (2, .int (nI 0)), (3, .int (nI row)), (4, .int (nI col))]) hx hb d_Mo_add_10 hl (by decide) rfl (fun ls hl => ?_)
    refine lv_iload_n hx hb d_Mo_add_12 rfl (lv_at hl 3 rfl) ?_
    refine kb_ne (tgt := 20) (nI_t (by omega)) hx hb d_Mo_add_13 (by decide) (fun c_13 => ?_) (fun c_13 => ?_)
    · exfalso; omega
    · refine lv_iload_n hx hb d_Mo_add_16 rfl (lv_at hl 4 rfl) ?_
      refine lv_goto (tgt := 22) hx hb d_Mo_add_17 (by decide) ?_
      refine lv_istore (lv' := [(6, .int (nI row)), (5, .int (nI col)), (0, .ref mo), (1, .int (nI i)), (2, .int (nI 0)), (3, .int (nI row)), (4, .int (nI col))]) hx hb d_Mo_add_22 hl (by decide) rfl (fun ls hl => ?_)
      refine lv_bipush (v := nI 6) hx hb d_Mo_add_24 (by decide +kernel) ?_
      refine lv_aload_n hx hb d_Mo_add_26 rfl (lv_at hl 2 rfl) ?_
      refine va_get (D := D) (ci := 6) (v := .int (nI pc_)) (C := R_Mo) (T := T_Mo) (N := 22) hx hb hts (fun w h => List.mem_cons_of_mem _ (iw_Mo w h)) hown hK hP 0 rfl rfl 20 (by decide) (hts _ (List.mem_cons_of_mem _ k_565)) (fun _ h9 => h9) rfl d_Mo_add_27 ?_
      refine lv_imul hx hb d_Mo_add_30 ?_
      refine ka_i (y := nI (6 * pc_)) (pk_mul _ _) ?_
      refine lv_istore (lv' := [(7, .int (nI (6 * pc_))), (6, .int (nI row)), (5, .int (nI col)), (0, .ref mo), (1, .int (nI i)), (2, .int (nI 0)), (3, .int (nI row)), (4, .int (nI col))]) hx hb d_Mo_add_31 hl (by decide) rfl (fun ls hl => ?_)
      refine lv_aload_n hx hb d_Mo_add_33 rfl (lv_at hl 3 rfl) ?_
      refine va_get (D := D) (ci := 6) (v := .ref m13) (C := R_Mo) (T := T_Mo) (N := 22) hx hb hts (fun w h => List.mem_cons_of_mem _ (iw_Mo w h)) hown hK hP 0 rfl rfl 21 (by decide) (hts _ (List.mem_cons_of_mem _ k_566)) (fun _ h9 => h9) rfl d_Mo_add_34 ?_
      refine lv_iload hx hb d_Mo_add_37 (lv_at hl 0 rfl) ?_
      refine lv_iload_n hx hb d_Mo_add_39 rfl (lv_at hl 4 rfl) ?_
      refine ka_iastN (F := AT) (v := i) (k := (6 * pc_)) (n := 2400) (nI_t (by omega)) (by omega) hx hb hK hP hD hS 5 0 rfl rfl d_Mo_add_40 (fun H locs hP hD hS => ?_)
      have hP : va_P D vwCl [(mo, .inr (6, [.int (nI thr), .int (nI side), .int (nI kf), .ref m1, .ref m2, .int (nI cn), .ref m3, .ref m4, .ref m5, .ref m6, .ref m7, .ref m8, .ref m9, .ref m10, .ref m11, .ref m12, .int (pI sw), .int (nI tn), .int (nI tot), .int (nI psl), .int (nI pc_), .ref m13])), (m3, .inl (cI, 8, .inl (fun j => nI (th j)))), (m4, .inl (cI, 8, .inl (fun j => nI (wi j)))), (m5, .inl (cI, 8, .inl (fun j => nI (wo j)))), (m8, .inl (cI, 441, .inl (fun j => nI (F4 j)))), (m13, .inl (cI, 2400, .inl (fun j => nI ((va_up AT (6 * pc_) i) j))))] H := hP
      have hD : va_D A [(mo, .inr (6, [.int (nI thr), .int (nI side), .int (nI kf), .ref m1, .ref m2, .int (nI cn), .ref m3, .ref m4, .ref m5, .ref m6, .ref m7, .ref m8, .ref m9, .ref m10, .ref m11, .ref m12, .int (pI sw), .int (nI tn), .int (nI tot), .int (nI psl), .int (nI pc_), .ref m13])), (m3, .inl (cI, 8, .inl (fun j => nI (th j)))), (m4, .inl (cI, 8, .inl (fun j => nI (wi j)))), (m5, .inl (cI, 8, .inl (fun j => nI (wo j)))), (m8, .inl (cI, 441, .inl (fun j => nI (F4 j)))), (m13, .inl (cI, 2400, .inl (fun j => nI ((va_up AT (6 * pc_) i) j))))] := hD
      refine lv_aload_n hx hb d_Mo_add_41 rfl (lv_at hl 3 rfl) ?_
      refine va_get (D := D) (ci := 6) (v := .ref m13) (C := R_Mo) (T := T_Mo) (N := 22) hx hb hts (fun w h => List.mem_cons_of_mem _ (iw_Mo w h)) hown hK hP 0 rfl rfl 21 (by decide) (hts _ (List.mem_cons_of_mem _ k_566)) (fun _ h9 => h9) rfl d_Mo_add_42 ?_
      refine lv_iload hx hb d_Mo_add_45 (lv_at hl 0 rfl) ?_
      refine lv_iconst (v := nI 1) hx hb d_Mo_add_47 (by decide +kernel) ?_
      refine lv_iadd hx hb d_Mo_add_48 ?_
      refine ka_i (y := nI ((6 * pc_) + 1)) (nI_add _ _) ?_
      refine lv_iload hx hb d_Mo_add_49 (lv_at hl 2 rfl) ?_
      refine ka_iastN (F := (va_up AT (6 * pc_) i)) (v := col) (k := ((6 * pc_) + 1)) (n := 2400) (nI_t (by omega)) (by omega) hx hb hK hP hD hS 5 0 rfl rfl d_Mo_add_51 (fun H locs hP hD hS => ?_)
      have hP : va_P D vwCl [(mo, .inr (6, [.int (nI thr), .int (nI side), .int (nI kf), .ref m1, .ref m2, .int (nI cn), .ref m3, .ref m4, .ref m5, .ref m6, .ref m7, .ref m8, .ref m9, .ref m10, .ref m11, .ref m12, .int (pI sw), .int (nI tn), .int (nI tot), .int (nI psl), .int (nI pc_), .ref m13])), (m3, .inl (cI, 8, .inl (fun j => nI (th j)))), (m4, .inl (cI, 8, .inl (fun j => nI (wi j)))), (m5, .inl (cI, 8, .inl (fun j => nI (wo j)))), (m8, .inl (cI, 441, .inl (fun j => nI (F4 j)))), (m13, .inl (cI, 2400, .inl (fun j => nI ((va_up (va_up AT (6 * pc_) i) ((6 * pc_) + 1) col) j))))] H := hP
      have hD : va_D A [(mo, .inr (6, [.int (nI thr), .int (nI side), .int (nI kf), .ref m1, .ref m2, .int (nI cn), .ref m3, .ref m4, .ref m5, .ref m6, .ref m7, .ref m8, .ref m9, .ref m10, .ref m11, .ref m12, .int (pI sw), .int (nI tn), .int (nI tot), .int (nI psl), .int (nI pc_), .ref m13])), (m3, .inl (cI, 8, .inl (fun j => nI (th j)))), (m4, .inl (cI, 8, .inl (fun j => nI (wi j)))), (m5, .inl (cI, 8, .inl (fun j => nI (wo j)))), (m8, .inl (cI, 441, .inl (fun j => nI (F4 j)))), (m13, .inl (cI, 2400, .inl (fun j => nI ((va_up (va_up AT (6 * pc_) i) ((6 * pc_) + 1) col) j))))] := hD
      refine lv_aload_n hx hb d_Mo_add_52 rfl (lv_at hl 3 rfl) ?_
      refine va_get (D := D) (ci := 6) (v := .ref m13) (C := R_Mo) (T := T_Mo) (N := 22) hx hb hts (fun w h => List.mem_cons_of_mem _ (iw_Mo w h)) hown hK hP 0 rfl rfl 21 (by decide) (hts _ (List.mem_cons_of_mem _ k_566)) (fun _ h9 => h9) rfl d_Mo_add_53 ?_
      refine lv_iload hx hb d_Mo_add_56 (lv_at hl 0 rfl) ?_
      refine lv_iconst (v := nI 2) hx hb d_Mo_add_58 (by decide +kernel) ?_
      refine lv_iadd hx hb d_Mo_add_59 ?_
      refine ka_i (y := nI ((6 * pc_) + 2)) (nI_add _ _) ?_
      refine lv_iload hx hb d_Mo_add_60 (lv_at hl 1 rfl) ?_
      refine ka_iastN (F := (va_up (va_up AT (6 * pc_) i) ((6 * pc_) + 1) col)) (v := row) (k := ((6 * pc_) + 2)) (n := 2400) (nI_t (by omega)) (by omega) hx hb hK hP hD hS 5 0 rfl rfl d_Mo_add_62 (fun H locs hP hD hS => ?_)
      have hP : va_P D vwCl [(mo, .inr (6, [.int (nI thr), .int (nI side), .int (nI kf), .ref m1, .ref m2, .int (nI cn), .ref m3, .ref m4, .ref m5, .ref m6, .ref m7, .ref m8, .ref m9, .ref m10, .ref m11, .ref m12, .int (pI sw), .int (nI tn), .int (nI tot), .int (nI psl), .int (nI pc_), .ref m13])), (m3, .inl (cI, 8, .inl (fun j => nI (th j)))), (m4, .inl (cI, 8, .inl (fun j => nI (wi j)))), (m5, .inl (cI, 8, .inl (fun j => nI (wo j)))), (m8, .inl (cI, 441, .inl (fun j => nI (F4 j)))), (m13, .inl (cI, 2400, .inl (fun j => nI ((va_up (va_up (va_up AT (6 * pc_) i) ((6 * pc_) + 1) col) ((6 * pc_) + 2) row) j))))] H := hP
      have hD : va_D A [(mo, .inr (6, [.int (nI thr), .int (nI side), .int (nI kf), .ref m1, .ref m2, .int (nI cn), .ref m3, .ref m4, .ref m5, .ref m6, .ref m7, .ref m8, .ref m9, .ref m10, .ref m11, .ref m12, .int (pI sw), .int (nI tn), .int (nI tot), .int (nI psl), .int (nI pc_), .ref m13])), (m3, .inl (cI, 8, .inl (fun j => nI (th j)))), (m4, .inl (cI, 8, .inl (fun j => nI (wi j)))), (m5, .inl (cI, 8, .inl (fun j => nI (wo j)))), (m8, .inl (cI, 441, .inl (fun j => nI (F4 j)))), (m13, .inl (cI, 2400, .inl (fun j => nI ((va_up (va_up (va_up AT (6 * pc_) i) ((6 * pc_) + 1) col) ((6 * pc_) + 2) row) j))))] := hD
      refine lv_aload_n hx hb d_Mo_add_63 rfl (lv_at hl 3 rfl) ?_
      refine va_get (D := D) (ci := 6) (v := .ref m13) (C := R_Mo) (T := T_Mo) (N := 22) hx hb hts (fun w h => List.mem_cons_of_mem _ (iw_Mo w h)) hown hK hP 0 rfl rfl 21 (by decide) (hts _ (List.mem_cons_of_mem _ k_566)) (fun _ h9 => h9) rfl d_Mo_add_64 ?_
      refine lv_iload hx hb d_Mo_add_67 (lv_at hl 0 rfl) ?_
      refine lv_iconst (v := nI 3) hx hb d_Mo_add_69 (by decide +kernel) ?_
      refine lv_iadd hx hb d_Mo_add_70 ?_
      refine ka_i (y := nI ((6 * pc_) + 3)) (nI_add _ _) ?_
      refine lv_aload_n hx hb d_Mo_add_71 rfl (lv_at hl 3 rfl) ?_
      refine lv_iload_n hx hb d_Mo_add_72 rfl (lv_at hl 4 rfl) ?_
      refine lv_iload_n hx hb d_Mo_add_73 rfl (lv_at hl 5 rfl) ?_
      refine kcallR (r := .int (nI (if ((0 : Nat) : Int) = 0 then wi i else th i))) (va_runV (As := [.int (nI i), .int (nI 0)]) (rest := [.int (nI ((6 * pc_) + 3)), .ref m13]) ⟨hx, hb, hml, hown, hts⟩ (m_alongX l D cI cJ cZ mo thr side kf m1 m2 cn m3 m4 m5 m6 m7 m8 m9 m10 m11 m12 sw tn tot psl pc_ m13 th wi i 0 (by omega) (by omega)) ⟨callB_of 2 hts (gd kc_Mo_alongX) rfl rfl rfl (hts _ (List.mem_cons_of_mem _ k_8)) (hts _ (List.mem_cons_of_mem _ k_675)) (by decide +kernel) ⟨Nat.le_of_ble_eq_true rfl, Nat.le_of_ble_eq_true rfl⟩, hts _ (List.mem_cons_of_mem _ k_677), hts _ (List.mem_cons_of_mem _ ks_20)⟩ ⟨kR_blind, va_recv hK hP (ci := 6) (q0 := 0) rfl rfl, kR_at hP hK hZ [0, 1, 2] rfl⟩ rfl rfl hl.1 rfl (lv_room (Nat.le_of_ble_eq_true rfl)) d_Mo_add_74 ⟨Nat.zero_le _, Nat.zero_le _⟩) ?_
      refine ka_iastN (F := (va_up (va_up (va_up AT (6 * pc_) i) ((6 * pc_) + 1) col) ((6 * pc_) + 2) row)) (v := (if ((0 : Nat) : Int) = 0 then wi i else th i)) (k := ((6 * pc_) + 3)) (n := 2400) (nI_t (by omega)) (by omega) hx hb hK hP hD hS 5 0 rfl rfl d_Mo_add_77 (fun H locs hP hD hS => ?_)
      have hP : va_P D vwCl [(mo, .inr (6, [.int (nI thr), .int (nI side), .int (nI kf), .ref m1, .ref m2, .int (nI cn), .ref m3, .ref m4, .ref m5, .ref m6, .ref m7, .ref m8, .ref m9, .ref m10, .ref m11, .ref m12, .int (pI sw), .int (nI tn), .int (nI tot), .int (nI psl), .int (nI pc_), .ref m13])), (m3, .inl (cI, 8, .inl (fun j => nI (th j)))), (m4, .inl (cI, 8, .inl (fun j => nI (wi j)))), (m5, .inl (cI, 8, .inl (fun j => nI (wo j)))), (m8, .inl (cI, 441, .inl (fun j => nI (F4 j)))), (m13, .inl (cI, 2400, .inl (fun j => nI ((va_up (va_up (va_up (va_up AT (6 * pc_) i) ((6 * pc_) + 1) col) ((6 * pc_) + 2) row) ((6 * pc_) + 3) (if ((0 : Nat) : Int) = 0 then wi i else th i)) j))))] H := hP
      have hD : va_D A [(mo, .inr (6, [.int (nI thr), .int (nI side), .int (nI kf), .ref m1, .ref m2, .int (nI cn), .ref m3, .ref m4, .ref m5, .ref m6, .ref m7, .ref m8, .ref m9, .ref m10, .ref m11, .ref m12, .int (pI sw), .int (nI tn), .int (nI tot), .int (nI psl), .int (nI pc_), .ref m13])), (m3, .inl (cI, 8, .inl (fun j => nI (th j)))), (m4, .inl (cI, 8, .inl (fun j => nI (wi j)))), (m5, .inl (cI, 8, .inl (fun j => nI (wo j)))), (m8, .inl (cI, 441, .inl (fun j => nI (F4 j)))), (m13, .inl (cI, 2400, .inl (fun j => nI ((va_up (va_up (va_up (va_up AT (6 * pc_) i) ((6 * pc_) + 1) col) ((6 * pc_) + 2) row) ((6 * pc_) + 3) (if ((0 : Nat) : Int) = 0 then wi i else th i)) j))))] := hD
      refine lv_aload_n hx hb d_Mo_add_78 rfl (lv_at hl 3 rfl) ?_
      refine va_get (D := D) (ci := 6) (v := .ref m13) (C := R_Mo) (T := T_Mo) (N := 22) hx hb hts (fun w h => List.mem_cons_of_mem _ (iw_Mo w h)) hown hK hP 0 rfl rfl 21 (by decide) (hts _ (List.mem_cons_of_mem _ k_566)) (fun _ h9 => h9) rfl d_Mo_add_79 ?_
      refine lv_iload hx hb d_Mo_add_82 (lv_at hl 0 rfl) ?_
      refine lv_iconst (v := nI 4) hx hb d_Mo_add_84 (by decide +kernel) ?_
      refine lv_iadd hx hb d_Mo_add_85 ?_
      refine ka_i (y := nI ((6 * pc_) + 4)) (nI_add _ _) ?_
      refine lv_aload_n hx hb d_Mo_add_86 rfl (lv_at hl 3 rfl) ?_
      refine lv_iload_n hx hb d_Mo_add_87 rfl (lv_at hl 4 rfl) ?_
      refine lv_iload_n hx hb d_Mo_add_88 rfl (lv_at hl 5 rfl) ?_
      refine kcallR (r := .int (nI (if ((0 : Nat) : Int) = 0 then th i else wi i))) (va_runV (As := [.int (nI i), .int (nI 0)]) (rest := [.int (nI ((6 * pc_) + 4)), .ref m13]) ⟨hx, hb, hml, hown, hts⟩ (m_alongY l D cI cJ cZ mo thr side kf m1 m2 cn m3 m4 m5 m6 m7 m8 m9 m10 m11 m12 sw tn tot psl pc_ m13 th wi i 0 (by omega) (by omega)) ⟨callB_of 2 hts (gd kc_Mo_alongY) rfl rfl rfl (hts _ (List.mem_cons_of_mem _ k_8)) (hts _ (List.mem_cons_of_mem _ k_679)) (by decide +kernel) ⟨Nat.le_of_ble_eq_true rfl, Nat.le_of_ble_eq_true rfl⟩, hts _ (List.mem_cons_of_mem _ k_681), hts _ (List.mem_cons_of_mem _ ks_21)⟩ ⟨kR_blind, va_recv hK hP (ci := 6) (q0 := 0) rfl rfl, kR_at hP hK hZ [0, 1, 2] rfl⟩ rfl rfl hl.1 rfl (lv_room (Nat.le_of_ble_eq_true rfl)) d_Mo_add_89 ⟨Nat.zero_le _, Nat.zero_le _⟩) ?_
      refine ka_iastN (F := (va_up (va_up (va_up (va_up AT (6 * pc_) i) ((6 * pc_) + 1) col) ((6 * pc_) + 2) row) ((6 * pc_) + 3) (if ((0 : Nat) : Int) = 0 then wi i else th i))) (v := (if ((0 : Nat) : Int) = 0 then th i else wi i)) (k := ((6 * pc_) + 4)) (n := 2400) (nI_t (by omega)) (by omega) hx hb hK hP hD hS 5 0 rfl rfl d_Mo_add_92 (fun H locs hP hD hS => ?_)
      have hP : va_P D vwCl [(mo, .inr (6, [.int (nI thr), .int (nI side), .int (nI kf), .ref m1, .ref m2, .int (nI cn), .ref m3, .ref m4, .ref m5, .ref m6, .ref m7, .ref m8, .ref m9, .ref m10, .ref m11, .ref m12, .int (pI sw), .int (nI tn), .int (nI tot), .int (nI psl), .int (nI pc_), .ref m13])), (m3, .inl (cI, 8, .inl (fun j => nI (th j)))), (m4, .inl (cI, 8, .inl (fun j => nI (wi j)))), (m5, .inl (cI, 8, .inl (fun j => nI (wo j)))), (m8, .inl (cI, 441, .inl (fun j => nI (F4 j)))), (m13, .inl (cI, 2400, .inl (fun j => nI ((va_up (va_up (va_up (va_up (va_up AT (6 * pc_) i) ((6 * pc_) + 1) col) ((6 * pc_) + 2) row) ((6 * pc_) + 3) (if ((0 : Nat) : Int) = 0 then wi i else th i)) ((6 * pc_) + 4) (if ((0 : Nat) : Int) = 0 then th i else wi i)) j))))] H := hP
      have hD : va_D A [(mo, .inr (6, [.int (nI thr), .int (nI side), .int (nI kf), .ref m1, .ref m2, .int (nI cn), .ref m3, .ref m4, .ref m5, .ref m6, .ref m7, .ref m8, .ref m9, .ref m10, .ref m11, .ref m12, .int (pI sw), .int (nI tn), .int (nI tot), .int (nI psl), .int (nI pc_), .ref m13])), (m3, .inl (cI, 8, .inl (fun j => nI (th j)))), (m4, .inl (cI, 8, .inl (fun j => nI (wi j)))), (m5, .inl (cI, 8, .inl (fun j => nI (wo j)))), (m8, .inl (cI, 441, .inl (fun j => nI (F4 j)))), (m13, .inl (cI, 2400, .inl (fun j => nI ((va_up (va_up (va_up (va_up (va_up AT (6 * pc_) i) ((6 * pc_) + 1) col) ((6 * pc_) + 2) row) ((6 * pc_) + 3) (if ((0 : Nat) : Int) = 0 then wi i else th i)) ((6 * pc_) + 4) (if ((0 : Nat) : Int) = 0 then th i else wi i)) j))))] := hD
      refine lv_aload_n hx hb d_Mo_add_93 rfl (lv_at hl 3 rfl) ?_
      refine va_get (D := D) (ci := 6) (v := .ref m13) (C := R_Mo) (T := T_Mo) (N := 22) hx hb hts (fun w h => List.mem_cons_of_mem _ (iw_Mo w h)) hown hK hP 0 rfl rfl 21 (by decide) (hts _ (List.mem_cons_of_mem _ k_566)) (fun _ h9 => h9) rfl d_Mo_add_94 ?_
      refine lv_iload hx hb d_Mo_add_97 (lv_at hl 0 rfl) ?_
      refine lv_iconst (v := nI 5) hx hb d_Mo_add_99 (by decide +kernel) ?_
      refine lv_iadd hx hb d_Mo_add_100 ?_
      refine ka_i (y := nI ((6 * pc_) + 5)) (nI_add _ _) ?_
      refine lv_aload_n hx hb d_Mo_add_101 rfl (lv_at hl 3 rfl) ?_
      refine lv_iload_n hx hb d_Mo_add_102 rfl (lv_at hl 4 rfl) ?_
      refine lv_iload hx hb d_Mo_add_103 (lv_at hl 2 rfl) ?_
      refine lv_iload hx hb d_Mo_add_105 (lv_at hl 1 rfl) ?_
      refine lv_iload_n hx hb d_Mo_add_107 rfl (lv_at hl 5 rfl) ?_
      refine kcallR (r := .int (nI ((max 0 ((wo i : Int) - sumZ fl side ((col : Nat) : Int) ((row : Nat) : Int) (if ((0 : Nat) : Int) = 0 then wi i else th i) (if ((0 : Nat) : Int) = 0 then th i else wi i))).toNat))) (va_runV (As := [.int (nI i), .int (nI col), .int (nI row), .int (nI 0)]) (rest := [.int (nI ((6 * pc_) + 5)), .ref m13]) ⟨hx, hb, hml, hown, hts⟩ (m_brings l D cI cJ cZ mo thr side kf m1 m2 cn m3 m4 m5 m6 m7 m8 m9 m10 m11 m12 sw tn tot psl pc_ m13 th wi wo F4 fl i col row 0 s2 i8 (by omega) g1 g2 ho hF hf) ⟨callB_of 4 hts (gd kc_Mo_brings) rfl rfl rfl (hts _ (List.mem_cons_of_mem _ k_8)) (hts _ (List.mem_cons_of_mem _ k_691)) (by decide +kernel) ⟨Nat.le_of_ble_eq_true rfl, Nat.le_of_ble_eq_true rfl⟩, hts _ (List.mem_cons_of_mem _ k_693), hts _ (List.mem_cons_of_mem _ ks_24)⟩ ⟨kR_blind, va_recv hK hP (ci := 6) (q0 := 0) rfl rfl, kR_at hP hK hZ [0, 1, 2, 3, 4] rfl⟩ rfl rfl hl.1 rfl (lv_room (Nat.le_of_ble_eq_true rfl)) d_Mo_add_108 ⟨Nat.zero_le _, Nat.zero_le _⟩) ?_
      refine ka_iastN (F := (va_up (va_up (va_up (va_up (va_up AT (6 * pc_) i) ((6 * pc_) + 1) col) ((6 * pc_) + 2) row) ((6 * pc_) + 3) (if ((0 : Nat) : Int) = 0 then wi i else th i)) ((6 * pc_) + 4) (if ((0 : Nat) : Int) = 0 then th i else wi i))) (v := ((max 0 ((wo i : Int) - sumZ fl side ((col : Nat) : Int) ((row : Nat) : Int) (if ((0 : Nat) : Int) = 0 then wi i else th i) (if ((0 : Nat) : Int) = 0 then th i else wi i))).toNat)) (k := ((6 * pc_) + 5)) (n := 2400) (nI_t (by omega)) (by omega) hx hb hK hP hD hS 5 0 rfl rfl d_Mo_add_111 (fun H locs hP hD hS => ?_)
      have hP : va_P D vwCl [(mo, .inr (6, [.int (nI thr), .int (nI side), .int (nI kf), .ref m1, .ref m2, .int (nI cn), .ref m3, .ref m4, .ref m5, .ref m6, .ref m7, .ref m8, .ref m9, .ref m10, .ref m11, .ref m12, .int (pI sw), .int (nI tn), .int (nI tot), .int (nI psl), .int (nI pc_), .ref m13])), (m3, .inl (cI, 8, .inl (fun j => nI (th j)))), (m4, .inl (cI, 8, .inl (fun j => nI (wi j)))), (m5, .inl (cI, 8, .inl (fun j => nI (wo j)))), (m8, .inl (cI, 441, .inl (fun j => nI (F4 j)))), (m13, .inl (cI, 2400, .inl (fun j => nI ((va_up (va_up (va_up (va_up (va_up (va_up AT (6 * pc_) i) ((6 * pc_) + 1) col) ((6 * pc_) + 2) row) ((6 * pc_) + 3) (if ((0 : Nat) : Int) = 0 then wi i else th i)) ((6 * pc_) + 4) (if ((0 : Nat) : Int) = 0 then th i else wi i)) ((6 * pc_) + 5) ((max 0 ((wo i : Int) - sumZ fl side ((col : Nat) : Int) ((row : Nat) : Int) (if ((0 : Nat) : Int) = 0 then wi i else th i) (if ((0 : Nat) : Int) = 0 then th i else wi i))).toNat)) j))))] H := hP
      have hD : va_D A [(mo, .inr (6, [.int (nI thr), .int (nI side), .int (nI kf), .ref m1, .ref m2, .int (nI cn), .ref m3, .ref m4, .ref m5, .ref m6, .ref m7, .ref m8, .ref m9, .ref m10, .ref m11, .ref m12, .int (pI sw), .int (nI tn), .int (nI tot), .int (nI psl), .int (nI pc_), .ref m13])), (m3, .inl (cI, 8, .inl (fun j => nI (th j)))), (m4, .inl (cI, 8, .inl (fun j => nI (wi j)))), (m5, .inl (cI, 8, .inl (fun j => nI (wo j)))), (m8, .inl (cI, 441, .inl (fun j => nI (F4 j)))), (m13, .inl (cI, 2400, .inl (fun j => nI ((va_up (va_up (va_up (va_up (va_up (va_up AT (6 * pc_) i) ((6 * pc_) + 1) col) ((6 * pc_) + 2) row) ((6 * pc_) + 3) (if ((0 : Nat) : Int) = 0 then wi i else th i)) ((6 * pc_) + 4) (if ((0 : Nat) : Int) = 0 then th i else wi i)) ((6 * pc_) + 5) ((max 0 ((wo i : Int) - sumZ fl side ((col : Nat) : Int) ((row : Nat) : Int) (if ((0 : Nat) : Int) = 0 then wi i else th i) (if ((0 : Nat) : Int) = 0 then th i else wi i))).toNat)) j))))] := hD
      refine lv_aload_n hx hb d_Mo_add_112 rfl (lv_at hl 3 rfl) ?_
      refine lv_dup hx hb d_Mo_add_113 rfl ?_
      refine va_get (D := D) (ci := 6) (v := .int (nI pc_)) (C := R_Mo) (T := T_Mo) (N := 22) hx hb hts (fun w h => List.mem_cons_of_mem _ (iw_Mo w h)) hown hK hP 0 rfl rfl 20 (by decide) (hts _ (List.mem_cons_of_mem _ k_565)) (fun _ h9 => h9) rfl d_Mo_add_114 ?_
      refine lv_iconst (v := nI 1) hx hb d_Mo_add_117 (by decide +kernel) ?_
      refine lv_iadd hx hb d_Mo_add_118 ?_
      refine ka_i (y := nI (pc_ + 1)) (nI_add _ _) ?_
      refine va_put (D := D) (ci := 6) (v := .int (nI (pc_ + 1))) (ty := .int) (C := R_Mo) (T := T_Mo) (N := 22) hx hb hts (fun w h => List.mem_cons_of_mem _ (iw_Mo w h)) ty_Mo tyok_Mo nm_Mo hown hK hP hD hS 0 rfl rfl 20 (by decide) (hts _ (List.mem_cons_of_mem _ k_565)) (fun _ h9 => h9) rfl (by decide +kernel) (rfl) (rfl) (Nat.le_of_ble_eq_true rfl) d_Mo_add_119 (fun H locs hP hD hS => ?_)
      have hP : va_P D vwCl [(mo, .inr (6, [.int (nI thr), .int (nI side), .int (nI kf), .ref m1, .ref m2, .int (nI cn), .ref m3, .ref m4, .ref m5, .ref m6, .ref m7, .ref m8, .ref m9, .ref m10, .ref m11, .ref m12, .int (pI sw), .int (nI tn), .int (nI tot), .int (nI psl), .int (nI (pc_ + 1)), .ref m13])), (m3, .inl (cI, 8, .inl (fun j => nI (th j)))), (m4, .inl (cI, 8, .inl (fun j => nI (wi j)))), (m5, .inl (cI, 8, .inl (fun j => nI (wo j)))), (m8, .inl (cI, 441, .inl (fun j => nI (F4 j)))), (m13, .inl (cI, 2400, .inl (fun j => nI ((va_up (va_up (va_up (va_up (va_up (va_up AT (6 * pc_) i) ((6 * pc_) + 1) col) ((6 * pc_) + 2) row) ((6 * pc_) + 3) (if ((0 : Nat) : Int) = 0 then wi i else th i)) ((6 * pc_) + 4) (if ((0 : Nat) : Int) = 0 then th i else wi i)) ((6 * pc_) + 5) ((max 0 ((wo i : Int) - sumZ fl side ((col : Nat) : Int) ((row : Nat) : Int) (if ((0 : Nat) : Int) = 0 then wi i else th i) (if ((0 : Nat) : Int) = 0 then th i else wi i))).toNat)) j))))] H := hP
      have hD : va_D A [(mo, .inr (6, [.int (nI thr), .int (nI side), .int (nI kf), .ref m1, .ref m2, .int (nI cn), .ref m3, .ref m4, .ref m5, .ref m6, .ref m7, .ref m8, .ref m9, .ref m10, .ref m11, .ref m12, .int (pI sw), .int (nI tn), .int (nI tot), .int (nI psl), .int (nI (pc_ + 1)), .ref m13])), (m3, .inl (cI, 8, .inl (fun j => nI (th j)))), (m4, .inl (cI, 8, .inl (fun j => nI (wi j)))), (m5, .inl (cI, 8, .inl (fun j => nI (wo j)))), (m8, .inl (cI, 441, .inl (fun j => nI (F4 j)))), (m13, .inl (cI, 2400, .inl (fun j => nI ((va_up (va_up (va_up (va_up (va_up (va_up AT (6 * pc_) i) ((6 * pc_) + 1) col) ((6 * pc_) + 2) row) ((6 * pc_) + 3) (if ((0 : Nat) : Int) = 0 then wi i else th i)) ((6 * pc_) + 4) (if ((0 : Nat) : Int) = 0 then th i else wi i)) ((6 * pc_) + 5) ((max 0 ((wo i : Int) - sumZ fl side ((col : Nat) : Int) ((row : Nat) : Int) (if ((0 : Nat) : Int) = 0 then wi i else th i) (if ((0 : Nat) : Int) = 0 then th i else wi i))).toNat)) j))))] := hD
      exact kretv (u := ()) hx hb hr hP hD hS hlocks rfl (trivial) d_Mo_add_122
set_option maxHeartbeats 4000000 in
set_option maxRecDepth 100000 in
theorem m_walkSlab (l : Launch) (D : va_G) (cI cJ cZ : ClassId) (sz : Nat) (mo : Nat) (thr : Nat) (side : Nat) (kf : Nat) (m1 : Nat) (m2 : Nat) (cn : Nat) (m3 : Nat) (m4 : Nat) (m5 : Nat) (m6 : Nat) (m7 : Nat) (m8 : Nat) (m9 : Nat) (m10 : Nat) (m11 : Nat) (m12 : Nat) (sw : Prop) (tn : Nat) (tot : Nat) (psl : Nat) (pc_ : Nat) (m13 : Nat) (th : Nat → Nat) (wi : Nat → Nat) (wo : Nat → Nat) (wn : Nat → Nat) (F3 : Nat → Nat) (F4 : Nat → Nat) (SW : Nat → Nat) (SN : Nat → Nat) (AT : Nat → Nat) (fb : Nat → Nat → Nat) (fl : Nat → Nat → Nat) (s0 : PSt) (tq : Nat) (row : Nat) (thick : Nat) (s2 : side ≤ 20) (k4 : kf ≤ 4) (n8 : cn ≤ 8) (tq1 : tq ≤ 1) (rb : row ≤ 20) (tb : thick ≤ 20) (ht : ∀ k, k < 8 → th k ≤ 20) (hw : ∀ k, k < 8 → wi k ≤ 20) (hw1 : ∀ k, k < cn → 1 ≤ wi k) (ho : ∀ k, k < 8 → wo k ≤ 100000) (hn : ∀ k, k < 8 → wn k ≤ 400) (hF : ∀ X Y, X ≤ side → Y ≤ side → F3 (21 * Y + X) = psm fb X Y) (hG : ∀ X Y, X ≤ side → Y ≤ side → F4 (21 * Y + X) = psm fl X Y) (hfb : ∀ i j, i < side → j < side → fb i j ≤ 10000) (hfl : ∀ i j, i < side → j < side → fl i j ≤ 10000) (bk : blkP side kf th wi wo wn fb fl cn tq SW SN row thick) (pe : pc_ = s0.1) (hb9 : s0.1 + side ≤ 400) (ap : atP side th wi wo fl tq AT s0) : Met l y_Mo_walkSlab w_Mo_walkSlab ({ frames := 3, cells := 0, slots := 0, locals := 79 }) (va_Pc [.ref mo, .int (nI tq), .int (nI row), .int (nI thick)] (kB D vwCl (tyL cI cJ cZ) sz [(mo, .inr (6, [.int (nI thr), .int (nI side), .int (nI kf), .ref m1, .ref m2, .int (nI cn), .ref m3, .ref m4, .ref m5, .ref m6, .ref m7, .ref m8, .ref m9, .ref m10, .ref m11, .ref m12, .int (pI sw), .int (nI tn), .int (nI tot), .int (nI psl), .int (nI pc_), .ref m13])), (m3, .inl (cI, 8, .inl (fun j => nI (th j)))), (m4, .inl (cI, 8, .inl (fun j => nI (wi j)))), (m5, .inl (cI, 8, .inl (fun j => nI (wo j)))), (m6, .inl (cI, 8, .inl (fun j => nI (wn j)))), (m7, .inl (cI, 441, .inl (fun j => nI (F3 j)))), (m8, .inl (cI, 441, .inl (fun j => nI (F4 j)))), (m9, .inl (cI, 9702, .inl (fun j => nI (SW j)))), (m10, .inl (cI, 9702, .inl (fun j => nI (SN j)))), (m13, .inl (cI, 2400, .inl (fun j => nI (AT j))))])) (va_Qv (fun (u : Nat → Nat) => atP side th wi wo fl tq u (slabLay kf cn tq row th wi (vaC side fl th wi wo tq row) (slab0 side kf thick th wi (okC side fb th wi wn tq row) (vaC side fl th wi wo tq row) cn).2 s0 side).2) (fun (u : Nat → Nat) t => kE D vwCl (va_A [(mo, .inr (6, [.int (nI thr), .int (nI side), .int (nI kf), .ref m1, .ref m2, .int (nI cn), .ref m3, .ref m4, .ref m5, .ref m6, .ref m7, .ref m8, .ref m9, .ref m10, .ref m11, .ref m12, .int (pI sw), .int (nI tn), .int (nI tot), .int (nI psl), .int (nI pc_), .ref m13])), (m3, .inl (cI, 8, .inl (fun j => nI (th j)))), (m4, .inl (cI, 8, .inl (fun j => nI (wi j)))), (m5, .inl (cI, 8, .inl (fun j => nI (wo j)))), (m6, .inl (cI, 8, .inl (fun j => nI (wn j)))), (m7, .inl (cI, 441, .inl (fun j => nI (F3 j)))), (m8, .inl (cI, 441, .inl (fun j => nI (F4 j)))), (m9, .inl (cI, 9702, .inl (fun j => nI (SW j)))), (m10, .inl (cI, 9702, .inl (fun j => nI (SN j)))), (m13, .inl (cI, 2400, .inl (fun j => nI (AT j))))] sz) [(mo, .inr (6, [.int (nI thr), .int (nI side), .int (nI kf), .ref m1, .ref m2, .int (nI cn), .ref m3, .ref m4, .ref m5, .ref m6, .ref m7, .ref m8, .ref m9, .ref m10, .ref m11, .ref m12, .int (pI sw), .int (nI tn), .int (nI tot), .int (nI psl), .int (nI ((slabLay kf cn tq row th wi (vaC side fl th wi wo tq row) (slab0 side kf thick th wi (okC side fb th wi wn tq row) (vaC side fl th wi wo tq row) cn).2 s0 side).2.1)), .ref m13])), (m3, .inl (cI, 8, .inl (fun j => nI (th j)))), (m4, .inl (cI, 8, .inl (fun j => nI (wi j)))), (m5, .inl (cI, 8, .inl (fun j => nI (wo j)))), (m6, .inl (cI, 8, .inl (fun j => nI (wn j)))), (m7, .inl (cI, 441, .inl (fun j => nI (F3 j)))), (m8, .inl (cI, 441, .inl (fun j => nI (F4 j)))), (m9, .inl (cI, 9702, .inl (fun j => nI (SW j)))), (m10, .inl (cI, 9702, .inl (fun j => nI (SN j)))), (m13, .inl (cI, 2400, .inl (fun j => nI (u j))))] t) (va_A [(mo, .inr (6, [.int (nI thr), .int (nI side), .int (nI kf), .ref m1, .ref m2, .int (nI cn), .ref m3, .ref m4, .ref m5, .ref m6, .ref m7, .ref m8, .ref m9, .ref m10, .ref m11, .ref m12, .int (pI sw), .int (nI tn), .int (nI tot), .int (nI psl), .int (nI pc_), .ref m13])), (m3, .inl (cI, 8, .inl (fun j => nI (th j)))), (m4, .inl (cI, 8, .inl (fun j => nI (wi j)))), (m5, .inl (cI, 8, .inl (fun j => nI (wo j)))), (m6, .inl (cI, 8, .inl (fun j => nI (wn j)))), (m7, .inl (cI, 441, .inl (fun j => nI (F3 j)))), (m8, .inl (cI, 441, .inl (fun j => nI (F4 j)))), (m9, .inl (cI, 9702, .inl (fun j => nI (SW j)))), (m10, .inl (cI, 9702, .inl (fun j => nI (SN j)))), (m13, .inl (cI, 2400, .inl (fun j => nI (AT j))))] sz)) 0 0 (va_A [(mo, .inr (6, [.int (nI thr), .int (nI side), .int (nI kf), .ref m1, .ref m2, .int (nI cn), .ref m3, .ref m4, .ref m5, .ref m6, .ref m7, .ref m8, .ref m9, .ref m10, .ref m11, .ref m12, .int (pI sw), .int (nI tn), .int (nI tot), .int (nI psl), .int (nI pc_), .ref m13])), (m3, .inl (cI, 8, .inl (fun j => nI (th j)))), (m4, .inl (cI, 8, .inl (fun j => nI (wi j)))), (m5, .inl (cI, 8, .inl (fun j => nI (wo j)))), (m6, .inl (cI, 8, .inl (fun j => nI (wn j)))), (m7, .inl (cI, 441, .inl (fun j => nI (F3 j)))), (m8, .inl (cI, 441, .inl (fun j => nI (F4 j)))), (m9, .inl (cI, 9702, .inl (fun j => nI (SW j)))), (m10, .inl (cI, 9702, .inl (fun j => nI (SN j)))), (m13, .inl (cI, 2400, .inl (fun j => nI (AT j))))] sz) := by
  refine Met.ofW (cc := b_Mo_walkSlab) (maxL := 7) (ret := none) (by decide) rfl ?_
  intro p e s m args below meth c s₁ B hml hv
  obtain ⟨rfl, hsz, hP, hK, hD0, hZ⟩ := hv
  have hx := B.exec
  have hb := B.bytes
  have hr := B.returns
  have hts := atoms_spec (ws := w_Mo_walkSlab) B.pre
  have hown : s.vm.findClass R_Mo = some m.cls := findClass_of_methodNamed B.named
  have hlocks := B.notSynchronized
  subst hsz
  have hD := hD0.self (sz := s.heap.size)
  generalize hAe : va_A [(mo, .inr (6, [.int (nI thr), .int (nI side), .int (nI kf), .ref m1, .ref m2, .int (nI cn), .ref m3, .ref m4, .ref m5, .ref m6, .ref m7, .ref m8, .ref m9, .ref m10, .ref m11, .ref m12, .int (pI sw), .int (nI tn), .int (nI tot), .int (nI psl), .int (nI pc_), .ref m13])), (m3, .inl (cI, 8, .inl (fun j => nI (th j)))), (m4, .inl (cI, 8, .inl (fun j => nI (wi j)))), (m5, .inl (cI, 8, .inl (fun j => nI (wo j)))), (m6, .inl (cI, 8, .inl (fun j => nI (wn j)))), (m7, .inl (cI, 441, .inl (fun j => nI (F3 j)))), (m8, .inl (cI, 441, .inl (fun j => nI (F4 j)))), (m9, .inl (cI, 9702, .inl (fun j => nI (SW j)))), (m10, .inl (cI, 9702, .inl (fun j => nI (SN j)))), (m13, .inl (cI, 2400, .inl (fun j => nI (AT j))))] s.heap.size = A at hD ⊢
  have hA : ∀ q : Nat, s.heap.size ≤ q → A q := fun q h => by rw [← hAe]; exact Or.inr h
  have hS : va_S A s.heap s.heap [] := va_S.rf
  have hP : va_P D vwCl [(mo, .inr (6, [.int (nI thr), .int (nI side), .int (nI kf), .ref m1, .ref m2, .int (nI cn), .ref m3, .ref m4, .ref m5, .ref m6, .ref m7, .ref m8, .ref m9, .ref m10, .ref m11, .ref m12, .int (pI sw), .int (nI tn), .int (nI tot), .int (nI psl), .int (nI pc_), .ref m13])), (m3, .inl (cI, 8, .inl (fun j => nI (th j)))), (m4, .inl (cI, 8, .inl (fun j => nI (wi j)))), (m5, .inl (cI, 8, .inl (fun j => nI (wo j)))), (m6, .inl (cI, 8, .inl (fun j => nI (wn j)))), (m7, .inl (cI, 441, .inl (fun j => nI (F3 j)))), (m8, .inl (cI, 441, .inl (fun j => nI (F4 j)))), (m9, .inl (cI, 9702, .inl (fun j => nI (SW j)))), (m10, .inl (cI, 9702, .inl (fun j => nI (SN j)))), (m13, .inl (cI, 2400, .inl (fun j => nI (AT j))))] s.heap := hP
  have hl := lv_entry ([.ref mo, .int (nI tq), .int (nI row), .int (nI thick)]) (n := 7) (Nat.le_of_ble_eq_true rfl)
  rw [lg_entry_eq]
  generalize (lg_sl ([.ref mo, .int (nI tq), .int (nI row), .int (nI thick)]) ++ List.replicate (7 - (lg_sl ([.ref mo, .int (nI tq), .int (nI row), .int (nI thick)])).length) Slot.unset).toArray = ls at hl ⊢
  have hl : lv_has ls 7 [(0, .ref mo), (1, .int (nI tq)), (2, .int (nI row)), (3, .int (nI thick))] := hl
  subst pe
  refine lv_iconst (v := nI 0) hx hb d_Mo_walkSlab_0 (by decide +kernel) ?_
  refine lv_istore (lv' := [(4, .int (nI 0)), (0, .ref mo), (1, .int (nI tq)), (2, .int (nI row)), (3, .int (nI thick))]) hx hb d_Mo_walkSlab_1 hl (by decide) rfl (fun ls hl => ?_)
  have lp : ∀ (n : Nat) (kc : Nat) (TA : Nat → Nat), (side ≤ kc + n) → (kc ≤ side) → (kc < side → (slabLay kf cn tq row th wi (vaC side fl th wi wo tq row) (slab0 side kf thick th wi (okC side fb th wi wn tq row) (vaC side fl th wi wo tq row) cn).2 s0 kc).1 ≤ kc) → (atP side th wi wo fl tq TA (slabLay kf cn tq row th wi (vaC side fl th wi wo tq row) (slab0 side kf thick th wi (okC side fb th wi wn tq row) (vaC side fl th wi wo tq row) cn).2 s0 kc).2) → ∀ (H : Heap) (locs : List Loc), va_P D vwCl [(mo, .inr (6, [.int (nI thr), .int (nI side), .int (nI kf), .ref m1, .ref m2, .int (nI cn), .ref m3, .ref m4, .ref m5, .ref m6, .ref m7, .ref m8, .ref m9, .ref m10, .ref m11, .ref m12, .int (pI sw), .int (nI tn), .int (nI tot), .int (nI psl), .int (nI ((slabLay kf cn tq row th wi (vaC side fl th wi wo tq row) (slab0 side kf thick th wi (okC side fb th wi wn tq row) (vaC side fl th wi wo tq row) cn).2 s0 kc).2.1)), .ref m13])), (m3, .inl (cI, 8, .inl (fun j => nI (th j)))), (m4, .inl (cI, 8, .inl (fun j => nI (wi j)))), (m5, .inl (cI, 8, .inl (fun j => nI (wo j)))), (m6, .inl (cI, 8, .inl (fun j => nI (wn j)))), (m7, .inl (cI, 441, .inl (fun j => nI (F3 j)))), (m8, .inl (cI, 441, .inl (fun j => nI (F4 j)))), (m9, .inl (cI, 9702, .inl (fun j => nI (SW j)))), (m10, .inl (cI, 9702, .inl (fun j => nI (SN j)))), (m13, .inl (cI, 2400, .inl (fun j => nI (TA j))))] H → va_D A [(mo, .inr (6, [.int (nI thr), .int (nI side), .int (nI kf), .ref m1, .ref m2, .int (nI cn), .ref m3, .ref m4, .ref m5, .ref m6, .ref m7, .ref m8, .ref m9, .ref m10, .ref m11, .ref m12, .int (pI sw), .int (nI tn), .int (nI tot), .int (nI psl), .int (nI ((slabLay kf cn tq row th wi (vaC side fl th wi wo tq row) (slab0 side kf thick th wi (okC side fb th wi wn tq row) (vaC side fl th wi wo tq row) cn).2 s0 kc).2.1)), .ref m13])), (m3, .inl (cI, 8, .inl (fun j => nI (th j)))), (m4, .inl (cI, 8, .inl (fun j => nI (wi j)))), (m5, .inl (cI, 8, .inl (fun j => nI (wo j)))), (m6, .inl (cI, 8, .inl (fun j => nI (wn j)))), (m7, .inl (cI, 441, .inl (fun j => nI (F3 j)))), (m8, .inl (cI, 441, .inl (fun j => nI (F4 j)))), (m9, .inl (cI, 9702, .inl (fun j => nI (SW j)))), (m10, .inl (cI, 9702, .inl (fun j => nI (SN j)))), (m13, .inl (cI, 2400, .inl (fun j => nI (TA j))))] → va_S A s.heap H locs → ∀ ls : Array Slot, lv_has ls 7 [(4, .int (nI kc)), (0, .ref mo), (1, .int (nI tq)), (2, .int (nI row)), (3, .int (nI thick))] → W p l e (headSpec w_Mo_walkSlab ({ frames := 3, cells := 0, slots := 0, locals := 79 })).room s m ([.ref mo, .int (nI tq), .int (nI row), .int (nI thick)]).toArray below meth c H locs 0 0 (MQ below (va_Qv (fun (u : Nat → Nat) => atP side th wi wo fl tq u (slabLay kf cn tq row th wi (vaC side fl th wi wo tq row) (slab0 side kf thick th wi (okC side fb th wi wn tq row) (vaC side fl th wi wo tq row) cn).2 s0 side).2) (fun (u : Nat → Nat) t => kE D vwCl A [(mo, .inr (6, [.int (nI thr), .int (nI side), .int (nI kf), .ref m1, .ref m2, .int (nI cn), .ref m3, .ref m4, .ref m5, .ref m6, .ref m7, .ref m8, .ref m9, .ref m10, .ref m11, .ref m12, .int (pI sw), .int (nI tn), .int (nI tot), .int (nI psl), .int (nI ((slabLay kf cn tq row th wi (vaC side fl th wi wo tq row) (slab0 side kf thick th wi (okC side fb th wi wn tq row) (vaC side fl th wi wo tq row) cn).2 s0 side).2.1)), .ref m13])), (m3, .inl (cI, 8, .inl (fun j => nI (th j)))), (m4, .inl (cI, 8, .inl (fun j => nI (wi j)))), (m5, .inl (cI, 8, .inl (fun j => nI (wo j)))), (m6, .inl (cI, 8, .inl (fun j => nI (wn j)))), (m7, .inl (cI, 441, .inl (fun j => nI (F3 j)))), (m8, .inl (cI, 441, .inl (fun j => nI (F4 j)))), (m9, .inl (cI, 9702, .inl (fun j => nI (SW j)))), (m10, .inl (cI, 9702, .inl (fun j => nI (SN j)))), (m13, .inl (cI, 2400, .inl (fun j => nI (u j))))] t) A) ([.ref mo, .int (nI tq), .int (nI row), .int (nI thick)]).toArray s 0 0 A) (F0 m 3 ls []) := by
    intro n
    induction n with
    | zero =>
      intro kc TA hi hc fr ap_ H locs hP hD hS ls hl
      refine lv_iload hx hb d_Mo_walkSlab_3 (lv_at hl 0 rfl) ?_
      refine lv_aload_n hx hb d_Mo_walkSlab_5 rfl (lv_at hl 1 rfl) ?_
      refine va_get (D := D) (ci := 6) (v := .int (nI side)) (C := R_Mo) (T := T_Mo) (N := 22) hx hb hts (fun w h => List.mem_cons_of_mem _ (iw_Mo w h)) hown hK hP 0 rfl rfl 1 (by decide) (hts _ (List.mem_cons_of_mem _ k_546)) (fun _ h9 => h9) rfl d_Mo_walkSlab_6 ?_
      refine kb_cge (tgt := 137) (nI_t (by omega)) (nI_t (by omega)) hx hb d_Mo_walkSlab_9 (by decide) (fun c_9 => ?_) (fun c_9 => ?_)
      · have ec : side = kc := by omega
        subst ec
        exact kretv (u := TA) hx hb hr hP hD hS hlocks rfl (ap_) d_Mo_walkSlab_137
      · exfalso; omega
    | succ n ih =>
      intro kc TA hi hc fr ap_ H locs hP hD hS ls hl
      refine lv_iload hx hb d_Mo_walkSlab_3 (lv_at hl 0 rfl) ?_
      refine lv_aload_n hx hb d_Mo_walkSlab_5 rfl (lv_at hl 1 rfl) ?_
      refine va_get (D := D) (ci := 6) (v := .int (nI side)) (C := R_Mo) (T := T_Mo) (N := 22) hx hb hts (fun w h => List.mem_cons_of_mem _ (iw_Mo w h)) hown hK hP 0 rfl rfl 1 (by decide) (hts _ (List.mem_cons_of_mem _ k_546)) (fun _ h9 => h9) rfl d_Mo_walkSlab_6 ?_
      refine kb_cge (tgt := 137) (nI_t (by omega)) (nI_t (by omega)) hx hb d_Mo_walkSlab_9 (by decide) (fun cc => ?_) (fun cc => ?_)
      · have ec : side = kc := by omega
        subst ec
        exact kretv (u := TA) hx hb hr hP hD hS hlocks rfl (ap_) d_Mo_walkSlab_137
      · have iho := ih
        have fr9 := fr (by omega)
        have pcb := slabLay_ct (kf := kf) (cn := cn) (tn := tq) (row := row) (th := th) (wi := wi) (va := (vaC side fl th wi wo tq row)) (SC := (slab0 side kf thick th wi (okC side fb th wi wn tq row) (vaC side fl th wi wo tq row) cn).2) (s0 := s0) kc
        have at_ := slab0_at (side := side) (kf := kf) (thick := thick) (th := th) (wi := wi) (ok := (okC side fb th wi wn tq row)) (va := (vaC side fl th wi wo tq row)) (cn := cn) hw1 (c := kc) (by omega)
        have f1 : (colFold (slab0 side kf thick th wi (okC side fb th wi wn tq row) (vaC side fl th wi wo tq row) cn).1 side kf kc thick th wi ((okC side fb th wi wn tq row) kc) ((vaC side fl th wi wo tq row) kc) cn).1 = (slab0 side kf thick th wi (okC side fb th wi wn tq row) (vaC side fl th wi wo tq row) cn).1 kc := congrArg Prod.fst at_.symm
        have f2 : (colFold (slab0 side kf thick th wi (okC side fb th wi wn tq row) (vaC side fl th wi wo tq row) cn).1 side kf kc thick th wi ((okC side fb th wi wn tq row) kc) ((vaC side fl th wi wo tq row) kc) cn).2 = (slab0 side kf thick th wi (okC side fb th wi wn tq row) (vaC side fl th wi wo tq row) cn).2 kc := congrArg Prod.snd at_.symm
        have ff := colFold_first (RC := (slab0 side kf thick th wi (okC side fb th wi wn tq row) (vaC side fl th wi wo tq row) cn).1) (side := side) (kf := kf) (col := kc) (thick := thick) (th := th) (wi := wi) (ok := (okC side fb th wi wn tq row) kc) (va := (vaC side fl th wi wo tq row) kc) cn
        rw [f1, f2] at ff
        obtain ⟨b1, b2, b3, b4⟩ := bk kc (by omega)
        refine lv_iload_n hx hb d_Mo_walkSlab_12 rfl (lv_at hl 3 rfl) ?_
        refine lv_iload_n hx hb d_Mo_walkSlab_13 rfl (lv_at hl 4 rfl) ?_
        refine lv_iload hx hb d_Mo_walkSlab_14 (lv_at hl 0 rfl) ?_
        refine kcallR (r := .int (nI ((21 * row + thick) * 22 + kc))) (va_runS (As := [.int (nI row), .int (nI thick), .int (nI kc)]) (rest := []) ⟨hx, hb, hml, hown, hts⟩ (m_cell2 l D cI cJ cZ row thick kc ) ⟨callB_of 3 hts (gd kc_Mo_cell2) rfl rfl rfl (hts _ (List.mem_cons_of_mem _ k_8)) (hts _ (List.mem_cons_of_mem _ k_664)) (by decide +kernel) ⟨Nat.le_of_ble_eq_true rfl, Nat.le_of_ble_eq_true rfl⟩, hts _ (List.mem_cons_of_mem _ k_665)⟩ ⟨kR_blind, kR_at hP hK hZ [] rfl⟩ rfl rfl hl.1 rfl (lv_room (Nat.le_of_ble_eq_true rfl)) d_Mo_walkSlab_16 ⟨Nat.zero_le _, Nat.zero_le _⟩) ?_
        refine lv_istore (lv' := [(5, .int (nI ((21 * row + thick) * 22 + kc))), (4, .int (nI kc)), (0, .ref mo), (1, .int (nI tq)), (2, .int (nI row)), (3, .int (nI thick))]) hx hb d_Mo_walkSlab_19 hl (by decide) rfl (fun ls hl => ?_)
        refine lv_iconst (v := nI 0) hx hb d_Mo_walkSlab_21 (by decide +kernel) ?_
        refine lv_istore (lv' := [(6, .int (nI 0)), (5, .int (nI ((21 * row + thick) * 22 + kc))), (4, .int (nI kc)), (0, .ref mo), (1, .int (nI tq)), (2, .int (nI row)), (3, .int (nI thick))]) hx hb d_Mo_walkSlab_22 hl (by decide) rfl (fun ls hl => ?_)
        have lq : ∀ (k : Nat) (s_ : Nat), (s_ + k = cn) → (∀ i, i < s_ → (th i = thick ∧ okC side fb th wi wn tq row kc i) → rkC (slab0 side kf thick th wi (okC side fb th wi wn tq row) (vaC side fl th wi wo tq row) cn).1 side kf kc wi ((vaC side fl th wi wo tq row) kc) i ≠ (slab0 side kf thick th wi (okC side fb th wi wn tq row) (vaC side fl th wi wo tq row) cn).1 kc) → ∀ (H : Heap) (locs : List Loc), va_P D vwCl [(mo, .inr (6, [.int (nI thr), .int (nI side), .int (nI kf), .ref m1, .ref m2, .int (nI cn), .ref m3, .ref m4, .ref m5, .ref m6, .ref m7, .ref m8, .ref m9, .ref m10, .ref m11, .ref m12, .int (pI sw), .int (nI tn), .int (nI tot), .int (nI psl), .int (nI ((slabLay kf cn tq row th wi (vaC side fl th wi wo tq row) (slab0 side kf thick th wi (okC side fb th wi wn tq row) (vaC side fl th wi wo tq row) cn).2 s0 kc).2.1)), .ref m13])), (m3, .inl (cI, 8, .inl (fun j => nI (th j)))), (m4, .inl (cI, 8, .inl (fun j => nI (wi j)))), (m5, .inl (cI, 8, .inl (fun j => nI (wo j)))), (m6, .inl (cI, 8, .inl (fun j => nI (wn j)))), (m7, .inl (cI, 441, .inl (fun j => nI (F3 j)))), (m8, .inl (cI, 441, .inl (fun j => nI (F4 j)))), (m9, .inl (cI, 9702, .inl (fun j => nI (SW j)))), (m10, .inl (cI, 9702, .inl (fun j => nI (SN j)))), (m13, .inl (cI, 2400, .inl (fun j => nI (TA j))))] H → va_D A [(mo, .inr (6, [.int (nI thr), .int (nI side), .int (nI kf), .ref m1, .ref m2, .int (nI cn), .ref m3, .ref m4, .ref m5, .ref m6, .ref m7, .ref m8, .ref m9, .ref m10, .ref m11, .ref m12, .int (pI sw), .int (nI tn), .int (nI tot), .int (nI psl), .int (nI ((slabLay kf cn tq row th wi (vaC side fl th wi wo tq row) (slab0 side kf thick th wi (okC side fb th wi wn tq row) (vaC side fl th wi wo tq row) cn).2 s0 kc).2.1)), .ref m13])), (m3, .inl (cI, 8, .inl (fun j => nI (th j)))), (m4, .inl (cI, 8, .inl (fun j => nI (wi j)))), (m5, .inl (cI, 8, .inl (fun j => nI (wo j)))), (m6, .inl (cI, 8, .inl (fun j => nI (wn j)))), (m7, .inl (cI, 441, .inl (fun j => nI (F3 j)))), (m8, .inl (cI, 441, .inl (fun j => nI (F4 j)))), (m9, .inl (cI, 9702, .inl (fun j => nI (SW j)))), (m10, .inl (cI, 9702, .inl (fun j => nI (SN j)))), (m13, .inl (cI, 2400, .inl (fun j => nI (TA j))))] → va_S A s.heap H locs → ∀ ls : Array Slot, lv_has ls 7 [(6, .int (nI s_)), (5, .int (nI ((21 * row + thick) * 22 + kc))), (4, .int (nI kc)), (0, .ref mo), (1, .int (nI tq)), (2, .int (nI row)), (3, .int (nI thick))] → W p l e (headSpec w_Mo_walkSlab ({ frames := 3, cells := 0, slots := 0, locals := 79 })).room s m ([.ref mo, .int (nI tq), .int (nI row), .int (nI thick)]).toArray below meth c H locs 0 0 (MQ below (va_Qv (fun (u : Nat → Nat) => atP side th wi wo fl tq u (slabLay kf cn tq row th wi (vaC side fl th wi wo tq row) (slab0 side kf thick th wi (okC side fb th wi wn tq row) (vaC side fl th wi wo tq row) cn).2 s0 side).2) (fun (u : Nat → Nat) t => kE D vwCl A [(mo, .inr (6, [.int (nI thr), .int (nI side), .int (nI kf), .ref m1, .ref m2, .int (nI cn), .ref m3, .ref m4, .ref m5, .ref m6, .ref m7, .ref m8, .ref m9, .ref m10, .ref m11, .ref m12, .int (pI sw), .int (nI tn), .int (nI tot), .int (nI psl), .int (nI ((slabLay kf cn tq row th wi (vaC side fl th wi wo tq row) (slab0 side kf thick th wi (okC side fb th wi wn tq row) (vaC side fl th wi wo tq row) cn).2 s0 side).2.1)), .ref m13])), (m3, .inl (cI, 8, .inl (fun j => nI (th j)))), (m4, .inl (cI, 8, .inl (fun j => nI (wi j)))), (m5, .inl (cI, 8, .inl (fun j => nI (wo j)))), (m6, .inl (cI, 8, .inl (fun j => nI (wn j)))), (m7, .inl (cI, 441, .inl (fun j => nI (F3 j)))), (m8, .inl (cI, 441, .inl (fun j => nI (F4 j)))), (m9, .inl (cI, 9702, .inl (fun j => nI (SW j)))), (m10, .inl (cI, 9702, .inl (fun j => nI (SN j)))), (m13, .inl (cI, 2400, .inl (fun j => nI (u j))))] t) A) ([.ref mo, .int (nI tq), .int (nI row), .int (nI thick)]).toArray s 0 0 A) (F0 m 24 ls []) := by
          intro k
          induction k with
          | zero =>
            intro s_ hk no H locs hP hD hS ls hl
            have es : cn = s_ := by omega
            subst es
            refine lv_iload hx hb d_Mo_walkSlab_24 (lv_at hl 0 rfl) ?_
            refine lv_aload_n hx hb d_Mo_walkSlab_26 rfl (lv_at hl 3 rfl) ?_
            refine va_get (D := D) (ci := 6) (v := .int (nI cn)) (C := R_Mo) (T := T_Mo) (N := 22) hx hb hts (fun w h => List.mem_cons_of_mem _ (iw_Mo w h)) hown hK hP 0 rfl rfl 5 (by decide) (hts _ (List.mem_cons_of_mem _ k_550)) (fun _ h9 => h9) rfl d_Mo_walkSlab_27 ?_
            refine kb_cge (tgt := 94) (nI_t (by omega)) (nI_t (by omega)) hx hb d_Mo_walkSlab_30 (by decide) (fun c_30 => ?_) (fun c_30 => ?_)
            · refine lv_iload hx hb d_Mo_walkSlab_94 (lv_at hl 0 rfl) ?_
              refine lv_aload_n hx hb d_Mo_walkSlab_96 rfl (lv_at hl 3 rfl) ?_
              refine va_get (D := D) (ci := 6) (v := .int (nI cn)) (C := R_Mo) (T := T_Mo) (N := 22) hx hb hts (fun w h => List.mem_cons_of_mem _ (iw_Mo w h)) hown hK hP 0 rfl rfl 5 (by decide) (hts _ (List.mem_cons_of_mem _ k_550)) (fun _ h9 => h9) rfl d_Mo_walkSlab_97 ?_
              refine kb_cge (tgt := 131) (nI_t (by omega)) (nI_t (by omega)) hx hb d_Mo_walkSlab_100 (by decide) (fun c_100 => ?_) (fun c_100 => ?_)
              · refine lv_iinc (v := nI (kc + 1)) (lv' := [(4, .int (nI (kc + 1))), (6, .int (nI cn)), (5, .int (nI ((21 * row + thick) * 22 + kc))), (0, .ref mo), (1, .int (nI tq)), (2, .int (nI row)), (3, .int (nI thick))]) hx hb d_Mo_walkSlab_131 hl (k := 2) rfl (nI_add _ 1) (by decide) rfl (fun ls hl => ?_)
                refine lv_goto (tgt := 3) hx hb d_Mo_walkSlab_134 (by decide) ?_
                have sc : (slab0 side kf thick th wi (okC side fb th wi wn tq row) (vaC side fl th wi wo tq row) cn).2 kc = -1 := by
                  rcases ff with ⟨g1, -⟩ | ⟨i0, g1, g2, g3, g4, -⟩
                  · exact g1
                  · exact absurd g4 (no i0 g1 g3)
                have eL : (slabLay kf cn tq row th wi (vaC side fl th wi wo tq row) (slab0 side kf thick th wi (okC side fb th wi wn tq row) (vaC side fl th wi wo tq row) cn).2 s0 (kc + 1)) = (slabLay kf cn tq row th wi (vaC side fl th wi wo tq row) (slab0 side kf thick th wi (okC side fb th wi wn tq row) (vaC side fl th wi wo tq row) cn).2 s0 kc) := by
                  show layStep kf cn tq row th wi (vaC side fl th wi wo tq row) (slab0 side kf thick th wi (okC side fb th wi wn tq row) (vaC side fl th wi wo tq row) cn).2 kc _ = _
                  unfold layStep
                  exact if_neg (fun q => by omega)
                rw [← eL] at hP hD ap_
                exact iho (kc + 1) TA (by omega) (by omega) (fun _ => by rw [eL]; omega) ap_ _ _ hP hD hS ls (lv_sub hl [0, 3, 4, 5, 6] rfl)
              · exfalso; omega
            · exfalso; omega
          | succ k ih =>
            intro s_ hk no H locs hP hD hS ls hl
            refine lv_iload hx hb d_Mo_walkSlab_24 (lv_at hl 0 rfl) ?_
            refine lv_aload_n hx hb d_Mo_walkSlab_26 rfl (lv_at hl 3 rfl) ?_
            refine va_get (D := D) (ci := 6) (v := .int (nI cn)) (C := R_Mo) (T := T_Mo) (N := 22) hx hb hts (fun w h => List.mem_cons_of_mem _ (iw_Mo w h)) hown hK hP 0 rfl rfl 5 (by decide) (hts _ (List.mem_cons_of_mem _ k_550)) (fun _ h9 => h9) rfl d_Mo_walkSlab_27 ?_
            refine kb_cge (tgt := 94) (nI_t (by omega)) (nI_t (by omega)) hx hb d_Mo_walkSlab_30 (by decide) (fun c_30 => ?_) (fun c_30 => ?_)
            · exfalso; omega
            · have w1 := hw1 s_ (by omega)
              have w2 := hw s_ (by omega)
              have v1 := vaC_bd (side := side) (fl := fl) (th := th) (wi := wi) (wo := wo) (tn := tq) (row := row) (col := kc) (i := s_) (ho s_ (by omega))
              obtain ⟨p1, p2, p3, p4⟩ := bk (min side (kc + wi s_ + kf)) (by omega)
              have rk : rkC (slab0 side kf thick th wi (okC side fb th wi wn tq row) (vaC side fl th wi wo tq row) cn).1 side kf kc wi ((vaC side fl th wi wo tq row) kc) s_ = 1000 * (((vaC side fl th wi wo tq row kc s_).toNat + SW ((21 * row + thick) * 22 + min side (kc + wi s_ + kf)) : Nat) : Int) - ((1 + SN ((21 * row + thick) * 22 + min side (kc + wi s_ + kf)) : Nat) : Int) := by
                unfold rkC
                omega
              refine lv_aload_n hx hb d_Mo_walkSlab_33 rfl (lv_at hl 3 rfl) ?_
              refine lv_iload hx hb d_Mo_walkSlab_34 (lv_at hl 0 rfl) ?_
              refine lv_iload_n hx hb d_Mo_walkSlab_36 rfl (lv_at hl 4 rfl) ?_
              refine lv_iload_n hx hb d_Mo_walkSlab_37 rfl (lv_at hl 5 rfl) ?_
              refine lv_iload_n hx hb d_Mo_walkSlab_38 rfl (lv_at hl 6 rfl) ?_
              refine lv_iload hx hb d_Mo_walkSlab_39 (lv_at hl 2 rfl) ?_
              refine kcallR (r := .int (pI (th s_ = thick ∧ okC side fb th wi wn tq row kc s_))) (va_runV (As := [.int (nI s_), .int (nI tq), .int (nI row), .int (nI thick), .int (nI kc)]) (rest := []) ⟨hx, hb, hml, hown, hts⟩ (m_mayIn l D cI cJ cZ mo thr side kf m1 m2 cn m3 m4 m5 m6 m7 m8 m9 m10 m11 m12 sw tn tot psl ((slabLay kf cn tq row th wi (vaC side fl th wi wo tq row) (slab0 side kf thick th wi (okC side fb th wi wn tq row) (vaC side fl th wi wo tq row) cn).2 s0 kc).2.1) m13 th wi wn F3 fb s_ tq row thick kc s2 (by omega) tq1 rb tb (by omega) ht hw hn hF hfb) ⟨callB_of 5 hts (gd kc_Mo_mayIn) rfl rfl rfl (hts _ (List.mem_cons_of_mem _ k_8)) (hts _ (List.mem_cons_of_mem _ k_667)) (by decide +kernel) ⟨Nat.le_of_ble_eq_true rfl, Nat.le_of_ble_eq_true rfl⟩, hts _ (List.mem_cons_of_mem _ k_669), hts _ (List.mem_cons_of_mem _ ks_18)⟩ ⟨kR_blind, va_recv hK hP (ci := 6) (q0 := 0) rfl rfl, kR_at hP hK hZ [0, 1, 2, 4, 5] rfl⟩ rfl rfl hl.1 rfl (lv_room (Nat.le_of_ble_eq_true rfl)) d_Mo_walkSlab_41 ⟨Nat.zero_le _, Nat.zero_le _⟩) ?_
              refine kb_eqP (tgt := 88) hx hb d_Mo_walkSlab_44 (by decide) (fun cm => ?_) (fun cm => ?_)
              · refine lv_iinc (v := nI (s_ + 1)) (lv' := [(6, .int (nI (s_ + 1))), (5, .int (nI ((21 * row + thick) * 22 + kc))), (4, .int (nI kc)), (0, .ref mo), (1, .int (nI tq)), (2, .int (nI row)), (3, .int (nI thick))]) hx hb d_Mo_walkSlab_88 hl (k := 0) rfl (nI_add _ 1) (by decide) rfl (fun ls hl => ?_)
                refine lv_goto (tgt := 24) hx hb d_Mo_walkSlab_91 (by decide) ?_
                exact ih (s_ + 1) (by omega) (fun i hi hq => by
                  by_cases e : i = s_
                  · subst e
                    exact absurd hq cm
                  · exact no i (by omega) hq) _ _ hP hD hS ls (lv_sub hl [0, 1, 2, 3, 4, 5, 6] rfl)
              · refine lv_aload_n hx hb d_Mo_walkSlab_47 rfl (lv_at hl 3 rfl) ?_
                refine lv_iload hx hb d_Mo_walkSlab_48 (lv_at hl 0 rfl) ?_
                refine lv_iload_n hx hb d_Mo_walkSlab_50 rfl (lv_at hl 4 rfl) ?_
                refine lv_iload_n hx hb d_Mo_walkSlab_51 rfl (lv_at hl 5 rfl) ?_
                refine lv_iload_n hx hb d_Mo_walkSlab_52 rfl (lv_at hl 6 rfl) ?_
                refine lv_iload hx hb d_Mo_walkSlab_53 (lv_at hl 2 rfl) ?_
                refine kcallR (r := .int (nI ((vaC side fl th wi wo tq row kc s_).toNat + SW ((21 * row + thick) * 22 + min side (kc + wi s_ + kf))))) (va_runV (As := [.int (nI s_), .int (nI tq), .int (nI row), .int (nI thick), .int (nI kc)]) (rest := []) ⟨hx, hb, hml, hown, hts⟩ (m_worthWith l D cI cJ cZ mo thr side kf m1 m2 cn m3 m4 m5 m6 m7 m8 m9 m10 m11 m12 sw tn tot psl ((slabLay kf cn tq row th wi (vaC side fl th wi wo tq row) (slab0 side kf thick th wi (okC side fb th wi wn tq row) (vaC side fl th wi wo tq row) cn).2 s0 kc).2.1) m13 th wi wo F4 SW fb fl wn s_ tq row thick kc s2 k4 (by omega) tq1 rb tb (by omega) cm.2 hw ho hG hfl) ⟨callB_of 5 hts (gd kc_Mo_worthWith) rfl rfl rfl (hts _ (List.mem_cons_of_mem _ k_8)) (hts _ (List.mem_cons_of_mem _ k_687)) (by decide +kernel) ⟨Nat.le_of_ble_eq_true rfl, Nat.le_of_ble_eq_true rfl⟩, hts _ (List.mem_cons_of_mem _ k_689), hts _ (List.mem_cons_of_mem _ ks_23)⟩ ⟨kR_blind, va_recv hK hP (ci := 6) (q0 := 0) rfl rfl, kR_at hP hK hZ [0, 1, 2, 3, 6, 7] rfl⟩ rfl rfl hl.1 rfl (lv_room (Nat.le_of_ble_eq_true rfl)) d_Mo_walkSlab_55 ⟨Nat.zero_le _, Nat.zero_le _⟩) ?_
                refine lv_aload_n hx hb d_Mo_walkSlab_58 rfl (lv_at hl 3 rfl) ?_
                refine va_get (D := D) (ci := 6) (v := .ref m9) (C := R_Mo) (T := T_Mo) (N := 22) hx hb hts (fun w h => List.mem_cons_of_mem _ (iw_Mo w h)) hown hK hP 0 rfl rfl 12 (by decide) (hts _ (List.mem_cons_of_mem _ k_557)) (fun _ h9 => h9) rfl d_Mo_walkSlab_59 ?_
                refine lv_iload hx hb d_Mo_walkSlab_62 (lv_at hl 1 rfl) ?_
                refine ka_iald (k := ((21 * row + thick) * 22 + kc)) (n := 9702) (f := fun j => nI (SW j)) (nI_t (by omega)) (by omega) hx hb hK hP 7 0 rfl rfl d_Mo_walkSlab_64 ?_
                refine kb_cne (tgt := 88) (nI_t (by omega)) (nI_t (by omega)) hx hb d_Mo_walkSlab_65 (by decide) (fun cw => ?_) (fun cw => ?_)
                · refine lv_iinc (v := nI (s_ + 1)) (lv' := [(6, .int (nI (s_ + 1))), (5, .int (nI ((21 * row + thick) * 22 + kc))), (4, .int (nI kc)), (0, .ref mo), (1, .int (nI tq)), (2, .int (nI row)), (3, .int (nI thick))]) hx hb d_Mo_walkSlab_88 hl (k := 0) rfl (nI_add _ 1) (by decide) rfl (fun ls hl => ?_)
                  refine lv_goto (tgt := 24) hx hb d_Mo_walkSlab_91 (by decide) ?_
                  exact ih (s_ + 1) (by omega) (fun i hi hq => by
                    by_cases e : i = s_
                    · subst e
                      rw [rk, b1]
                      omega
                    · exact no i (by omega) hq) _ _ hP hD hS ls (lv_sub hl [0, 1, 2, 3, 4, 5, 6] rfl)
                · refine lv_aload_n hx hb d_Mo_walkSlab_68 rfl (lv_at hl 3 rfl) ?_
                  refine lv_iload hx hb d_Mo_walkSlab_69 (lv_at hl 0 rfl) ?_
                  refine lv_iload_n hx hb d_Mo_walkSlab_71 rfl (lv_at hl 5 rfl) ?_
                  refine lv_iload_n hx hb d_Mo_walkSlab_72 rfl (lv_at hl 6 rfl) ?_
                  refine lv_iload hx hb d_Mo_walkSlab_73 (lv_at hl 2 rfl) ?_
                  refine kcallR (r := .int (nI (1 + SN ((21 * row + thick) * 22 + min side (kc + wi s_ + kf))))) (va_runV (As := [.int (nI s_), .int (nI row), .int (nI thick), .int (nI kc)]) (rest := []) ⟨hx, hb, hml, hown, hts⟩ (m_countWith l D cI cJ cZ mo thr side kf m1 m2 cn m3 m4 m5 m6 m7 m8 m9 m10 m11 m12 sw tn tot psl ((slabLay kf cn tq row th wi (vaC side fl th wi wo tq row) (slab0 side kf thick th wi (okC side fb th wi wn tq row) (vaC side fl th wi wo tq row) cn).2 s0 kc).2.1) m13 wi SN s_ row thick kc s2 k4 (by omega) rb tb (by omega) hw) ⟨callB_of 4 hts (gd kc_Mo_countWith) rfl rfl rfl (hts _ (List.mem_cons_of_mem _ k_8)) (hts _ (List.mem_cons_of_mem _ k_699)) (by decide +kernel) ⟨Nat.le_of_ble_eq_true rfl, Nat.le_of_ble_eq_true rfl⟩, hts _ (List.mem_cons_of_mem _ k_701), hts _ (List.mem_cons_of_mem _ ks_26)⟩ ⟨kR_blind, va_recv hK hP (ci := 6) (q0 := 0) rfl rfl, kR_at hP hK hZ [0, 2, 8] rfl⟩ rfl rfl hl.1 rfl (lv_room (Nat.le_of_ble_eq_true rfl)) d_Mo_walkSlab_75 ⟨Nat.zero_le _, Nat.zero_le _⟩) ?_
                  refine lv_aload_n hx hb d_Mo_walkSlab_78 rfl (lv_at hl 3 rfl) ?_
                  refine va_get (D := D) (ci := 6) (v := .ref m10) (C := R_Mo) (T := T_Mo) (N := 22) hx hb hts (fun w h => List.mem_cons_of_mem _ (iw_Mo w h)) hown hK hP 0 rfl rfl 13 (by decide) (hts _ (List.mem_cons_of_mem _ k_558)) (fun _ h9 => h9) rfl d_Mo_walkSlab_79 ?_
                  refine lv_iload hx hb d_Mo_walkSlab_82 (lv_at hl 1 rfl) ?_
                  refine ka_iald (k := ((21 * row + thick) * 22 + kc)) (n := 9702) (f := fun j => nI (SN j)) (nI_t (by omega)) (by omega) hx hb hK hP 8 0 rfl rfl d_Mo_walkSlab_84 ?_
                  refine kb_ceq (tgt := 94) (nI_t (by omega)) (nI_t (by omega)) hx hb d_Mo_walkSlab_85 (by decide) (fun cn_ => ?_) (fun cn_ => ?_)
                  · refine lv_iload hx hb d_Mo_walkSlab_94 (lv_at hl 0 rfl) ?_
                    refine lv_aload_n hx hb d_Mo_walkSlab_96 rfl (lv_at hl 3 rfl) ?_
                    refine va_get (D := D) (ci := 6) (v := .int (nI cn)) (C := R_Mo) (T := T_Mo) (N := 22) hx hb hts (fun w h => List.mem_cons_of_mem _ (iw_Mo w h)) hown hK hP 0 rfl rfl 5 (by decide) (hts _ (List.mem_cons_of_mem _ k_550)) (fun _ h9 => h9) rfl d_Mo_walkSlab_97 ?_
                    refine kb_cge (tgt := 131) (nI_t (by omega)) (nI_t (by omega)) hx hb d_Mo_walkSlab_100 (by decide) (fun c_100 => ?_) (fun c_100 => ?_)
                    · exfalso; omega
                    · have og := sumZ_on cm.2.1
                      have sc : (slab0 side kf thick th wi (okC side fb th wi wn tq row) (vaC side fl th wi wo tq row) cn).2 kc = ((s_ : Nat) : Int) := by
                        have er : rkC (slab0 side kf thick th wi (okC side fb th wi wn tq row) (vaC side fl th wi wo tq row) cn).1 side kf kc wi ((vaC side fl th wi wo tq row) kc) s_ = (slab0 side kf thick th wi (okC side fb th wi wn tq row) (vaC side fl th wi wo tq row) cn).1 kc := by rw [rk, b1]; omega
                        rcases ff with ⟨g1, g2⟩ | ⟨i0, g1, g2, g3, g4, g5, g6⟩
                        · have h9 := g2 s_ (by omega) cm
                          omega
                        · rcases Nat.lt_trichotomy i0 s_ with h | h | h
                          · exact absurd g4 (no i0 h g3)
                          · rw [g2, h]
                          · have h9 := g5 s_ h cm
                            omega
                      refine lv_aload_n hx hb d_Mo_walkSlab_103 rfl (lv_at hl 3 rfl) ?_
                      refine lv_iload hx hb d_Mo_walkSlab_104 (lv_at hl 0 rfl) ?_
                      refine lv_iload_n hx hb d_Mo_walkSlab_106 rfl (lv_at hl 4 rfl) ?_
                      refine lv_iload_n hx hb d_Mo_walkSlab_107 rfl (lv_at hl 5 rfl) ?_
                      refine lv_iload hx hb d_Mo_walkSlab_108 (lv_at hl 2 rfl) ?_
                      refine kcallv (wc := [(mo, .inr (6, [.int (nI thr), .int (nI side), .int (nI kf), .ref m1, .ref m2, .int (nI cn), .ref m3, .ref m4, .ref m5, .ref m6, .ref m7, .ref m8, .ref m9, .ref m10, .ref m11, .ref m12, .int (pI sw), .int (nI tn), .int (nI tot), .int (nI psl), .int (nI ((slabLay kf cn tq row th wi (vaC side fl th wi wo tq row) (slab0 side kf thick th wi (okC side fb th wi wn tq row) (vaC side fl th wi wo tq row) cn).2 s0 kc).2.1)), .ref m13])), (m3, .inl (cI, 8, .inl (fun j => nI (th j)))), (m4, .inl (cI, 8, .inl (fun j => nI (wi j)))), (m5, .inl (cI, 8, .inl (fun j => nI (wo j)))), (m8, .inl (cI, 441, .inl (fun j => nI (F4 j)))), (m13, .inl (cI, 2400, .inl (fun j => nI (TA j))))]) (wr := [(m6, .inl (cI, 8, .inl (fun j => nI (wn j)))), (m7, .inl (cI, 441, .inl (fun j => nI (F3 j)))), (m9, .inl (cI, 9702, .inl (fun j => nI (SW j)))), (m10, .inl (cI, 9702, .inl (fun j => nI (SN j))))]) [0, 1, 2, 3, 6, 9] [4, 5, 7, 8] (va_runV (As := [.int (nI s_), .int (nI tq), .int (nI row), .int (nI kc)]) (rest := []) ⟨hx, hb, hml, hown, hts⟩ (m_add l D cI cJ cZ H.size mo thr side kf m1 m2 cn m3 m4 m5 m6 m7 m8 m9 m10 m11 m12 sw tn tot psl ((slabLay kf cn tq row th wi (vaC side fl th wi wo tq row) (slab0 side kf thick th wi (okC side fb th wi wn tq row) (vaC side fl th wi wo tq row) cn).2 s0 kc).2.1) m13 th wi wo F4 TA fb fl wn s_ tq row kc s2 (by omega) tq1 rb (by omega) (by omega) cm.2 ho hG hfl) ⟨callB_of 4 hts (gd kc_Mo_add) rfl rfl rfl (hts _ (List.mem_cons_of_mem _ k_8)) (hts _ (List.mem_cons_of_mem _ k_718)) (by decide +kernel) ⟨Nat.le_of_ble_eq_true rfl, Nat.le_of_ble_eq_true rfl⟩, hts _ (List.mem_cons_of_mem _ k_720), hts _ (List.mem_cons_of_mem _ ks_30)⟩ ⟨kB_blind, va_recv hK hP (ci := 6) (q0 := 0) rfl rfl, kB_at hP hD hK hZ [0, 1, 2, 3, 6, 9] rfl (by decide) rfl⟩ rfl rfl hl.1 rfl (lv_room (Nat.le_of_ble_eq_true rfl)) d_Mo_walkSlab_110 ⟨Nat.zero_le _, Nat.zero_le _⟩) hP hD hS hA rfl rfl (by decide) (by decide) (fun _ H locs hw_110 hP hD hS => ?_)
                      have hP : va_P D vwCl [(m6, .inl (cI, 8, .inl (fun j => nI (wn j)))), (m7, .inl (cI, 441, .inl (fun j => nI (F3 j)))), (m9, .inl (cI, 9702, .inl (fun j => nI (SW j)))), (m10, .inl (cI, 9702, .inl (fun j => nI (SN j)))), (mo, .inr (6, [.int (nI thr), .int (nI side), .int (nI kf), .ref m1, .ref m2, .int (nI cn), .ref m3, .ref m4, .ref m5, .ref m6, .ref m7, .ref m8, .ref m9, .ref m10, .ref m11, .ref m12, .int (pI sw), .int (nI tn), .int (nI tot), .int (nI psl), .int (nI (((slabLay kf cn tq row th wi (vaC side fl th wi wo tq row) (slab0 side kf thick th wi (okC side fb th wi wn tq row) (vaC side fl th wi wo tq row) cn).2 s0 kc).2.1) + 1)), .ref m13])), (m3, .inl (cI, 8, .inl (fun j => nI (th j)))), (m4, .inl (cI, 8, .inl (fun j => nI (wi j)))), (m5, .inl (cI, 8, .inl (fun j => nI (wo j)))), (m8, .inl (cI, 441, .inl (fun j => nI (F4 j)))), (m13, .inl (cI, 2400, .inl (fun j => nI ((at6 TA (6 * ((slabLay kf cn tq row th wi (vaC side fl th wi wo tq row) (slab0 side kf thick th wi (okC side fb th wi wn tq row) (vaC side fl th wi wo tq row) cn).2 s0 kc).2.1)) s_ (pX tq row kc) (pY tq row kc) (if ((tq : Nat) : Int) = 0 then wi s_ else th s_) (if ((tq : Nat) : Int) = 0 then th s_ else wi s_) (vaC side fl th wi wo tq row kc s_).toNat) j))))] H := hP
                      have hD : va_D A [(m6, .inl (cI, 8, .inl (fun j => nI (wn j)))), (m7, .inl (cI, 441, .inl (fun j => nI (F3 j)))), (m9, .inl (cI, 9702, .inl (fun j => nI (SW j)))), (m10, .inl (cI, 9702, .inl (fun j => nI (SN j)))), (mo, .inr (6, [.int (nI thr), .int (nI side), .int (nI kf), .ref m1, .ref m2, .int (nI cn), .ref m3, .ref m4, .ref m5, .ref m6, .ref m7, .ref m8, .ref m9, .ref m10, .ref m11, .ref m12, .int (pI sw), .int (nI tn), .int (nI tot), .int (nI psl), .int (nI (((slabLay kf cn tq row th wi (vaC side fl th wi wo tq row) (slab0 side kf thick th wi (okC side fb th wi wn tq row) (vaC side fl th wi wo tq row) cn).2 s0 kc).2.1) + 1)), .ref m13])), (m3, .inl (cI, 8, .inl (fun j => nI (th j)))), (m4, .inl (cI, 8, .inl (fun j => nI (wi j)))), (m5, .inl (cI, 8, .inl (fun j => nI (wo j)))), (m8, .inl (cI, 441, .inl (fun j => nI (F4 j)))), (m13, .inl (cI, 2400, .inl (fun j => nI ((at6 TA (6 * ((slabLay kf cn tq row th wi (vaC side fl th wi wo tq row) (slab0 side kf thick th wi (okC side fb th wi wn tq row) (vaC side fl th wi wo tq row) cn).2 s0 kc).2.1)) s_ (pX tq row kc) (pY tq row kc) (if ((tq : Nat) : Int) = 0 then wi s_ else th s_) (if ((tq : Nat) : Int) = 0 then th s_ else wi s_) (vaC side fl th wi wo tq row kc s_).toNat) j))))] := hD
                      refine lv_aload_n hx hb d_Mo_walkSlab_113 rfl (lv_at hl 3 rfl) ?_
                      refine lv_iload hx hb d_Mo_walkSlab_114 (lv_at hl 2 rfl) ?_
                      refine lv_aload_n hx hb d_Mo_walkSlab_116 rfl (lv_at hl 3 rfl) ?_
                      refine va_get (D := D) (ci := 6) (v := .ref m4) (C := R_Mo) (T := T_Mo) (N := 22) hx hb hts (fun w h => List.mem_cons_of_mem _ (iw_Mo w h)) hown hK hP 4 rfl rfl 7 (by decide) (hts _ (List.mem_cons_of_mem _ k_552)) (fun _ h9 => h9) rfl d_Mo_walkSlab_117 ?_
                      refine lv_iload hx hb d_Mo_walkSlab_120 (lv_at hl 0 rfl) ?_
                      refine ka_iald (k := s_) (n := 8) (f := fun j => nI (wi j)) (nI_t (by omega)) (by omega) hx hb hK hP 6 0 rfl rfl d_Mo_walkSlab_122 ?_
                      refine kcallR (r := .int (nI (min side (kc + (wi s_) + kf)))) (va_runV (As := [.int (nI kc), .int (nI (wi s_))]) (rest := []) ⟨hx, hb, hml, hown, hts⟩ (m_behind l D cI cJ cZ mo thr side kf m1 m2 cn m3 m4 m5 m6 m7 m8 m9 m10 m11 m12 sw tn tot psl (((slabLay kf cn tq row th wi (vaC side fl th wi wo tq row) (slab0 side kf thick th wi (okC side fb th wi wn tq row) (vaC side fl th wi wo tq row) cn).2 s0 kc).2.1) + 1) m13 kc (wi s_) (by omega) (by omega) (by omega) (by omega)) ⟨callB_of 2 hts (gd kc_Mo_behind) rfl rfl rfl (hts _ (List.mem_cons_of_mem _ k_8)) (hts _ (List.mem_cons_of_mem _ k_695)) (by decide +kernel) ⟨Nat.le_of_ble_eq_true rfl, Nat.le_of_ble_eq_true rfl⟩, hts _ (List.mem_cons_of_mem _ k_697), hts _ (List.mem_cons_of_mem _ ks_25)⟩ ⟨kR_blind, va_recv hK hP (ci := 6) (q0 := 4) rfl rfl, kR_at hP hK hZ [4] rfl⟩ rfl rfl hl.1 rfl (lv_room (Nat.le_of_ble_eq_true rfl)) d_Mo_walkSlab_123 ⟨Nat.zero_le _, Nat.zero_le _⟩) ?_
                      refine lv_istore (lv' := [(4, .int (nI (min side (kc + (wi s_) + kf)))), (6, .int (nI s_)), (5, .int (nI ((21 * row + thick) * 22 + kc))), (0, .ref mo), (1, .int (nI tq)), (2, .int (nI row)), (3, .int (nI thick))]) hx hb d_Mo_walkSlab_126 hl (by decide) rfl (fun ls hl => ?_)
                      refine lv_goto (tgt := 134) hx hb d_Mo_walkSlab_128 (by decide) ?_
                      refine lv_goto (tgt := 3) hx hb d_Mo_walkSlab_134 (by decide) ?_
                      have e1 : (slabLay kf cn tq row th wi (vaC side fl th wi wo tq row) (slab0 side kf thick th wi (okC side fb th wi wn tq row) (vaC side fl th wi wo tq row) cn).2 s0 (kc + 1)) = (kc + wi s_ + kf, addB (vaC side fl th wi wo tq row kc s_) (th s_ * wi s_) s_ (pX tq row kc) (pY tq row kc) (slabLay kf cn tq row th wi (vaC side fl th wi wo tq row) (slab0 side kf thick th wi (okC side fb th wi wn tq row) (vaC side fl th wi wo tq row) cn).2 s0 kc).2) := by
                        show layStep kf cn tq row th wi (vaC side fl th wi wo tq row) (slab0 side kf thick th wi (okC side fb th wi wn tq row) (vaC side fl th wi wo tq row) cn).2 kc _ = _
                        unfold layStep
                        rw [if_pos ⟨fr9, by omega, by omega⟩, sc, Int.toNat_natCast]
                      have e2 : (slabLay kf cn tq row th wi (vaC side fl th wi wo tq row) (slab0 side kf thick th wi (okC side fb th wi wn tq row) (vaC side fl th wi wo tq row) cn).2 s0 (min side (kc + wi s_ + kf))) = (slabLay kf cn tq row th wi (vaC side fl th wi wo tq row) (slab0 side kf thick th wi (okC side fb th wi wn tq row) (vaC side fl th wi wo tq row) cn).2 s0 (kc + 1)) := by
                        have h9 := slabLay_wait (kf := kf) (cn := cn) (tn := tq) (row := row) (th := th) (wi := wi) (va := (vaC side fl th wi wo tq row)) (SC := (slab0 side kf thick th wi (okC side fb th wi wn tq row) (vaC side fl th wi wo tq row) cn).2) (s0 := s0) (k0 := kc + 1) (min side (kc + wi s_ + kf) - (kc + 1)) (by rw [e1]; dsimp only; omega)
                        rw [show kc + 1 + (min side (kc + wi s_ + kf) - (kc + 1)) = min side (kc + wi s_ + kf) by omega] at h9
                        exact h9
                      have eL := e2.trans e1
                      have ep : (slabLay kf cn tq row th wi (vaC side fl th wi wo tq row) (slab0 side kf thick th wi (okC side fb th wi wn tq row) (vaC side fl th wi wo tq row) cn).2 s0 (min side (kc + wi s_ + kf))).2.1 = (slabLay kf cn tq row th wi (vaC side fl th wi wo tq row) (slab0 side kf thick th wi (okC side fb th wi wn tq row) (vaC side fl th wi wo tq row) cn).2 s0 kc).2.1 + 1 := by rw [eL]; rfl
                      have ap2 : atP side th wi wo fl tq (at6 TA (6 * (slabLay kf cn tq row th wi (vaC side fl th wi wo tq row) (slab0 side kf thick th wi (okC side fb th wi wn tq row) (vaC side fl th wi wo tq row) cn).2 s0 kc).2.1) s_ (pX tq row kc) (pY tq row kc) (if ((tq : Nat) : Int) = 0 then wi s_ else th s_) (if ((tq : Nat) : Int) = 0 then th s_ else wi s_) (vaC side fl th wi wo tq row kc s_).toNat) (slabLay kf cn tq row th wi (vaC side fl th wi wo tq row) (slab0 side kf thick th wi (okC side fb th wi wn tq row) (vaC side fl th wi wo tq row) cn).2 s0 (min side (kc + wi s_ + kf))).2 := by
                        rw [eL]
                        exact atP_add ap_ rfl og.2.2.1 og.2.2.2
                      rw [← ep] at hP hD
                      exact iho (min side (kc + wi s_ + kf)) (at6 TA (6 * (slabLay kf cn tq row th wi (vaC side fl th wi wo tq row) (slab0 side kf thick th wi (okC side fb th wi wn tq row) (vaC side fl th wi wo tq row) cn).2 s0 kc).2.1) s_ (pX tq row kc) (pY tq row kc) (if ((tq : Nat) : Int) = 0 then wi s_ else th s_) (if ((tq : Nat) : Int) = 0 then th s_ else wi s_) (vaC side fl th wi wo tq row kc s_).toNat) (by omega) (by omega) (fun _ => by rw [eL]; dsimp only; omega) ap2 _ _ (hP.sub [4, 5, 6, 7, 0, 1, 8, 2, 3, 9] rfl) (hD.sub [4, 5, 6, 7, 0, 1, 8, 2, 3, 9] (by decide) rfl) hS ls (lv_sub hl [0, 3, 4, 5, 6] rfl)
                  · refine lv_iinc (v := nI (s_ + 1)) (lv' := [(6, .int (nI (s_ + 1))), (5, .int (nI ((21 * row + thick) * 22 + kc))), (4, .int (nI kc)), (0, .ref mo), (1, .int (nI tq)), (2, .int (nI row)), (3, .int (nI thick))]) hx hb d_Mo_walkSlab_88 hl (k := 0) rfl (nI_add _ 1) (by decide) rfl (fun ls hl => ?_)
                    refine lv_goto (tgt := 24) hx hb d_Mo_walkSlab_91 (by decide) ?_
                    exact ih (s_ + 1) (by omega) (fun i hi hq => by
                      by_cases e : i = s_
                      · subst e
                        rw [rk, b1]
                        omega
                      · exact no i (by omega) hq) _ _ hP hD hS ls (lv_sub hl [0, 1, 2, 3, 4, 5, 6] rfl)
        exact lq cn 0 (by omega) (fun i hi => absurd hi (Nat.not_lt_zero i)) _ _ hP hD hS ls (lv_sub hl [0, 1, 2, 3, 4, 5, 6] rfl)
  exact lp side 0 AT (by omega) (by omega) (fun _ => Nat.le_refl _) ap _ _ hP hD hS ls (lv_sub hl [0, 1, 2, 3, 4] rfl)
