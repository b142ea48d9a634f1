theorem d_Mo_slab_0 : decode b_Mo_slab 0 = .ok (.aload_n 0, 1) := by decide +kernel
theorem d_Mo_slab_1 : decode b_Mo_slab 1 = .ok (.getfield 35, 3) := by decide +kernel
theorem d_Mo_slab_4 : decode b_Mo_slab 4 = .ok (.iload_n 2, 1) := by decide +kernel
theorem d_Mo_slab_5 : decode b_Mo_slab 5 = .ok (.iload_n 3, 1) := by decide +kernel
theorem d_Mo_slab_6 : decode b_Mo_slab 6 = .ok (.aload_n 0, 1) := by decide +kernel
theorem d_Mo_slab_7 : decode b_Mo_slab 7 = .ok (.getfield 50, 3) := by decide +kernel
theorem d_Mo_slab_10 : decode b_Mo_slab 10 = .ok (.invokestatic 101, 3) := by decide +kernel
theorem d_Mo_slab_13 : decode b_Mo_slab 13 = .ok (.iconst 0, 1) := by decide +kernel
theorem d_Mo_slab_14 : decode b_Mo_slab 14 = .ok (.iastore, 1) := by decide +kernel
theorem d_Mo_slab_15 : decode b_Mo_slab 15 = .ok (.aload_n 0, 1) := by decide +kernel
theorem d_Mo_slab_16 : decode b_Mo_slab 16 = .ok (.getfield 38, 3) := by decide +kernel
theorem d_Mo_slab_19 : decode b_Mo_slab 19 = .ok (.iload_n 2, 1) := by decide +kernel
theorem d_Mo_slab_20 : decode b_Mo_slab 20 = .ok (.iload_n 3, 1) := by decide +kernel
theorem d_Mo_slab_21 : decode b_Mo_slab 21 = .ok (.aload_n 0, 1) := by decide +kernel
theorem d_Mo_slab_22 : decode b_Mo_slab 22 = .ok (.getfield 50, 3) := by decide +kernel
theorem d_Mo_slab_25 : decode b_Mo_slab 25 = .ok (.invokestatic 101, 3) := by decide +kernel
theorem d_Mo_slab_28 : decode b_Mo_slab 28 = .ok (.iconst 0, 1) := by decide +kernel
theorem d_Mo_slab_29 : decode b_Mo_slab 29 = .ok (.iastore, 1) := by decide +kernel
theorem d_Mo_slab_30 : decode b_Mo_slab 30 = .ok (.aload_n 0, 1) := by decide +kernel
theorem d_Mo_slab_31 : decode b_Mo_slab 31 = .ok (.getfield 50, 3) := by decide +kernel
theorem d_Mo_slab_34 : decode b_Mo_slab 34 = .ok (.iconst 1, 1) := by decide +kernel
theorem d_Mo_slab_35 : decode b_Mo_slab 35 = .ok (.isub, 1) := by decide +kernel
theorem d_Mo_slab_36 : decode b_Mo_slab 36 = .ok (.istore 4, 2) := by decide +kernel
theorem d_Mo_slab_38 : decode b_Mo_slab 38 = .ok (.iload 4, 2) := by decide +kernel
theorem d_Mo_slab_40 : decode b_Mo_slab 40 = .ok (.ifCond .lt 178, 3) := by decide +kernel
theorem d_Mo_slab_43 : decode b_Mo_slab 43 = .ok (.iload_n 2, 1) := by decide +kernel
theorem d_Mo_slab_44 : decode b_Mo_slab 44 = .ok (.iload_n 3, 1) := by decide +kernel
theorem d_Mo_slab_45 : decode b_Mo_slab 45 = .ok (.iload 4, 2) := by decide +kernel
theorem d_Mo_slab_47 : decode b_Mo_slab 47 = .ok (.invokestatic 101, 3) := by decide +kernel
theorem d_Mo_slab_50 : decode b_Mo_slab 50 = .ok (.istore 5, 2) := by decide +kernel
theorem d_Mo_slab_52 : decode b_Mo_slab 52 = .ok (.aload_n 0, 1) := by decide +kernel
theorem d_Mo_slab_53 : decode b_Mo_slab 53 = .ok (.getfield 35, 3) := by decide +kernel
theorem d_Mo_slab_56 : decode b_Mo_slab 56 = .ok (.iload 5, 2) := by decide +kernel
theorem d_Mo_slab_58 : decode b_Mo_slab 58 = .ok (.aload_n 0, 1) := by decide +kernel
theorem d_Mo_slab_59 : decode b_Mo_slab 59 = .ok (.getfield 35, 3) := by decide +kernel
theorem d_Mo_slab_62 : decode b_Mo_slab 62 = .ok (.iload 5, 2) := by decide +kernel
theorem d_Mo_slab_64 : decode b_Mo_slab 64 = .ok (.iconst 1, 1) := by decide +kernel
theorem d_Mo_slab_65 : decode b_Mo_slab 65 = .ok (.iadd, 1) := by decide +kernel
theorem d_Mo_slab_66 : decode b_Mo_slab 66 = .ok (.iaload, 1) := by decide +kernel
theorem d_Mo_slab_67 : decode b_Mo_slab 67 = .ok (.iastore, 1) := by decide +kernel
theorem d_Mo_slab_68 : decode b_Mo_slab 68 = .ok (.aload_n 0, 1) := by decide +kernel
theorem d_Mo_slab_69 : decode b_Mo_slab 69 = .ok (.getfield 38, 3) := by decide +kernel
theorem d_Mo_slab_72 : decode b_Mo_slab 72 = .ok (.iload 5, 2) := by decide +kernel
theorem d_Mo_slab_74 : decode b_Mo_slab 74 = .ok (.aload_n 0, 1) := by decide +kernel
theorem d_Mo_slab_75 : decode b_Mo_slab 75 = .ok (.getfield 38, 3) := by decide +kernel
theorem d_Mo_slab_78 : decode b_Mo_slab 78 = .ok (.iload 5, 2) := by decide +kernel
theorem d_Mo_slab_80 : decode b_Mo_slab 80 = .ok (.iconst 1, 1) := by decide +kernel
theorem d_Mo_slab_81 : decode b_Mo_slab 81 = .ok (.iadd, 1) := by decide +kernel
theorem d_Mo_slab_82 : decode b_Mo_slab 82 = .ok (.iaload, 1) := by decide +kernel
theorem d_Mo_slab_83 : decode b_Mo_slab 83 = .ok (.iastore, 1) := by decide +kernel
theorem d_Mo_slab_84 : decode b_Mo_slab 84 = .ok (.iconst 0, 1) := by decide +kernel
theorem d_Mo_slab_85 : decode b_Mo_slab 85 = .ok (.istore 6, 2) := by decide +kernel
theorem d_Mo_slab_87 : decode b_Mo_slab 87 = .ok (.iload 6, 2) := by decide +kernel
theorem d_Mo_slab_89 : decode b_Mo_slab 89 = .ok (.aload_n 0, 1) := by decide +kernel
theorem d_Mo_slab_90 : decode b_Mo_slab 90 = .ok (.getfield 73, 3) := by decide +kernel
theorem d_Mo_slab_93 : decode b_Mo_slab 93 = .ok (.if_icmp .ge 119, 3) := by decide +kernel
theorem d_Mo_slab_96 : decode b_Mo_slab 96 = .ok (.aload_n 0, 1) := by decide +kernel
theorem d_Mo_slab_97 : decode b_Mo_slab 97 = .ok (.iload 6, 2) := by decide +kernel
theorem d_Mo_slab_99 : decode b_Mo_slab 99 = .ok (.iload_n 1, 1) := by decide +kernel
theorem d_Mo_slab_100 : decode b_Mo_slab 100 = .ok (.iload_n 2, 1) := by decide +kernel
theorem d_Mo_slab_101 : decode b_Mo_slab 101 = .ok (.iload_n 3, 1) := by decide +kernel
theorem d_Mo_slab_102 : decode b_Mo_slab 102 = .ok (.iload 4, 2) := by decide +kernel
theorem d_Mo_slab_104 : decode b_Mo_slab 104 = .ok (.invokevirtual 105, 3) := by decide +kernel
theorem d_Mo_slab_107 : decode b_Mo_slab 107 = .ok (.ifCond .eq 99, 3) := by decide +kernel
theorem d_Mo_slab_110 : decode b_Mo_slab 110 = .ok (.aload_n 0, 1) := by decide +kernel
theorem d_Mo_slab_111 : decode b_Mo_slab 111 = .ok (.iload 6, 2) := by decide +kernel
theorem d_Mo_slab_113 : decode b_Mo_slab 113 = .ok (.iload_n 1, 1) := by decide +kernel
theorem d_Mo_slab_114 : decode b_Mo_slab 114 = .ok (.iload_n 2, 1) := by decide +kernel
theorem d_Mo_slab_115 : decode b_Mo_slab 115 = .ok (.iload_n 3, 1) := by decide +kernel
theorem d_Mo_slab_116 : decode b_Mo_slab 116 = .ok (.iload 4, 2) := by decide +kernel
theorem d_Mo_slab_118 : decode b_Mo_slab 118 = .ok (.invokevirtual 109, 3) := by decide +kernel
theorem d_Mo_slab_121 : decode b_Mo_slab 121 = .ok (.istore 7, 2) := by decide +kernel
theorem d_Mo_slab_123 : decode b_Mo_slab 123 = .ok (.aload_n 0, 1) := by decide +kernel
theorem d_Mo_slab_124 : decode b_Mo_slab 124 = .ok (.iload 6, 2) := by decide +kernel
theorem d_Mo_slab_126 : decode b_Mo_slab 126 = .ok (.iload_n 2, 1) := by decide +kernel
theorem d_Mo_slab_127 : decode b_Mo_slab 127 = .ok (.iload_n 3, 1) := by decide +kernel
theorem d_Mo_slab_128 : decode b_Mo_slab 128 = .ok (.iload 4, 2) := by decide +kernel
theorem d_Mo_slab_130 : decode b_Mo_slab 130 = .ok (.invokevirtual 113, 3) := by decide +kernel
theorem d_Mo_slab_133 : decode b_Mo_slab 133 = .ok (.istore 8, 2) := by decide +kernel
theorem d_Mo_slab_135 : decode b_Mo_slab 135 = .ok (.iload 7, 2) := by decide +kernel
theorem d_Mo_slab_137 : decode b_Mo_slab 137 = .ok (.iload 8, 2) := by decide +kernel
theorem d_Mo_slab_139 : decode b_Mo_slab 139 = .ok (.aload_n 0, 1) := by decide +kernel
theorem d_Mo_slab_140 : decode b_Mo_slab 140 = .ok (.getfield 35, 3) := by decide +kernel
theorem d_Mo_slab_143 : decode b_Mo_slab 143 = .ok (.iload 5, 2) := by decide +kernel
theorem d_Mo_slab_145 : decode b_Mo_slab 145 = .ok (.iaload, 1) := by decide +kernel
theorem d_Mo_slab_146 : decode b_Mo_slab 146 = .ok (.aload_n 0, 1) := by decide +kernel
theorem d_Mo_slab_147 : decode b_Mo_slab 147 = .ok (.getfield 38, 3) := by decide +kernel
theorem d_Mo_slab_150 : decode b_Mo_slab 150 = .ok (.iload 5, 2) := by decide +kernel
theorem d_Mo_slab_152 : decode b_Mo_slab 152 = .ok (.iaload, 1) := by decide +kernel
theorem d_Mo_slab_153 : decode b_Mo_slab 153 = .ok (.invokestatic 116, 3) := by decide +kernel
theorem d_Mo_slab_156 : decode b_Mo_slab 156 = .ok (.istore 9, 2) := by decide +kernel
theorem d_Mo_slab_158 : decode b_Mo_slab 158 = .ok (.aload_n 0, 1) := by decide +kernel
theorem d_Mo_slab_159 : decode b_Mo_slab 159 = .ok (.getfield 35, 3) := by decide +kernel
theorem d_Mo_slab_162 : decode b_Mo_slab 162 = .ok (.iload 5, 2) := by decide +kernel
theorem d_Mo_slab_164 : decode b_Mo_slab 164 = .ok (.iload 9, 2) := by decide +kernel
theorem d_Mo_slab_166 : decode b_Mo_slab 166 = .ok (.ifCond .eq 8, 3) := by decide +kernel
theorem d_Mo_slab_169 : decode b_Mo_slab 169 = .ok (.iload 7, 2) := by decide +kernel
theorem d_Mo_slab_171 : decode b_Mo_slab 171 = .ok (.goto 10, 3) := by decide +kernel
theorem d_Mo_slab_174 : decode b_Mo_slab 174 = .ok (.aload_n 0, 1) := by decide +kernel
theorem d_Mo_slab_175 : decode b_Mo_slab 175 = .ok (.getfield 35, 3) := by decide +kernel
theorem d_Mo_slab_178 : decode b_Mo_slab 178 = .ok (.iload 5, 2) := by decide +kernel
theorem d_Mo_slab_180 : decode b_Mo_slab 180 = .ok (.iaload, 1) := by decide +kernel
theorem d_Mo_slab_181 : decode b_Mo_slab 181 = .ok (.iastore, 1) := by decide +kernel
theorem d_Mo_slab_182 : decode b_Mo_slab 182 = .ok (.aload_n 0, 1) := by decide +kernel
theorem d_Mo_slab_183 : decode b_Mo_slab 183 = .ok (.getfield 38, 3) := by decide +kernel
theorem d_Mo_slab_186 : decode b_Mo_slab 186 = .ok (.iload 5, 2) := by decide +kernel
theorem d_Mo_slab_188 : decode b_Mo_slab 188 = .ok (.iload 9, 2) := by decide +kernel
theorem d_Mo_slab_190 : decode b_Mo_slab 190 = .ok (.ifCond .eq 8, 3) := by decide +kernel
theorem d_Mo_slab_193 : decode b_Mo_slab 193 = .ok (.iload 8, 2) := by decide +kernel
theorem d_Mo_slab_195 : decode b_Mo_slab 195 = .ok (.goto 10, 3) := by decide +kernel
theorem d_Mo_slab_198 : decode b_Mo_slab 198 = .ok (.aload_n 0, 1) := by decide +kernel
theorem d_Mo_slab_199 : decode b_Mo_slab 199 = .ok (.getfield 38, 3) := by decide +kernel
theorem d_Mo_slab_202 : decode b_Mo_slab 202 = .ok (.iload 5, 2) := by decide +kernel
theorem d_Mo_slab_204 : decode b_Mo_slab 204 = .ok (.iaload, 1) := by decide +kernel
theorem d_Mo_slab_205 : decode b_Mo_slab 205 = .ok (.iastore, 1) := by decide +kernel
theorem d_Mo_slab_206 : decode b_Mo_slab 206 = .ok (.iinc 6 1, 3) := by decide +kernel
theorem d_Mo_slab_209 : decode b_Mo_slab 209 = .ok (.goto (-122), 3) := by decide +kernel
theorem d_Mo_slab_212 : decode b_Mo_slab 212 = .ok (.iinc 4 (-1), 3) := by decide +kernel
theorem d_Mo_slab_215 : decode b_Mo_slab 215 = .ok (.goto (-177), 3) := by decide +kernel
theorem d_Mo_slab_218 : decode b_Mo_slab 218 = .ok (.return_, 1) := by decide +kernel
/-- a rank as a sum of worth and a number of boards: of a slab from a column on -/
def isP (z : Int) (w n d : Nat) : Prop := z = 1000 * (w : Int) - (n : Int) ∧ n ≤ d ∧ w ≤ 100001 * d ∧ (n = 0 ↔ w = 0)
theorem isP_mono {z : Int} {w n d d' : Nat} (h : isP z w n d) (hd : d ≤ d') : isP z w n d' := by
  obtain ⟨h1, h2, h3, h4⟩ := h
  exact ⟨h1, by omega, by omega, h4⟩
theorem colP_no {RC : Nat → Int} {side kf col thick : Nat} {th wi : Nat → Nat} {ok : Nat → Prop} {va : Nat → Int} {i : Nat} (h : ¬ (th i = thick ∧ ok i)) : colFold RC side kf col thick th wi ok va (i + 1) = colFold RC side kf col thick th wi ok va i := by
  show colStep RC side kf col thick th wi ok va i _ = _
  unfold colStep
  exact cif_f (fun q => h q.1)
theorem colP_up {RC : Nat → Int} {side kf col thick : Nat} {th wi : Nat → Nat} {ok : Nat → Prop} {va : Nat → Int} {i W N w n d : Nat} (hd : d ≤ 20) (h : th i = thick ∧ ok i) (hb : isP (colFold RC side kf col thick th wi ok va i).1 W N d) (hr : rkC RC side kf col wi va i = 1000 * (w : Int) - (n : Int)) (h1 : 1 ≤ n) (h2 : n ≤ d) (h3 : w ≤ 100001 * d) :
    ((W < w ∨ (w = W ∧ n < N)) → isP (colFold RC side kf col thick th wi ok va (i + 1)).1 w n d) ∧ (¬ (W < w ∨ (w = W ∧ n < N)) → isP (colFold RC side kf col thick th wi ok va (i + 1)).1 W N d) := by
  obtain ⟨b1, b2, b3, b4⟩ := hb
  have e : colFold RC side kf col thick th wi ok va (i + 1) = colStep RC side kf col thick th wi ok va i (colFold RC side kf col thick th wi ok va i) := rfl
  rw [e]
  unfold colStep
  by_cases c : (th i = thick ∧ ok i) ∧ ((colFold RC side kf col thick th wi ok va i).1 < rkC RC side kf col wi va i ∨ (rkC RC side kf col wi va i = (colFold RC side kf col thick th wi ok va i).1 ∧ (colFold RC side kf col thick th wi ok va i).2 = -1))
  · rw [cif_t c]
    obtain ⟨-, c⟩ := c
    refine ⟨fun q => ⟨hr, h2, h3, ?_⟩, fun q => ⟨?_, b2, b3, b4⟩⟩
    · omega
    · show rkC RC side kf col wi va i = _
      omega
  · rw [cif_f c]
    refine ⟨fun q => absurd ⟨h, Or.inl ?_⟩ c, fun q => ⟨b1, b2, b3, b4⟩⟩
    omega
set_option maxHeartbeats 4000000 in
set_option maxRecDepth 100000 in
theorem m_slab (l : Launch) (D : va_G) (cI cJ cZ : ClassId) (sz : Nat) (mo : Nat) (thr : Nat) (side : Nat) (kf : Nat) (m1 : Nat) (m2 : Nat) (cn : Nat) (m3 : Nat) (m4 : Nat) (m5 : Nat) (m6 : Nat) (m7 : Nat) (m8 : Nat) (m9 : Nat) (m10 : Nat) (m11 : Nat) (m12 : Nat) (sw : Prop) (tn : Nat) (tot : Nat) (psl : Nat) (pc_ : Nat) (m13 : Nat) (th : Nat → Nat) (wi : Nat → Nat) (wo : Nat → Nat) (wn : Nat → Nat) (F3 : Nat → Nat) (F4 : Nat → Nat) (SW : Nat → Nat) (SN : Nat → Nat) (fb : Nat → Nat → Nat) (fl : Nat → Nat → Nat) (tq : Nat) (row : Nat) (thick : Nat) (s2 : side ≤ 20) (k4 : kf ≤ 4) (n8 : cn ≤ 8) (tq1 : tq ≤ 1) (rb : row ≤ 20) (tb : thick ≤ 20) (ht : ∀ k, k < 8 → th k ≤ 20) (hw : ∀ k, k < 8 → wi k ≤ 20) (hw1 : ∀ k, k < cn → 1 ≤ wi k) (ho : ∀ k, k < 8 → wo k ≤ 100000) (hn : ∀ k, k < 8 → wn k ≤ 400) (hF : ∀ X Y, X ≤ side → Y ≤ side → F3 (21 * Y + X) = psm fb X Y) (hG : ∀ X Y, X ≤ side → Y ≤ side → F4 (21 * Y + X) = psm fl X Y) (hfb : ∀ i j, i < side → j < side → fb i j ≤ 10000) (hfl : ∀ i j, i < side → j < side → fl i j ≤ 10000) : Met l y_Mo_slab w_Mo_slab ({ frames := 3, cells := 0, slots := 0, locals := 78 }) (va_Pc [.ref mo, .int (nI tq), .int (nI row), .int (nI thick)] (kB D vwCl (tyL cI cJ cZ) sz [(mo, .inr (6, [.int (nI thr), .int (nI side), .int (nI kf), .ref m1, .ref m2, .int (nI cn), .ref m3, .ref m4, .ref m5, .ref m6, .ref m7, .ref m8, .ref m9, .ref m10, .ref m11, .ref m12, .int (pI sw), .int (nI tn), .int (nI tot), .int (nI psl), .int (nI pc_), .ref m13])), (m3, .inl (cI, 8, .inl (fun j => nI (th j)))), (m4, .inl (cI, 8, .inl (fun j => nI (wi j)))), (m5, .inl (cI, 8, .inl (fun j => nI (wo j)))), (m6, .inl (cI, 8, .inl (fun j => nI (wn j)))), (m7, .inl (cI, 441, .inl (fun j => nI (F3 j)))), (m8, .inl (cI, 441, .inl (fun j => nI (F4 j)))), (m9, .inl (cI, 9702, .inl (fun j => nI (SW j)))), (m10, .inl (cI, 9702, .inl (fun j => nI (SN j))))])) (va_Qv (fun (u : (Nat → Nat) × (Nat → Nat)) => (∀ j, j ≤ side → isP ((slab0 side kf thick th wi (okC side fb th wi wn tq row) (vaC side fl th wi wo tq row) cn).1 j) (u.1 ((21 * row + thick) * 22 + j)) (u.2 ((21 * row + thick) * 22 + j)) (side - j)) ∧ ∀ q, (q < (21 * row + thick) * 22 ∨ (21 * row + thick) * 22 + side < q) → u.1 q = SW q ∧ u.2 q = SN q) (fun (u : (Nat → Nat) × (Nat → Nat)) t => kE D vwCl (va_A [(mo, .inr (6, [.int (nI thr), .int (nI side), .int (nI kf), .ref m1, .ref m2, .int (nI cn), .ref m3, .ref m4, .ref m5, .ref m6, .ref m7, .ref m8, .ref m9, .ref m10, .ref m11, .ref m12, .int (pI sw), .int (nI tn), .int (nI tot), .int (nI psl), .int (nI pc_), .ref m13])), (m3, .inl (cI, 8, .inl (fun j => nI (th j)))), (m4, .inl (cI, 8, .inl (fun j => nI (wi j)))), (m5, .inl (cI, 8, .inl (fun j => nI (wo j)))), (m6, .inl (cI, 8, .inl (fun j => nI (wn j)))), (m7, .inl (cI, 441, .inl (fun j => nI (F3 j)))), (m8, .inl (cI, 441, .inl (fun j => nI (F4 j)))), (m9, .inl (cI, 9702, .inl (fun j => nI (SW j)))), (m10, .inl (cI, 9702, .inl (fun j => nI (SN j))))] sz) [(mo, .inr (6, [.int (nI thr), .int (nI side), .int (nI kf), .ref m1, .ref m2, .int (nI cn), .ref m3, .ref m4, .ref m5, .ref m6, .ref m7, .ref m8, .ref m9, .ref m10, .ref m11, .ref m12, .int (pI sw), .int (nI tn), .int (nI tot), .int (nI psl), .int (nI pc_), .ref m13])), (m3, .inl (cI, 8, .inl (fun j => nI (th j)))), (m4, .inl (cI, 8, .inl (fun j => nI (wi j)))), (m5, .inl (cI, 8, .inl (fun j => nI (wo j)))), (m6, .inl (cI, 8, .inl (fun j => nI (wn j)))), (m7, .inl (cI, 441, .inl (fun j => nI (F3 j)))), (m8, .inl (cI, 441, .inl (fun j => nI (F4 j)))), (m9, .inl (cI, 9702, .inl (fun j => nI (u.1 j)))), (m10, .inl (cI, 9702, .inl (fun j => nI (u.2 j))))] t) (va_A [(mo, .inr (6, [.int (nI thr), .int (nI side), .int (nI kf), .ref m1, .ref m2, .int (nI cn), .ref m3, .ref m4, .ref m5, .ref m6, .ref m7, .ref m8, .ref m9, .ref m10, .ref m11, .ref m12, .int (pI sw), .int (nI tn), .int (nI tot), .int (nI psl), .int (nI pc_), .ref m13])), (m3, .inl (cI, 8, .inl (fun j => nI (th j)))), (m4, .inl (cI, 8, .inl (fun j => nI (wi j)))), (m5, .inl (cI, 8, .inl (fun j => nI (wo j)))), (m6, .inl (cI, 8, .inl (fun j => nI (wn j)))), (m7, .inl (cI, 441, .inl (fun j => nI (F3 j)))), (m8, .inl (cI, 441, .inl (fun j => nI (F4 j)))), (m9, .inl (cI, 9702, .inl (fun j => nI (SW j)))), (m10, .inl (cI, 9702, .inl (fun j => nI (SN j))))] sz)) 0 0 (va_A [(mo, .inr (6, [.int (nI thr), .int (nI side), .int (nI kf), .ref m1, .ref m2, .int (nI cn), .ref m3, .ref m4, .ref m5, .ref m6, .ref m7, .ref m8, .ref m9, .ref m10, .ref m11, .ref m12, .int (pI sw), .int (nI tn), .int (nI tot), .int (nI psl), .int (nI pc_), .ref m13])), (m3, .inl (cI, 8, .inl (fun j => nI (th j)))), (m4, .inl (cI, 8, .inl (fun j => nI (wi j)))), (m5, .inl (cI, 8, .inl (fun j => nI (wo j)))), (m6, .inl (cI, 8, .inl (fun j => nI (wn j)))), (m7, .inl (cI, 441, .inl (fun j => nI (F3 j)))), (m8, .inl (cI, 441, .inl (fun j => nI (F4 j)))), (m9, .inl (cI, 9702, .inl (fun j => nI (SW j)))), (m10, .inl (cI, 9702, .inl (fun j => nI (SN j))))] sz) := by
  refine Met.ofW (cc := b_Mo_slab) (maxL := 10) (ret := none) (by decide) rfl ?_
  intro p e s m args below meth c s₁ B hml hv
  obtain ⟨rfl, hsz, hP, hK, hD0, hZ⟩ := hv
  have hx := B.exec
  have hb := B.bytes
  have hr := B.returns
  have hts := atoms_spec (ws := w_Mo_slab) B.pre
  have hown : s.vm.findClass R_Mo = some m.cls := findClass_of_methodNamed B.named
  have hlocks := B.notSynchronized
  subst hsz
  have hD := hD0.self (sz := s.heap.size)
  generalize hAe : va_A [(mo, .inr (6, [.int (nI thr), .int (nI side), .int (nI kf), .ref m1, .ref m2, .int (nI cn), .ref m3, .ref m4, .ref m5, .ref m6, .ref m7, .ref m8, .ref m9, .ref m10, .ref m11, .ref m12, .int (pI sw), .int (nI tn), .int (nI tot), .int (nI psl), .int (nI pc_), .ref m13])), (m3, .inl (cI, 8, .inl (fun j => nI (th j)))), (m4, .inl (cI, 8, .inl (fun j => nI (wi j)))), (m5, .inl (cI, 8, .inl (fun j => nI (wo j)))), (m6, .inl (cI, 8, .inl (fun j => nI (wn j)))), (m7, .inl (cI, 441, .inl (fun j => nI (F3 j)))), (m8, .inl (cI, 441, .inl (fun j => nI (F4 j)))), (m9, .inl (cI, 9702, .inl (fun j => nI (SW j)))), (m10, .inl (cI, 9702, .inl (fun j => nI (SN j))))] s.heap.size = A at hD ⊢
  have hA : ∀ q : Nat, s.heap.size ≤ q → A q := fun q h => by rw [← hAe]; exact Or.inr h
  have hS : va_S A s.heap s.heap [] := va_S.rf
  have hP : va_P D vwCl [(mo, .inr (6, [.int (nI thr), .int (nI side), .int (nI kf), .ref m1, .ref m2, .int (nI cn), .ref m3, .ref m4, .ref m5, .ref m6, .ref m7, .ref m8, .ref m9, .ref m10, .ref m11, .ref m12, .int (pI sw), .int (nI tn), .int (nI tot), .int (nI psl), .int (nI pc_), .ref m13])), (m3, .inl (cI, 8, .inl (fun j => nI (th j)))), (m4, .inl (cI, 8, .inl (fun j => nI (wi j)))), (m5, .inl (cI, 8, .inl (fun j => nI (wo j)))), (m6, .inl (cI, 8, .inl (fun j => nI (wn j)))), (m7, .inl (cI, 441, .inl (fun j => nI (F3 j)))), (m8, .inl (cI, 441, .inl (fun j => nI (F4 j)))), (m9, .inl (cI, 9702, .inl (fun j => nI (SW j)))), (m10, .inl (cI, 9702, .inl (fun j => nI (SN j))))] s.heap := hP
  have hl := lv_entry ([.ref mo, .int (nI tq), .int (nI row), .int (nI thick)]) (n := 10) (Nat.le_of_ble_eq_true rfl)
  rw [lg_entry_eq]
  generalize (lg_sl ([.ref mo, .int (nI tq), .int (nI row), .int (nI thick)]) ++ List.replicate (10 - (lg_sl ([.ref mo, .int (nI tq), .int (nI row), .int (nI thick)])).length) Slot.unset).toArray = ls at hl ⊢
  have hl : lv_has ls 10 [(0, .ref mo), (1, .int (nI tq)), (2, .int (nI row)), (3, .int (nI thick))] := hl
  refine lv_aload_n hx hb d_Mo_slab_0 rfl (lv_at hl 0 rfl) ?_
  refine va_get (D := D) (ci := 6) (v := .ref m9) (C := R_Mo) (T := T_Mo) (N := 22) hx hb hts (fun w h => List.mem_cons_of_mem _ (iw_Mo w h)) hown hK hP 0 rfl rfl 12 (by decide) (hts _ (List.mem_cons_of_mem _ k_557)) (fun _ h9 => h9) rfl d_Mo_slab_1 ?_
  refine lv_iload_n hx hb d_Mo_slab_4 rfl (lv_at hl 2 rfl) ?_
  refine lv_iload_n hx hb d_Mo_slab_5 rfl (lv_at hl 3 rfl) ?_
  refine lv_aload_n hx hb d_Mo_slab_6 rfl (lv_at hl 0 rfl) ?_
  refine va_get (D := D) (ci := 6) (v := .int (nI side)) (C := R_Mo) (T := T_Mo) (N := 22) hx hb hts (fun w h => List.mem_cons_of_mem _ (iw_Mo w h)) hown hK hP 0 rfl rfl 1 (by decide) (hts _ (List.mem_cons_of_mem _ k_546)) (fun _ h9 => h9) rfl d_Mo_slab_7 ?_
  refine kcallR (r := .int (nI ((21 * row + thick) * 22 + side))) (va_runS (As := [.int (nI row), .int (nI thick), .int (nI side)]) (rest := [.ref m9]) ⟨hx, hb, hml, hown, hts⟩ (m_cell2 l D cI cJ cZ row thick side ) ⟨callB_of 3 hts (gd kc_Mo_cell2) rfl rfl rfl (hts _ (List.mem_cons_of_mem _ k_8)) (hts _ (List.mem_cons_of_mem _ k_664)) (by decide +kernel) ⟨Nat.le_of_ble_eq_true rfl, Nat.le_of_ble_eq_true rfl⟩, hts _ (List.mem_cons_of_mem _ k_665)⟩ ⟨kR_blind, kR_at hP hK hZ [] rfl⟩ rfl rfl hl.1 rfl (lv_room (Nat.le_of_ble_eq_true rfl)) d_Mo_slab_10 ⟨Nat.zero_le _, Nat.zero_le _⟩) ?_
  refine lv_iconst (v := nI 0) hx hb d_Mo_slab_13 (by decide +kernel) ?_
  refine ka_iastN (F := SW) (v := 0) (k := ((21 * row + thick) * 22 + side)) (n := 9702) (nI_t (by omega)) (by omega) hx hb hK hP hD hS 7 0 rfl rfl d_Mo_slab_14 (fun H locs hP hD hS => ?_)
  have hP : va_P D vwCl [(mo, .inr (6, [.int (nI thr), .int (nI side), .int (nI kf), .ref m1, .ref m2, .int (nI cn), .ref m3, .ref m4, .ref m5, .ref m6, .ref m7, .ref m8, .ref m9, .ref m10, .ref m11, .ref m12, .int (pI sw), .int (nI tn), .int (nI tot), .int (nI psl), .int (nI pc_), .ref m13])), (m3, .inl (cI, 8, .inl (fun j => nI (th j)))), (m4, .inl (cI, 8, .inl (fun j => nI (wi j)))), (m5, .inl (cI, 8, .inl (fun j => nI (wo j)))), (m6, .inl (cI, 8, .inl (fun j => nI (wn j)))), (m7, .inl (cI, 441, .inl (fun j => nI (F3 j)))), (m8, .inl (cI, 441, .inl (fun j => nI (F4 j)))), (m9, .inl (cI, 9702, .inl (fun j => nI ((va_up SW ((21 * row + thick) * 22 + side) 0) j)))), (m10, .inl (cI, 9702, .inl (fun j => nI (SN j))))] H := hP
  have hD : va_D A [(mo, .inr (6, [.int (nI thr), .int (nI side), .int (nI kf), .ref m1, .ref m2, .int (nI cn), .ref m3, .ref m4, .ref m5, .ref m6, .ref m7, .ref m8, .ref m9, .ref m10, .ref m11, .ref m12, .int (pI sw), .int (nI tn), .int (nI tot), .int (nI psl), .int (nI pc_), .ref m13])), (m3, .inl (cI, 8, .inl (fun j => nI (th j)))), (m4, .inl (cI, 8, .inl (fun j => nI (wi j)))), (m5, .inl (cI, 8, .inl (fun j => nI (wo j)))), (m6, .inl (cI, 8, .inl (fun j => nI (wn j)))), (m7, .inl (cI, 441, .inl (fun j => nI (F3 j)))), (m8, .inl (cI, 441, .inl (fun j => nI (F4 j)))), (m9, .inl (cI, 9702, .inl (fun j => nI ((va_up SW ((21 * row + thick) * 22 + side) 0) j)))), (m10, .inl (cI, 9702, .inl (fun j => nI (SN j))))] := hD
  refine lv_aload_n hx hb d_Mo_slab_15 rfl (lv_at hl 0 rfl) ?_
  refine va_get (D := D) (ci := 6) (v := .ref m10) (C := R_Mo) (T := T_Mo) (N := 22) hx hb hts (fun w h => List.mem_cons_of_mem _ (iw_Mo w h)) hown hK hP 0 rfl rfl 13 (by decide) (hts _ (List.mem_cons_of_mem _ k_558)) (fun _ h9 => h9) rfl d_Mo_slab_16 ?_
  refine lv_iload_n hx hb d_Mo_slab_19 rfl (lv_at hl 2 rfl) ?_
  refine lv_iload_n hx hb d_Mo_slab_20 rfl (lv_at hl 3 rfl) ?_
  refine lv_aload_n hx hb d_Mo_slab_21 rfl (lv_at hl 0 rfl) ?_
  refine va_get (D := D) (ci := 6) (v := .int (nI side)) (C := R_Mo) (T := T_Mo) (N := 22) hx hb hts (fun w h => List.mem_cons_of_mem _ (iw_Mo w h)) hown hK hP 0 rfl rfl 1 (by decide) (hts _ (List.mem_cons_of_mem _ k_546)) (fun _ h9 => h9) rfl d_Mo_slab_22 ?_
  refine kcallR (r := .int (nI ((21 * row + thick) * 22 + side))) (va_runS (As := [.int (nI row), .int (nI thick), .int (nI side)]) (rest := [.ref m10]) ⟨hx, hb, hml, hown, hts⟩ (m_cell2 l D cI cJ cZ row thick side ) ⟨callB_of 3 hts (gd kc_Mo_cell2) rfl rfl rfl (hts _ (List.mem_cons_of_mem _ k_8)) (hts _ (List.mem_cons_of_mem _ k_664)) (by decide +kernel) ⟨Nat.le_of_ble_eq_true rfl, Nat.le_of_ble_eq_true rfl⟩, hts _ (List.mem_cons_of_mem _ k_665)⟩ ⟨kR_blind, kR_at hP hK hZ [] rfl⟩ rfl rfl hl.1 rfl (lv_room (Nat.le_of_ble_eq_true rfl)) d_Mo_slab_25 ⟨Nat.zero_le _, Nat.zero_le _⟩) ?_
  refine lv_iconst (v := nI 0) hx hb d_Mo_slab_28 (by decide +kernel) ?_
  refine ka_iastN (F := SN) (v := 0) (k := ((21 * row + thick) * 22 + side)) (n := 9702) (nI_t (by omega)) (by omega) hx hb hK hP hD hS 8 0 rfl rfl d_Mo_slab_29 (fun H locs hP hD hS => ?_)
  have hP : va_P D vwCl [(mo, .inr (6, [.int (nI thr), .int (nI side), .int (nI kf), .ref m1, .ref m2, .int (nI cn), .ref m3, .ref m4, .ref m5, .ref m6, .ref m7, .ref m8, .ref m9, .ref m10, .ref m11, .ref m12, .int (pI sw), .int (nI tn), .int (nI tot), .int (nI psl), .int (nI pc_), .ref m13])), (m3, .inl (cI, 8, .inl (fun j => nI (th j)))), (m4, .inl (cI, 8, .inl (fun j => nI (wi j)))), (m5, .inl (cI, 8, .inl (fun j => nI (wo j)))), (m6, .inl (cI, 8, .inl (fun j => nI (wn j)))), (m7, .inl (cI, 441, .inl (fun j => nI (F3 j)))), (m8, .inl (cI, 441, .inl (fun j => nI (F4 j)))), (m9, .inl (cI, 9702, .inl (fun j => nI ((va_up SW ((21 * row + thick) * 22 + side) 0) j)))), (m10, .inl (cI, 9702, .inl (fun j => nI ((va_up SN ((21 * row + thick) * 22 + side) 0) j))))] H := hP
  have hD : va_D A [(mo, .inr (6, [.int (nI thr), .int (nI side), .int (nI kf), .ref m1, .ref m2, .int (nI cn), .ref m3, .ref m4, .ref m5, .ref m6, .ref m7, .ref m8, .ref m9, .ref m10, .ref m11, .ref m12, .int (pI sw), .int (nI tn), .int (nI tot), .int (nI psl), .int (nI pc_), .ref m13])), (m3, .inl (cI, 8, .inl (fun j => nI (th j)))), (m4, .inl (cI, 8, .inl (fun j => nI (wi j)))), (m5, .inl (cI, 8, .inl (fun j => nI (wo j)))), (m6, .inl (cI, 8, .inl (fun j => nI (wn j)))), (m7, .inl (cI, 441, .inl (fun j => nI (F3 j)))), (m8, .inl (cI, 441, .inl (fun j => nI (F4 j)))), (m9, .inl (cI, 9702, .inl (fun j => nI ((va_up SW ((21 * row + thick) * 22 + side) 0) j)))), (m10, .inl (cI, 9702, .inl (fun j => nI ((va_up SN ((21 * row + thick) * 22 + side) 0) j))))] := hD
  refine lv_aload_n hx hb d_Mo_slab_30 rfl (lv_at hl 0 rfl) ?_
  refine va_get (D := D) (ci := 6) (v := .int (nI side)) (C := R_Mo) (T := T_Mo) (N := 22) hx hb hts (fun w h => List.mem_cons_of_mem _ (iw_Mo w h)) hown hK hP 0 rfl rfl 1 (by decide) (hts _ (List.mem_cons_of_mem _ k_546)) (fun _ h9 => h9) rfl d_Mo_slab_31 ?_
  refine lv_iconst (v := nI 1) hx hb d_Mo_slab_34 (by decide +kernel) ?_
  refine lv_isub hx hb d_Mo_slab_35 ?_
  refine ka_i (y := iI (((side : Nat) : Int) - ((1 : Nat) : Int))) (by rw [iI_of side, iI_of 1]; exact iI_sub _ _) ?_
  refine lv_istore (lv' := [(4, .int (iI (((side : Nat) : Int) - ((1 : Nat) : Int)))), (0, .ref mo), (1, .int (nI tq)), (2, .int (nI row)), (3, .int (nI thick))]) hx hb d_Mo_slab_36 hl (by decide) rfl (fun ls hl => ?_)
  have lp : ∀ (n : Nat) (d : Nat) (z : Int) (SA : Nat → Nat) (SB : Nat → Nat), (d + n = side) → (z = (side : Int) - 1 - (d : Int)) → (∀ j, side - d ≤ j → j ≤ side → isP ((slabT side kf thick th wi (okC side fb th wi wn tq row) (vaC side fl th wi wo tq row) cn (fun _ => 0) (fun _ => 0) d).1 j) (SA ((21 * row + thick) * 22 + j)) (SB ((21 * row + thick) * 22 + j)) (side - j)) → (∀ q, (q < (21 * row + thick) * 22 ∨ (21 * row + thick) * 22 + side < q) → SA q = SW q ∧ SB q = SN q) → ∀ (H : Heap) (locs : List Loc), va_P D vwCl [(mo, .inr (6, [.int (nI thr), .int (nI side), .int (nI kf), .ref m1, .ref m2, .int (nI cn), .ref m3, .ref m4, .ref m5, .ref m6, .ref m7, .ref m8, .ref m9, .ref m10, .ref m11, .ref m12, .int (pI sw), .int (nI tn), .int (nI tot), .int (nI psl), .int (nI pc_), .ref m13])), (m3, .inl (cI, 8, .inl (fun j => nI (th j)))), (m4, .inl (cI, 8, .inl (fun j => nI (wi j)))), (m5, .inl (cI, 8, .inl (fun j => nI (wo j)))), (m6, .inl (cI, 8, .inl (fun j => nI (wn j)))), (m7, .inl (cI, 441, .inl (fun j => nI (F3 j)))), (m8, .inl (cI, 441, .inl (fun j => nI (F4 j)))), (m9, .inl (cI, 9702, .inl (fun j => nI (SA j)))), (m10, .inl (cI, 9702, .inl (fun j => nI (SB j))))] H → va_D A [(mo, .inr (6, [.int (nI thr), .int (nI side), .int (nI kf), .ref m1, .ref m2, .int (nI cn), .ref m3, .ref m4, .ref m5, .ref m6, .ref m7, .ref m8, .ref m9, .ref m10, .ref m11, .ref m12, .int (pI sw), .int (nI tn), .int (nI tot), .int (nI psl), .int (nI pc_), .ref m13])), (m3, .inl (cI, 8, .inl (fun j => nI (th j)))), (m4, .inl (cI, 8, .inl (fun j => nI (wi j)))), (m5, .inl (cI, 8, .inl (fun j => nI (wo j)))), (m6, .inl (cI, 8, .inl (fun j => nI (wn j)))), (m7, .inl (cI, 441, .inl (fun j => nI (F3 j)))), (m8, .inl (cI, 441, .inl (fun j => nI (F4 j)))), (m9, .inl (cI, 9702, .inl (fun j => nI (SA j)))), (m10, .inl (cI, 9702, .inl (fun j => nI (SB j))))] → va_S A s.heap H locs → ∀ ls : Array Slot, lv_has ls 10 [(4, .int (iI z)), (0, .ref mo), (1, .int (nI tq)), (2, .int (nI row)), (3, .int (nI thick))] → W p l e (headSpec w_Mo_slab ({ frames := 3, cells := 0, slots := 0, locals := 78 })).room s m ([.ref mo, .int (nI tq), .int (nI row), .int (nI thick)]).toArray below meth c H locs 0 0 (MQ below (va_Qv (fun (u : (Nat → Nat) × (Nat → Nat)) => (∀ j, j ≤ side → isP ((slab0 side kf thick th wi (okC side fb th wi wn tq row) (vaC side fl th wi wo tq row) cn).1 j) (u.1 ((21 * row + thick) * 22 + j)) (u.2 ((21 * row + thick) * 22 + j)) (side - j)) ∧ ∀ q, (q < (21 * row + thick) * 22 ∨ (21 * row + thick) * 22 + side < q) → u.1 q = SW q ∧ u.2 q = SN q) (fun (u : (Nat → Nat) × (Nat → Nat)) t => kE D vwCl A [(mo, .inr (6, [.int (nI thr), .int (nI side), .int (nI kf), .ref m1, .ref m2, .int (nI cn), .ref m3, .ref m4, .ref m5, .ref m6, .ref m7, .ref m8, .ref m9, .ref m10, .ref m11, .ref m12, .int (pI sw), .int (nI tn), .int (nI tot), .int (nI psl), .int (nI pc_), .ref m13])), (m3, .inl (cI, 8, .inl (fun j => nI (th j)))), (m4, .inl (cI, 8, .inl (fun j => nI (wi j)))), (m5, .inl (cI, 8, .inl (fun j => nI (wo j)))), (m6, .inl (cI, 8, .inl (fun j => nI (wn j)))), (m7, .inl (cI, 441, .inl (fun j => nI (F3 j)))), (m8, .inl (cI, 441, .inl (fun j => nI (F4 j)))), (m9, .inl (cI, 9702, .inl (fun j => nI (u.1 j)))), (m10, .inl (cI, 9702, .inl (fun j => nI (u.2 j))))] t) A) ([.ref mo, .int (nI tq), .int (nI row), .int (nI thick)]).toArray s 0 0 A) (F0 m 38 ls []) := by
    intro n
    induction n with
    | zero =>
      intro d z SA SB hi ez iv kp H locs hP hD hS ls hl
      refine lv_iload hx hb d_Mo_slab_38 (lv_at hl 0 rfl) ?_
      refine kb_lt (tgt := 218) (iI_t (by omega) (by omega)) hx hb d_Mo_slab_40 (by decide) (fun c_40 => ?_) (fun c_40 => ?_)
      · have ed : side = d := by omega
        subst ed
        exact kretv (u := (SA, SB)) hx hb hr hP hD hS hlocks rfl (⟨fun j hj => iv j (by omega) hj, kp⟩) d_Mo_slab_218
      · exfalso; omega
    | succ n ih =>
      intro d z SA SB hi ez iv kp H locs hP hD hS ls hl
      refine lv_iload hx hb d_Mo_slab_38 (lv_at hl 0 rfl) ?_
      refine kb_lt (tgt := 218) (iI_t (by omega) (by omega)) hx hb d_Mo_slab_40 (by decide) (fun c_40 => ?_) (fun c_40 => ?_)
      · exfalso; omega
      · have ez_4 : iI z = nI (side - 1 - d) := iI_eqn (by omega)
        have hl : lv_has ls 10 [(4, .int (nI (side - 1 - d))), (0, .ref mo), (1, .int (nI tq)), (2, .int (nI row)), (3, .int (nI thick))] := by rw [← ez_4]; exact hl
        refine lv_iload_n hx hb d_Mo_slab_43 rfl (lv_at hl 3 rfl) ?_
        refine lv_iload_n hx hb d_Mo_slab_44 rfl (lv_at hl 4 rfl) ?_
        refine lv_iload hx hb d_Mo_slab_45 (lv_at hl 0 rfl) ?_
        refine kcallR (r := .int (nI ((21 * row + thick) * 22 + (side - 1 - d)))) (va_runS (As := [.int (nI row), .int (nI thick), .int (nI (side - 1 - d))]) (rest := []) ⟨hx, hb, hml, hown, hts⟩ (m_cell2 l D cI cJ cZ row thick (side - 1 - d) ) ⟨callB_of 3 hts (gd kc_Mo_cell2) rfl rfl rfl (hts _ (List.mem_cons_of_mem _ k_8)) (hts _ (List.mem_cons_of_mem _ k_664)) (by decide +kernel) ⟨Nat.le_of_ble_eq_true rfl, Nat.le_of_ble_eq_true rfl⟩, hts _ (List.mem_cons_of_mem _ k_665)⟩ ⟨kR_blind, kR_at hP hK hZ [] rfl⟩ rfl rfl hl.1 rfl (lv_room (Nat.le_of_ble_eq_true rfl)) d_Mo_slab_47 ⟨Nat.zero_le _, Nat.zero_le _⟩) ?_
        refine lv_istore (lv' := [(5, .int (nI ((21 * row + thick) * 22 + (side - 1 - d)))), (4, .int (nI (side - 1 - d))), (0, .ref mo), (1, .int (nI tq)), (2, .int (nI row)), (3, .int (nI thick))]) hx hb d_Mo_slab_50 hl (by decide) rfl (fun ls hl => ?_)
        refine lv_aload_n hx hb d_Mo_slab_52 rfl (lv_at hl 2 rfl) ?_
        refine va_get (D := D) (ci := 6) (v := .ref m9) (C := R_Mo) (T := T_Mo) (N := 22) hx hb hts (fun w h => List.mem_cons_of_mem _ (iw_Mo w h)) hown hK hP 0 rfl rfl 12 (by decide) (hts _ (List.mem_cons_of_mem _ k_557)) (fun _ h9 => h9) rfl d_Mo_slab_53 ?_
        refine lv_iload hx hb d_Mo_slab_56 (lv_at hl 0 rfl) ?_
        refine lv_aload_n hx hb d_Mo_slab_58 rfl (lv_at hl 2 rfl) ?_
        refine va_get (D := D) (ci := 6) (v := .ref m9) (C := R_Mo) (T := T_Mo) (N := 22) hx hb hts (fun w h => List.mem_cons_of_mem _ (iw_Mo w h)) hown hK hP 0 rfl rfl 12 (by decide) (hts _ (List.mem_cons_of_mem _ k_557)) (fun _ h9 => h9) rfl d_Mo_slab_59 ?_
        refine lv_iload hx hb d_Mo_slab_62 (lv_at hl 0 rfl) ?_
        refine lv_iconst (v := nI 1) hx hb d_Mo_slab_64 (by decide +kernel) ?_
        refine lv_iadd hx hb d_Mo_slab_65 ?_
        refine ka_i (y := nI (((21 * row + thick) * 22 + (side - 1 - d)) + 1)) (nI_add _ _) ?_
        refine ka_iald (k := (((21 * row + thick) * 22 + (side - 1 - d)) + 1)) (n := 9702) (f := fun j => nI (SA j)) (nI_t (by omega)) (by omega) hx hb hK hP 7 0 rfl rfl d_Mo_slab_66 ?_
        refine ka_iastN (F := SA) (v := (SA (((21 * row + thick) * 22 + (side - 1 - d)) + 1))) (k := ((21 * row + thick) * 22 + (side - 1 - d))) (n := 9702) (nI_t (by omega)) (by omega) hx hb hK hP hD hS 7 0 rfl rfl d_Mo_slab_67 (fun H locs hP hD hS => ?_)
        have hP : va_P D vwCl [(mo, .inr (6, [.int (nI thr), .int (nI side), .int (nI kf), .ref m1, .ref m2, .int (nI cn), .ref m3, .ref m4, .ref m5, .ref m6, .ref m7, .ref m8, .ref m9, .ref m10, .ref m11, .ref m12, .int (pI sw), .int (nI tn), .int (nI tot), .int (nI psl), .int (nI pc_), .ref m13])), (m3, .inl (cI, 8, .inl (fun j => nI (th j)))), (m4, .inl (cI, 8, .inl (fun j => nI (wi j)))), (m5, .inl (cI, 8, .inl (fun j => nI (wo j)))), (m6, .inl (cI, 8, .inl (fun j => nI (wn j)))), (m7, .inl (cI, 441, .inl (fun j => nI (F3 j)))), (m8, .inl (cI, 441, .inl (fun j => nI (F4 j)))), (m9, .inl (cI, 9702, .inl (fun j => nI ((va_up SA ((21 * row + thick) * 22 + (side - 1 - d)) (SA (((21 * row + thick) * 22 + (side - 1 - d)) + 1))) j)))), (m10, .inl (cI, 9702, .inl (fun j => nI (SB j))))] H := hP
        have hD : va_D A [(mo, .inr (6, [.int (nI thr), .int (nI side), .int (nI kf), .ref m1, .ref m2, .int (nI cn), .ref m3, .ref m4, .ref m5, .ref m6, .ref m7, .ref m8, .ref m9, .ref m10, .ref m11, .ref m12, .int (pI sw), .int (nI tn), .int (nI tot), .int (nI psl), .int (nI pc_), .ref m13])), (m3, .inl (cI, 8, .inl (fun j => nI (th j)))), (m4, .inl (cI, 8, .inl (fun j => nI (wi j)))), (m5, .inl (cI, 8, .inl (fun j => nI (wo j)))), (m6, .inl (cI, 8, .inl (fun j => nI (wn j)))), (m7, .inl (cI, 441, .inl (fun j => nI (F3 j)))), (m8, .inl (cI, 441, .inl (fun j => nI (F4 j)))), (m9, .inl (cI, 9702, .inl (fun j => nI ((va_up SA ((21 * row + thick) * 22 + (side - 1 - d)) (SA (((21 * row + thick) * 22 + (side - 1 - d)) + 1))) j)))), (m10, .inl (cI, 9702, .inl (fun j => nI (SB j))))] := hD
        refine lv_aload_n hx hb d_Mo_slab_68 rfl (lv_at hl 2 rfl) ?_
        refine va_get (D := D) (ci := 6) (v := .ref m10) (C := R_Mo) (T := T_Mo) (N := 22) hx hb hts (fun w h => List.mem_cons_of_mem _ (iw_Mo w h)) hown hK hP 0 rfl rfl 13 (by decide) (hts _ (List.mem_cons_of_mem _ k_558)) (fun _ h9 => h9) rfl d_Mo_slab_69 ?_
        refine lv_iload hx hb d_Mo_slab_72 (lv_at hl 0 rfl) ?_
        refine lv_aload_n hx hb d_Mo_slab_74 rfl (lv_at hl 2 rfl) ?_
        refine va_get (D := D) (ci := 6) (v := .ref m10) (C := R_Mo) (T := T_Mo) (N := 22) hx hb hts (fun w h => List.mem_cons_of_mem _ (iw_Mo w h)) hown hK hP 0 rfl rfl 13 (by decide) (hts _ (List.mem_cons_of_mem _ k_558)) (fun _ h9 => h9) rfl d_Mo_slab_75 ?_
        refine lv_iload hx hb d_Mo_slab_78 (lv_at hl 0 rfl) ?_
        refine lv_iconst (v := nI 1) hx hb d_Mo_slab_80 (by decide +kernel) ?_
        refine lv_iadd hx hb d_Mo_slab_81 ?_
        refine ka_i (y := nI (((21 * row + thick) * 22 + (side - 1 - d)) + 1)) (nI_add _ _) ?_
        refine ka_iald (k := (((21 * row + thick) * 22 + (side - 1 - d)) + 1)) (n := 9702) (f := fun j => nI (SB j)) (nI_t (by omega)) (by omega) hx hb hK hP 8 0 rfl rfl d_Mo_slab_82 ?_
        refine ka_iastN (F := SB) (v := (SB (((21 * row + thick) * 22 + (side - 1 - d)) + 1))) (k := ((21 * row + thick) * 22 + (side - 1 - d))) (n := 9702) (nI_t (by omega)) (by omega) hx hb hK hP hD hS 8 0 rfl rfl d_Mo_slab_83 (fun H locs hP hD hS => ?_)
        have hP : va_P D vwCl [(mo, .inr (6, [.int (nI thr), .int (nI side), .int (nI kf), .ref m1, .ref m2, .int (nI cn), .ref m3, .ref m4, .ref m5, .ref m6, .ref m7, .ref m8, .ref m9, .ref m10, .ref m11, .ref m12, .int (pI sw), .int (nI tn), .int (nI tot), .int (nI psl), .int (nI pc_), .ref m13])), (m3, .inl (cI, 8, .inl (fun j => nI (th j)))), (m4, .inl (cI, 8, .inl (fun j => nI (wi j)))), (m5, .inl (cI, 8, .inl (fun j => nI (wo j)))), (m6, .inl (cI, 8, .inl (fun j => nI (wn j)))), (m7, .inl (cI, 441, .inl (fun j => nI (F3 j)))), (m8, .inl (cI, 441, .inl (fun j => nI (F4 j)))), (m9, .inl (cI, 9702, .inl (fun j => nI ((va_up SA ((21 * row + thick) * 22 + (side - 1 - d)) (SA (((21 * row + thick) * 22 + (side - 1 - d)) + 1))) j)))), (m10, .inl (cI, 9702, .inl (fun j => nI ((va_up SB ((21 * row + thick) * 22 + (side - 1 - d)) (SB (((21 * row + thick) * 22 + (side - 1 - d)) + 1))) j))))] H := hP
        have hD : va_D A [(mo, .inr (6, [.int (nI thr), .int (nI side), .int (nI kf), .ref m1, .ref m2, .int (nI cn), .ref m3, .ref m4, .ref m5, .ref m6, .ref m7, .ref m8, .ref m9, .ref m10, .ref m11, .ref m12, .int (pI sw), .int (nI tn), .int (nI tot), .int (nI psl), .int (nI pc_), .ref m13])), (m3, .inl (cI, 8, .inl (fun j => nI (th j)))), (m4, .inl (cI, 8, .inl (fun j => nI (wi j)))), (m5, .inl (cI, 8, .inl (fun j => nI (wo j)))), (m6, .inl (cI, 8, .inl (fun j => nI (wn j)))), (m7, .inl (cI, 441, .inl (fun j => nI (F3 j)))), (m8, .inl (cI, 441, .inl (fun j => nI (F4 j)))), (m9, .inl (cI, 9702, .inl (fun j => nI ((va_up SA ((21 * row + thick) * 22 + (side - 1 - d)) (SA (((21 * row + thick) * 22 + (side - 1 - d)) + 1))) j)))), (m10, .inl (cI, 9702, .inl (fun j => nI ((va_up SB ((21 * row + thick) * 22 + (side - 1 - d)) (SB (((21 * row + thick) * 22 + (side - 1 - d)) + 1))) j))))] := hD
        refine lv_iconst (v := nI 0) hx hb d_Mo_slab_84 (by decide +kernel) ?_
        refine lv_istore (lv' := [(6, .int (nI 0)), (5, .int (nI ((21 * row + thick) * 22 + (side - 1 - d)))), (4, .int (nI (side - 1 - d))), (0, .ref mo), (1, .int (nI tq)), (2, .int (nI row)), (3, .int (nI thick))]) hx hb d_Mo_slab_85 hl (by decide) rfl (fun ls hl => ?_)
        have lq : ∀ (k : Nat) (s_ : Nat) (SC_ : Nat → Nat) (SD_ : Nat → Nat), (s_ + k = cn) → (isP (colFold (slabT side kf thick th wi (okC side fb th wi wn tq row) (vaC side fl th wi wo tq row) cn (fun _ => 0) (fun _ => 0) d).1 side kf (side - 1 - d) thick th wi ((okC side fb th wi wn tq row) (side - 1 - d)) ((vaC side fl th wi wo tq row) (side - 1 - d)) s_).1 (SC_ ((21 * row + thick) * 22 + (side - 1 - d))) (SD_ ((21 * row + thick) * 22 + (side - 1 - d))) (side - (side - 1 - d))) → (∀ q, q ≠ (21 * row + thick) * 22 + (side - 1 - d) → SC_ q = SA q ∧ SD_ q = SB q) → ∀ (H : Heap) (locs : List Loc), va_P D vwCl [(mo, .inr (6, [.int (nI thr), .int (nI side), .int (nI kf), .ref m1, .ref m2, .int (nI cn), .ref m3, .ref m4, .ref m5, .ref m6, .ref m7, .ref m8, .ref m9, .ref m10, .ref m11, .ref m12, .int (pI sw), .int (nI tn), .int (nI tot), .int (nI psl), .int (nI pc_), .ref m13])), (m3, .inl (cI, 8, .inl (fun j => nI (th j)))), (m4, .inl (cI, 8, .inl (fun j => nI (wi j)))), (m5, .inl (cI, 8, .inl (fun j => nI (wo j)))), (m6, .inl (cI, 8, .inl (fun j => nI (wn j)))), (m7, .inl (cI, 441, .inl (fun j => nI (F3 j)))), (m8, .inl (cI, 441, .inl (fun j => nI (F4 j)))), (m9, .inl (cI, 9702, .inl (fun j => nI (SC_ j)))), (m10, .inl (cI, 9702, .inl (fun j => nI (SD_ j))))] H → va_D A [(mo, .inr (6, [.int (nI thr), .int (nI side), .int (nI kf), .ref m1, .ref m2, .int (nI cn), .ref m3, .ref m4, .ref m5, .ref m6, .ref m7, .ref m8, .ref m9, .ref m10, .ref m11, .ref m12, .int (pI sw), .int (nI tn), .int (nI tot), .int (nI psl), .int (nI pc_), .ref m13])), (m3, .inl (cI, 8, .inl (fun j => nI (th j)))), (m4, .inl (cI, 8, .inl (fun j => nI (wi j)))), (m5, .inl (cI, 8, .inl (fun j => nI (wo j)))), (m6, .inl (cI, 8, .inl (fun j => nI (wn j)))), (m7, .inl (cI, 441, .inl (fun j => nI (F3 j)))), (m8, .inl (cI, 441, .inl (fun j => nI (F4 j)))), (m9, .inl (cI, 9702, .inl (fun j => nI (SC_ j)))), (m10, .inl (cI, 9702, .inl (fun j => nI (SD_ j))))] → va_S A s.heap H locs → ∀ ls : Array Slot, lv_has ls 10 [(6, .int (nI s_)), (5, .int (nI ((21 * row + thick) * 22 + (side - 1 - d)))), (4, .int (nI (side - 1 - d))), (0, .ref mo), (1, .int (nI tq)), (2, .int (nI row)), (3, .int (nI thick))] → W p l e (headSpec w_Mo_slab ({ frames := 3, cells := 0, slots := 0, locals := 78 })).room s m ([.ref mo, .int (nI tq), .int (nI row), .int (nI thick)]).toArray below meth c H locs 0 0 (MQ below (va_Qv (fun (u : (Nat → Nat) × (Nat → Nat)) => (∀ j, j ≤ side → isP ((slab0 side kf thick th wi (okC side fb th wi wn tq row) (vaC side fl th wi wo tq row) cn).1 j) (u.1 ((21 * row + thick) * 22 + j)) (u.2 ((21 * row + thick) * 22 + j)) (side - j)) ∧ ∀ q, (q < (21 * row + thick) * 22 ∨ (21 * row + thick) * 22 + side < q) → u.1 q = SW q ∧ u.2 q = SN q) (fun (u : (Nat → Nat) × (Nat → Nat)) t => kE D vwCl A [(mo, .inr (6, [.int (nI thr), .int (nI side), .int (nI kf), .ref m1, .ref m2, .int (nI cn), .ref m3, .ref m4, .ref m5, .ref m6, .ref m7, .ref m8, .ref m9, .ref m10, .ref m11, .ref m12, .int (pI sw), .int (nI tn), .int (nI tot), .int (nI psl), .int (nI pc_), .ref m13])), (m3, .inl (cI, 8, .inl (fun j => nI (th j)))), (m4, .inl (cI, 8, .inl (fun j => nI (wi j)))), (m5, .inl (cI, 8, .inl (fun j => nI (wo j)))), (m6, .inl (cI, 8, .inl (fun j => nI (wn j)))), (m7, .inl (cI, 441, .inl (fun j => nI (F3 j)))), (m8, .inl (cI, 441, .inl (fun j => nI (F4 j)))), (m9, .inl (cI, 9702, .inl (fun j => nI (u.1 j)))), (m10, .inl (cI, 9702, .inl (fun j => nI (u.2 j))))] t) A) ([.ref mo, .int (nI tq), .int (nI row), .int (nI thick)]).toArray s 0 0 A) (F0 m 87 ls []) := by
          intro k
          induction k with
          | zero =>
            intro s_ SC_ SD_ hk i2 k2 H locs hP hD hS ls hl
            have es : cn = s_ := by omega
            subst es
            refine lv_iload hx hb d_Mo_slab_87 (lv_at hl 0 rfl) ?_
            refine lv_aload_n hx hb d_Mo_slab_89 rfl (lv_at hl 3 rfl) ?_
            refine va_get (D := D) (ci := 6) (v := .int (nI cn)) (C := R_Mo) (T := T_Mo) (N := 22) hx hb hts (fun w h => List.mem_cons_of_mem _ (iw_Mo w h)) hown hK hP 0 rfl rfl 5 (by decide) (hts _ (List.mem_cons_of_mem _ k_550)) (fun _ h9 => h9) rfl d_Mo_slab_90 ?_
            refine kb_cge (tgt := 212) (nI_t (by omega)) (nI_t (by omega)) hx hb d_Mo_slab_93 (by decide) (fun c_93 => ?_) (fun c_93 => ?_)
            · refine lv_iinc (v := iI (((side - 1 - d : Nat) : Int) + (-1))) (lv' := [(4, .int (iI (((side - 1 - d : Nat) : Int) + (-1)))), (6, .int (nI cn)), (5, .int (nI ((21 * row + thick) * 22 + (side - 1 - d)))), (0, .ref mo), (1, .int (nI tq)), (2, .int (nI row)), (3, .int (nI thick))]) hx hb d_Mo_slab_212 hl (k := 2) rfl ((by rw [iI_of]; exact iI_add _ _)) (by decide) rfl (fun ls hl => ?_)
              refine lv_goto (tgt := 38) hx hb d_Mo_slab_215 (by decide) ?_
              have ivn : ∀ j, side - (d + 1) ≤ j → j ≤ side → isP ((slabT side kf thick th wi (okC side fb th wi wn tq row) (vaC side fl th wi wo tq row) cn (fun _ => 0) (fun _ => 0) (d + 1)).1 j) (SC_ ((21 * row + thick) * 22 + j)) (SD_ ((21 * row + thick) * 22 + j)) (side - j) := fun j h1 h2 => by
                by_cases e : j = side - 1 - d
                · subst e
                  rw [show (slabT side kf thick th wi (okC side fb th wi wn tq row) (vaC side fl th wi wo tq row) cn (fun _ => 0) (fun _ => 0) (d + 1)).1 (side - 1 - d) = (colFold (slabT side kf thick th wi (okC side fb th wi wn tq row) (vaC side fl th wi wo tq row) cn (fun _ => 0) (fun _ => 0) d).1 side kf (side - 1 - d) thick th wi ((okC side fb th wi wn tq row) (side - 1 - d)) ((vaC side fl th wi wo tq row) (side - 1 - d)) cn).1 from va_up_self _ _ _]
                  exact isP_mono i2 (by omega)
                · rw [show (slabT side kf thick th wi (okC side fb th wi wn tq row) (vaC side fl th wi wo tq row) cn (fun _ => 0) (fun _ => 0) (d + 1)).1 j = (slabT side kf thick th wi (okC side fb th wi wn tq row) (vaC side fl th wi wo tq row) cn (fun _ => 0) (fun _ => 0) d).1 j from va_up_ne _ _ e, (k2 ((21 * row + thick) * 22 + j) (by omega)).1, (k2 ((21 * row + thick) * 22 + j) (by omega)).2]
                  exact iv j (by omega) h2
              have kpn : ∀ q, (q < (21 * row + thick) * 22 ∨ (21 * row + thick) * 22 + side < q) → SC_ q = SW q ∧ SD_ q = SN q := fun q_ hq => by
                obtain ⟨y1, y2⟩ := kp q_ hq
                obtain ⟨y3, y4⟩ := k2 q_ (by omega)
                exact ⟨y3.trans y1, y4.trans y2⟩
              exact ih (d + 1) (((side - 1 - d : Nat) : Int) + (-1)) SC_ SD_ (by omega) (by omega) ivn kpn _ _ hP hD hS ls (lv_sub hl [0, 3, 4, 5, 6] rfl)
            · exfalso; omega
          | succ k ih =>
            intro s_ SC_ SD_ hk i2 k2 H locs hP hD hS ls hl
            refine lv_iload hx hb d_Mo_slab_87 (lv_at hl 0 rfl) ?_
            refine lv_aload_n hx hb d_Mo_slab_89 rfl (lv_at hl 3 rfl) ?_
            refine va_get (D := D) (ci := 6) (v := .int (nI cn)) (C := R_Mo) (T := T_Mo) (N := 22) hx hb hts (fun w h => List.mem_cons_of_mem _ (iw_Mo w h)) hown hK hP 0 rfl rfl 5 (by decide) (hts _ (List.mem_cons_of_mem _ k_550)) (fun _ h9 => h9) rfl d_Mo_slab_90 ?_
            refine kb_cge (tgt := 212) (nI_t (by omega)) (nI_t (by omega)) hx hb d_Mo_slab_93 (by decide) (fun c_93 => ?_) (fun c_93 => ?_)
            · exfalso; omega
            · have w1 := hw1 s_ (by omega)
              have w2 := hw s_ (by omega)
              refine lv_aload_n hx hb d_Mo_slab_96 rfl (lv_at hl 3 rfl) ?_
              refine lv_iload hx hb d_Mo_slab_97 (lv_at hl 0 rfl) ?_
              refine lv_iload_n hx hb d_Mo_slab_99 rfl (lv_at hl 4 rfl) ?_
              refine lv_iload_n hx hb d_Mo_slab_100 rfl (lv_at hl 5 rfl) ?_
              refine lv_iload_n hx hb d_Mo_slab_101 rfl (lv_at hl 6 rfl) ?_
              refine lv_iload hx hb d_Mo_slab_102 (lv_at hl 2 rfl) ?_
              refine kcallR (r := .int (pI (th s_ = thick ∧ okC side fb th wi wn tq row (side - 1 - d) s_))) (va_runV (As := [.int (nI s_), .int (nI tq), .int (nI row), .int (nI thick), .int (nI (side - 1 - d))]) (rest := []) ⟨hx, hb, hml, hown, hts⟩ (m_mayIn l D cI cJ cZ mo thr side kf m1 m2 cn m3 m4 m5 m6 m7 m8 m9 m10 m11 m12 sw tn tot psl pc_ m13 th wi wn F3 fb s_ tq row thick (side - 1 - d) s2 (by omega) tq1 rb tb (by omega) ht hw hn hF hfb) ⟨callB_of 5 hts (gd kc_Mo_mayIn) rfl rfl rfl (hts _ (List.mem_cons_of_mem _ k_8)) (hts _ (List.mem_cons_of_mem _ k_667)) (by decide +kernel) ⟨Nat.le_of_ble_eq_true rfl, Nat.le_of_ble_eq_true rfl⟩, hts _ (List.mem_cons_of_mem _ k_669), hts _ (List.mem_cons_of_mem _ ks_18)⟩ ⟨kR_blind, va_recv hK hP (ci := 6) (q0 := 0) rfl rfl, kR_at hP hK hZ [0, 1, 2, 4, 5] rfl⟩ rfl rfl hl.1 rfl (lv_room (Nat.le_of_ble_eq_true rfl)) d_Mo_slab_104 ⟨Nat.zero_le _, Nat.zero_le _⟩) ?_
              refine kb_eqP (tgt := 206) hx hb d_Mo_slab_107 (by decide) (fun cm => ?_) (fun cm => ?_)
              · refine lv_iinc (v := nI (s_ + 1)) (lv' := [(6, .int (nI (s_ + 1))), (5, .int (nI ((21 * row + thick) * 22 + (side - 1 - d)))), (4, .int (nI (side - 1 - d))), (0, .ref mo), (1, .int (nI tq)), (2, .int (nI row)), (3, .int (nI thick))]) hx hb d_Mo_slab_206 hl (k := 0) rfl (nI_add _ 1) (by decide) rfl (fun ls hl => ?_)
                refine lv_goto (tgt := 87) hx hb d_Mo_slab_209 (by decide) ?_
                exact ih (s_ + 1) SC_ SD_ (by omega) (by rw [colP_no cm]; exact i2) k2 _ _ hP hD hS ls (lv_sub hl [0, 1, 2, 3, 4, 5, 6] rfl)
              · refine lv_aload_n hx hb d_Mo_slab_110 rfl (lv_at hl 3 rfl) ?_
                refine lv_iload hx hb d_Mo_slab_111 (lv_at hl 0 rfl) ?_
                refine lv_iload_n hx hb d_Mo_slab_113 rfl (lv_at hl 4 rfl) ?_
                refine lv_iload_n hx hb d_Mo_slab_114 rfl (lv_at hl 5 rfl) ?_
                refine lv_iload_n hx hb d_Mo_slab_115 rfl (lv_at hl 6 rfl) ?_
                refine lv_iload hx hb d_Mo_slab_116 (lv_at hl 2 rfl) ?_
                refine kcallR (r := .int (nI ((vaC side fl th wi wo tq row (side - 1 - d) s_).toNat + SC_ ((21 * row + thick) * 22 + min side ((side - 1 - d) + wi s_ + kf))))) (va_runV (As := [.int (nI s_), .int (nI tq), .int (nI row), .int (nI thick), .int (nI (side - 1 - d))]) (rest := []) ⟨hx, hb, hml, hown, hts⟩ (m_worthWith l D cI cJ cZ mo thr side kf m1 m2 cn m3 m4 m5 m6 m7 m8 m9 m10 m11 m12 sw tn tot psl pc_ m13 th wi wo F4 SC_ fb fl wn s_ tq row thick (side - 1 - d) s2 k4 (by omega) tq1 rb tb (by omega) cm.2 hw ho hG hfl) ⟨callB_of 5 hts (gd kc_Mo_worthWith) rfl rfl rfl (hts _ (List.mem_cons_of_mem _ k_8)) (hts _ (List.mem_cons_of_mem _ k_687)) (by decide +kernel) ⟨Nat.le_of_ble_eq_true rfl, Nat.le_of_ble_eq_true rfl⟩, hts _ (List.mem_cons_of_mem _ k_689), hts _ (List.mem_cons_of_mem _ ks_23)⟩ ⟨kR_blind, va_recv hK hP (ci := 6) (q0 := 0) rfl rfl, kR_at hP hK hZ [0, 1, 2, 3, 6, 7] rfl⟩ rfl rfl hl.1 rfl (lv_room (Nat.le_of_ble_eq_true rfl)) d_Mo_slab_118 ⟨Nat.zero_le _, Nat.zero_le _⟩) ?_
                refine lv_istore (lv' := [(7, .int (nI ((vaC side fl th wi wo tq row (side - 1 - d) s_).toNat + SC_ ((21 * row + thick) * 22 + min side ((side - 1 - d) + wi s_ + kf))))), (6, .int (nI s_)), (5, .int (nI ((21 * row + thick) * 22 + (side - 1 - d)))), (4, .int (nI (side - 1 - d))), (0, .ref mo), (1, .int (nI tq)), (2, .int (nI row)), (3, .int (nI thick))]) hx hb d_Mo_slab_121 hl (by decide) rfl (fun ls hl => ?_)
                refine lv_aload_n hx hb d_Mo_slab_123 rfl (lv_at hl 4 rfl) ?_
                refine lv_iload hx hb d_Mo_slab_124 (lv_at hl 1 rfl) ?_
                refine lv_iload_n hx hb d_Mo_slab_126 rfl (lv_at hl 6 rfl) ?_
                refine lv_iload_n hx hb d_Mo_slab_127 rfl (lv_at hl 7 rfl) ?_
                refine lv_iload hx hb d_Mo_slab_128 (lv_at hl 3 rfl) ?_
                refine kcallR (r := .int (nI (1 + SD_ ((21 * row + thick) * 22 + min side ((side - 1 - d) + wi s_ + kf))))) (va_runV (As := [.int (nI s_), .int (nI row), .int (nI thick), .int (nI (side - 1 - d))]) (rest := []) ⟨hx, hb, hml, hown, hts⟩ (m_countWith l D cI cJ cZ mo thr side kf m1 m2 cn m3 m4 m5 m6 m7 m8 m9 m10 m11 m12 sw tn tot psl pc_ m13 wi SD_ s_ row thick (side - 1 - d) s2 k4 (by omega) rb tb (by omega) hw) ⟨callB_of 4 hts (gd kc_Mo_countWith) rfl rfl rfl (hts _ (List.mem_cons_of_mem _ k_8)) (hts _ (List.mem_cons_of_mem _ k_699)) (by decide +kernel) ⟨Nat.le_of_ble_eq_true rfl, Nat.le_of_ble_eq_true rfl⟩, hts _ (List.mem_cons_of_mem _ k_701), hts _ (List.mem_cons_of_mem _ ks_26)⟩ ⟨kR_blind, va_recv hK hP (ci := 6) (q0 := 0) rfl rfl, kR_at hP hK hZ [0, 2, 8] rfl⟩ rfl rfl hl.1 rfl (lv_room (Nat.le_of_ble_eq_true rfl)) d_Mo_slab_130 ⟨Nat.zero_le _, Nat.zero_le _⟩) ?_
                refine lv_istore (lv' := [(8, .int (nI (1 + SD_ ((21 * row + thick) * 22 + min side ((side - 1 - d) + wi s_ + kf))))), (7, .int (nI ((vaC side fl th wi wo tq row (side - 1 - d) s_).toNat + SC_ ((21 * row + thick) * 22 + min side ((side - 1 - d) + wi s_ + kf))))), (6, .int (nI s_)), (5, .int (nI ((21 * row + thick) * 22 + (side - 1 - d)))), (4, .int (nI (side - 1 - d))), (0, .ref mo), (1, .int (nI tq)), (2, .int (nI row)), (3, .int (nI thick))]) hx hb d_Mo_slab_133 hl (by decide) rfl (fun ls hl => ?_)
                refine lv_iload hx hb d_Mo_slab_135 (lv_at hl 1 rfl) ?_
                refine lv_iload hx hb d_Mo_slab_137 (lv_at hl 0 rfl) ?_
                refine lv_aload_n hx hb d_Mo_slab_139 rfl (lv_at hl 5 rfl) ?_
                refine va_get (D := D) (ci := 6) (v := .ref m9) (C := R_Mo) (T := T_Mo) (N := 22) hx hb hts (fun w h => List.mem_cons_of_mem _ (iw_Mo w h)) hown hK hP 0 rfl rfl 12 (by decide) (hts _ (List.mem_cons_of_mem _ k_557)) (fun _ h9 => h9) rfl d_Mo_slab_140 ?_
                refine lv_iload hx hb d_Mo_slab_143 (lv_at hl 3 rfl) ?_
                refine ka_iald (k := ((21 * row + thick) * 22 + (side - 1 - d))) (n := 9702) (f := fun j => nI (SC_ j)) (nI_t (by omega)) (by omega) hx hb hK hP 7 0 rfl rfl d_Mo_slab_145 ?_
                refine lv_aload_n hx hb d_Mo_slab_146 rfl (lv_at hl 5 rfl) ?_
                refine va_get (D := D) (ci := 6) (v := .ref m10) (C := R_Mo) (T := T_Mo) (N := 22) hx hb hts (fun w h => List.mem_cons_of_mem _ (iw_Mo w h)) hown hK hP 0 rfl rfl 13 (by decide) (hts _ (List.mem_cons_of_mem _ k_558)) (fun _ h9 => h9) rfl d_Mo_slab_147 ?_
                refine lv_iload hx hb d_Mo_slab_150 (lv_at hl 3 rfl) ?_
                refine ka_iald (k := ((21 * row + thick) * 22 + (side - 1 - d))) (n := 9702) (f := fun j => nI (SD_ j)) (nI_t (by omega)) (by omega) hx hb hK hP 8 0 rfl rfl d_Mo_slab_152 ?_
                have v1 := vaC_bd (side := side) (fl := fl) (th := th) (wi := wi) (wo := wo) (tn := tq) (row := row) (col := side - 1 - d) (i := s_) (ho s_ (by omega))
                obtain ⟨x1, x2⟩ := k2 ((21 * row + thick) * 22 + min side (side - 1 - d + wi s_ + kf)) (by omega)
                obtain ⟨p1, p2, p3, p4⟩ := iv (min side (side - 1 - d + wi s_ + kf)) (by omega) (by omega)
                obtain ⟨c1, c2, c3, c4⟩ := i2
                have rk : rkC (slabT side kf thick th wi (okC side fb th wi wn tq row) (vaC side fl th wi wo tq row) cn (fun _ => 0) (fun _ => 0) d).1 side kf (side - 1 - d) wi ((vaC side fl th wi wo tq row) (side - 1 - d)) s_ = 1000 * (((vaC side fl th wi wo tq row (side - 1 - d) s_).toNat + SC_ ((21 * row + thick) * 22 + min side (side - 1 - d + wi s_ + kf)) : Nat) : Int) - ((1 + SD_ ((21 * row + thick) * 22 + min side (side - 1 - d + wi s_ + kf)) : Nat) : Int) := by
                  unfold rkC
                  omega
                have up := colP_up (d := side - (side - 1 - d)) (by omega) cm ⟨c1, c2, c3, c4⟩ rk (by omega) (by omega) (by omega)
                refine kcallR (r := .int (pI ((SC_ ((21 * row + thick) * 22 + (side - 1 - d))) < ((vaC side fl th wi wo tq row (side - 1 - d) s_).toNat + SC_ ((21 * row + thick) * 22 + min side ((side - 1 - d) + wi s_ + kf))) ∨ (((vaC side fl th wi wo tq row (side - 1 - d) s_).toNat + SC_ ((21 * row + thick) * 22 + min side ((side - 1 - d) + wi s_ + kf))) = (SC_ ((21 * row + thick) * 22 + (side - 1 - d))) ∧ (1 + SD_ ((21 * row + thick) * 22 + min side ((side - 1 - d) + wi s_ + kf))) < (SD_ ((21 * row + thick) * 22 + (side - 1 - d))))))) (va_runS (As := [.int (nI ((vaC side fl th wi wo tq row (side - 1 - d) s_).toNat + SC_ ((21 * row + thick) * 22 + min side ((side - 1 - d) + wi s_ + kf)))), .int (nI (1 + SD_ ((21 * row + thick) * 22 + min side ((side - 1 - d) + wi s_ + kf)))), .int (nI (SC_ ((21 * row + thick) * 22 + (side - 1 - d)))), .int (nI (SD_ ((21 * row + thick) * 22 + (side - 1 - d))))]) (rest := []) ⟨hx, hb, hml, hown, hts⟩ (m_isBetter l D cI cJ cZ ((vaC side fl th wi wo tq row (side - 1 - d) s_).toNat + SC_ ((21 * row + thick) * 22 + min side ((side - 1 - d) + wi s_ + kf))) (1 + SD_ ((21 * row + thick) * 22 + min side ((side - 1 - d) + wi s_ + kf))) (SC_ ((21 * row + thick) * 22 + (side - 1 - d))) (SD_ ((21 * row + thick) * 22 + (side - 1 - d))) (by omega) (by omega) (by omega) (by omega)) ⟨callB_of 4 hts (gd kc_Mo_isBetter) rfl rfl rfl (hts _ (List.mem_cons_of_mem _ k_8)) (hts _ (List.mem_cons_of_mem _ k_703)) (by decide +kernel) ⟨Nat.le_of_ble_eq_true rfl, Nat.le_of_ble_eq_true rfl⟩, hts _ (List.mem_cons_of_mem _ k_704)⟩ ⟨kR_blind, kR_at hP hK hZ [] rfl⟩ rfl rfl hl.1 rfl (lv_room (Nat.le_of_ble_eq_true rfl)) d_Mo_slab_153 ⟨Nat.zero_le _, Nat.zero_le _⟩) ?_
                refine lv_istore (lv' := [(9, .int (pI ((SC_ ((21 * row + thick) * 22 + (side - 1 - d))) < ((vaC side fl th wi wo tq row (side - 1 - d) s_).toNat + SC_ ((21 * row + thick) * 22 + min side ((side - 1 - d) + wi s_ + kf))) ∨ (((vaC side fl th wi wo tq row (side - 1 - d) s_).toNat + SC_ ((21 * row + thick) * 22 + min side ((side - 1 - d) + wi s_ + kf))) = (SC_ ((21 * row + thick) * 22 + (side - 1 - d))) ∧ (1 + SD_ ((21 * row + thick) * 22 + min side ((side - 1 - d) + wi s_ + kf))) < (SD_ ((21 * row + thick) * 22 + (side - 1 - d))))))), (8, .int (nI (1 + SD_ ((21 * row + thick) * 22 + min side ((side - 1 - d) + wi s_ + kf))))), (7, .int (nI ((vaC side fl th wi wo tq row (side - 1 - d) s_).toNat + SC_ ((21 * row + thick) * 22 + min side ((side - 1 - d) + wi s_ + kf))))), (6, .int (nI s_)), (5, .int (nI ((21 * row + thick) * 22 + (side - 1 - d)))), (4, .int (nI (side - 1 - d))), (0, .ref mo), (1, .int (nI tq)), (2, .int (nI row)), (3, .int (nI thick))]) hx hb d_Mo_slab_156 hl (by decide) rfl (fun ls hl => ?_)
                refine lv_aload_n hx hb d_Mo_slab_158 rfl (lv_at hl 6 rfl) ?_
                refine va_get (D := D) (ci := 6) (v := .ref m9) (C := R_Mo) (T := T_Mo) (N := 22) hx hb hts (fun w h => List.mem_cons_of_mem _ (iw_Mo w h)) hown hK hP 0 rfl rfl 12 (by decide) (hts _ (List.mem_cons_of_mem _ k_557)) (fun _ h9 => h9) rfl d_Mo_slab_159 ?_
                refine lv_iload hx hb d_Mo_slab_162 (lv_at hl 4 rfl) ?_
                refine lv_iload hx hb d_Mo_slab_164 (lv_at hl 0 rfl) ?_
                refine kb_eqP (tgt := 174) hx hb d_Mo_slab_166 (by decide) (fun cb => ?_) (fun cb => ?_)
                · refine lv_aload_n hx hb d_Mo_slab_174 rfl (lv_at hl 6 rfl) ?_
                  refine va_get (D := D) (ci := 6) (v := .ref m9) (C := R_Mo) (T := T_Mo) (N := 22) hx hb hts (fun w h => List.mem_cons_of_mem _ (iw_Mo w h)) hown hK hP 0 rfl rfl 12 (by decide) (hts _ (List.mem_cons_of_mem _ k_557)) (fun _ h9 => h9) rfl d_Mo_slab_175 ?_
                  refine lv_iload hx hb d_Mo_slab_178 (lv_at hl 4 rfl) ?_
                  refine ka_iald (k := ((21 * row + thick) * 22 + (side - 1 - d))) (n := 9702) (f := fun j => nI (SC_ j)) (nI_t (by omega)) (by omega) hx hb hK hP 7 0 rfl rfl d_Mo_slab_180 ?_
                  refine ka_iastN (F := SC_) (v := (SC_ ((21 * row + thick) * 22 + (side - 1 - d)))) (k := ((21 * row + thick) * 22 + (side - 1 - d))) (n := 9702) (nI_t (by omega)) (by omega) hx hb hK hP hD hS 7 0 rfl rfl d_Mo_slab_181 (fun H locs hP hD hS => ?_)
                  have hP : va_P D vwCl [(mo, .inr (6, [.int (nI thr), .int (nI side), .int (nI kf), .ref m1, .ref m2, .int (nI cn), .ref m3, .ref m4, .ref m5, .ref m6, .ref m7, .ref m8, .ref m9, .ref m10, .ref m11, .ref m12, .int (pI sw), .int (nI tn), .int (nI tot), .int (nI psl), .int (nI pc_), .ref m13])), (m3, .inl (cI, 8, .inl (fun j => nI (th j)))), (m4, .inl (cI, 8, .inl (fun j => nI (wi j)))), (m5, .inl (cI, 8, .inl (fun j => nI (wo j)))), (m6, .inl (cI, 8, .inl (fun j => nI (wn j)))), (m7, .inl (cI, 441, .inl (fun j => nI (F3 j)))), (m8, .inl (cI, 441, .inl (fun j => nI (F4 j)))), (m9, .inl (cI, 9702, .inl (fun j => nI ((va_up SC_ ((21 * row + thick) * 22 + (side - 1 - d)) (SC_ ((21 * row + thick) * 22 + (side - 1 - d)))) j)))), (m10, .inl (cI, 9702, .inl (fun j => nI (SD_ j))))] H := hP
                  have hD : va_D A [(mo, .inr (6, [.int (nI thr), .int (nI side), .int (nI kf), .ref m1, .ref m2, .int (nI cn), .ref m3, .ref m4, .ref m5, .ref m6, .ref m7, .ref m8, .ref m9, .ref m10, .ref m11, .ref m12, .int (pI sw), .int (nI tn), .int (nI tot), .int (nI psl), .int (nI pc_), .ref m13])), (m3, .inl (cI, 8, .inl (fun j => nI (th j)))), (m4, .inl (cI, 8, .inl (fun j => nI (wi j)))), (m5, .inl (cI, 8, .inl (fun j => nI (wo j)))), (m6, .inl (cI, 8, .inl (fun j => nI (wn j)))), (m7, .inl (cI, 441, .inl (fun j => nI (F3 j)))), (m8, .inl (cI, 441, .inl (fun j => nI (F4 j)))), (m9, .inl (cI, 9702, .inl (fun j => nI ((va_up SC_ ((21 * row + thick) * 22 + (side - 1 - d)) (SC_ ((21 * row + thick) * 22 + (side - 1 - d)))) j)))), (m10, .inl (cI, 9702, .inl (fun j => nI (SD_ j))))] := hD
                  refine lv_aload_n hx hb d_Mo_slab_182 rfl (lv_at hl 6 rfl) ?_
                  refine va_get (D := D) (ci := 6) (v := .ref m10) (C := R_Mo) (T := T_Mo) (N := 22) hx hb hts (fun w h => List.mem_cons_of_mem _ (iw_Mo w h)) hown hK hP 0 rfl rfl 13 (by decide) (hts _ (List.mem_cons_of_mem _ k_558)) (fun _ h9 => h9) rfl d_Mo_slab_183 ?_
                  refine lv_iload hx hb d_Mo_slab_186 (lv_at hl 4 rfl) ?_
                  refine lv_iload hx hb d_Mo_slab_188 (lv_at hl 0 rfl) ?_
                  refine kb_eqP (tgt := 198) hx hb d_Mo_slab_190 (by decide) (fun cd => ?_) (fun cd => ?_)
                  · refine lv_aload_n hx hb d_Mo_slab_198 rfl (lv_at hl 6 rfl) ?_
                    refine va_get (D := D) (ci := 6) (v := .ref m10) (C := R_Mo) (T := T_Mo) (N := 22) hx hb hts (fun w h => List.mem_cons_of_mem _ (iw_Mo w h)) hown hK hP 0 rfl rfl 13 (by decide) (hts _ (List.mem_cons_of_mem _ k_558)) (fun _ h9 => h9) rfl d_Mo_slab_199 ?_
                    refine lv_iload hx hb d_Mo_slab_202 (lv_at hl 4 rfl) ?_
                    refine ka_iald (k := ((21 * row + thick) * 22 + (side - 1 - d))) (n := 9702) (f := fun j => nI (SD_ j)) (nI_t (by omega)) (by omega) hx hb hK hP 8 0 rfl rfl d_Mo_slab_204 ?_
                    refine ka_iastN (F := SD_) (v := (SD_ ((21 * row + thick) * 22 + (side - 1 - d)))) (k := ((21 * row + thick) * 22 + (side - 1 - d))) (n := 9702) (nI_t (by omega)) (by omega) hx hb hK hP hD hS 8 0 rfl rfl d_Mo_slab_205 (fun H locs hP hD hS => ?_)
                    have hP : va_P D vwCl [(mo, .inr (6, [.int (nI thr), .int (nI side), .int (nI kf), .ref m1, .ref m2, .int (nI cn), .ref m3, .ref m4, .ref m5, .ref m6, .ref m7, .ref m8, .ref m9, .ref m10, .ref m11, .ref m12, .int (pI sw), .int (nI tn), .int (nI tot), .int (nI psl), .int (nI pc_), .ref m13])), (m3, .inl (cI, 8, .inl (fun j => nI (th j)))), (m4, .inl (cI, 8, .inl (fun j => nI (wi j)))), (m5, .inl (cI, 8, .inl (fun j => nI (wo j)))), (m6, .inl (cI, 8, .inl (fun j => nI (wn j)))), (m7, .inl (cI, 441, .inl (fun j => nI (F3 j)))), (m8, .inl (cI, 441, .inl (fun j => nI (F4 j)))), (m9, .inl (cI, 9702, .inl (fun j => nI ((va_up SC_ ((21 * row + thick) * 22 + (side - 1 - d)) (SC_ ((21 * row + thick) * 22 + (side - 1 - d)))) j)))), (m10, .inl (cI, 9702, .inl (fun j => nI ((va_up SD_ ((21 * row + thick) * 22 + (side - 1 - d)) (SD_ ((21 * row + thick) * 22 + (side - 1 - d)))) j))))] H := hP
                    have hD : va_D A [(mo, .inr (6, [.int (nI thr), .int (nI side), .int (nI kf), .ref m1, .ref m2, .int (nI cn), .ref m3, .ref m4, .ref m5, .ref m6, .ref m7, .ref m8, .ref m9, .ref m10, .ref m11, .ref m12, .int (pI sw), .int (nI tn), .int (nI tot), .int (nI psl), .int (nI pc_), .ref m13])), (m3, .inl (cI, 8, .inl (fun j => nI (th j)))), (m4, .inl (cI, 8, .inl (fun j => nI (wi j)))), (m5, .inl (cI, 8, .inl (fun j => nI (wo j)))), (m6, .inl (cI, 8, .inl (fun j => nI (wn j)))), (m7, .inl (cI, 441, .inl (fun j => nI (F3 j)))), (m8, .inl (cI, 441, .inl (fun j => nI (F4 j)))), (m9, .inl (cI, 9702, .inl (fun j => nI ((va_up SC_ ((21 * row + thick) * 22 + (side - 1 - d)) (SC_ ((21 * row + thick) * 22 + (side - 1 - d)))) j)))), (m10, .inl (cI, 9702, .inl (fun j => nI ((va_up SD_ ((21 * row + thick) * 22 + (side - 1 - d)) (SD_ ((21 * row + thick) * 22 + (side - 1 - d)))) j))))] := hD
                    refine lv_iinc (v := nI (s_ + 1)) (lv' := [(6, .int (nI (s_ + 1))), (9, .int (pI ((SC_ ((21 * row + thick) * 22 + (side - 1 - d))) < ((vaC side fl th wi wo tq row (side - 1 - d) s_).toNat + SC_ ((21 * row + thick) * 22 + min side ((side - 1 - d) + wi s_ + kf))) ∨ (((vaC side fl th wi wo tq row (side - 1 - d) s_).toNat + SC_ ((21 * row + thick) * 22 + min side ((side - 1 - d) + wi s_ + kf))) = (SC_ ((21 * row + thick) * 22 + (side - 1 - d))) ∧ (1 + SD_ ((21 * row + thick) * 22 + min side ((side - 1 - d) + wi s_ + kf))) < (SD_ ((21 * row + thick) * 22 + (side - 1 - d))))))), (8, .int (nI (1 + SD_ ((21 * row + thick) * 22 + min side ((side - 1 - d) + wi s_ + kf))))), (7, .int (nI ((vaC side fl th wi wo tq row (side - 1 - d) s_).toNat + SC_ ((21 * row + thick) * 22 + min side ((side - 1 - d) + wi s_ + kf))))), (5, .int (nI ((21 * row + thick) * 22 + (side - 1 - d)))), (4, .int (nI (side - 1 - d))), (0, .ref mo), (1, .int (nI tq)), (2, .int (nI row)), (3, .int (nI thick))]) hx hb d_Mo_slab_206 hl (k := 3) rfl (nI_add _ 1) (by decide) rfl (fun ls hl => ?_)
                    refine lv_goto (tgt := 87) hx hb d_Mo_slab_209 (by decide) ?_
                    have i3 : isP (colFold (slabT side kf thick th wi (okC side fb th wi wn tq row) (vaC side fl th wi wo tq row) cn (fun _ => 0) (fun _ => 0) d).1 side kf (side - 1 - d) thick th wi ((okC side fb th wi wn tq row) (side - 1 - d)) ((vaC side fl th wi wo tq row) (side - 1 - d)) (s_ + 1)).1 ((va_up SC_ ((21 * row + thick) * 22 + (side - 1 - d)) (SC_ ((21 * row + thick) * 22 + (side - 1 - d)))) ((21 * row + thick) * 22 + (side - 1 - d))) ((va_up SD_ ((21 * row + thick) * 22 + (side - 1 - d)) (SD_ ((21 * row + thick) * 22 + (side - 1 - d)))) ((21 * row + thick) * 22 + (side - 1 - d))) (side - (side - 1 - d)) := by
                      rw [va_up_self, va_up_self]
                      exact up.2 cb
                    have k3 : ∀ q, q ≠ (21 * row + thick) * 22 + (side - 1 - d) → (va_up SC_ ((21 * row + thick) * 22 + (side - 1 - d)) (SC_ ((21 * row + thick) * 22 + (side - 1 - d)))) q = SA q ∧ (va_up SD_ ((21 * row + thick) * 22 + (side - 1 - d)) (SD_ ((21 * row + thick) * 22 + (side - 1 - d)))) q = SB q := fun q hq => by
                      rw [va_up_ne _ _ hq, va_up_ne _ _ hq]
                      exact k2 q hq
                    exact ih (s_ + 1) (va_up SC_ ((21 * row + thick) * 22 + (side - 1 - d)) (SC_ ((21 * row + thick) * 22 + (side - 1 - d)))) (va_up SD_ ((21 * row + thick) * 22 + (side - 1 - d)) (SD_ ((21 * row + thick) * 22 + (side - 1 - d)))) (by omega) i3 k3 _ _ hP hD hS ls (lv_sub hl [0, 4, 5, 6, 7, 8, 9] rfl)
                  · exact absurd cd cb
                · refine lv_iload hx hb d_Mo_slab_169 (lv_at hl 2 rfl) ?_
                  refine lv_goto (tgt := 181) hx hb d_Mo_slab_171 (by decide) ?_
                  refine ka_iastN (F := SC_) (v := ((vaC side fl th wi wo tq row (side - 1 - d) s_).toNat + SC_ ((21 * row + thick) * 22 + min side ((side - 1 - d) + wi s_ + kf)))) (k := ((21 * row + thick) * 22 + (side - 1 - d))) (n := 9702) (nI_t (by omega)) (by omega) hx hb hK hP hD hS 7 0 rfl rfl d_Mo_slab_181 (fun H locs hP hD hS => ?_)
                  have hP : va_P D vwCl [(mo, .inr (6, [.int (nI thr), .int (nI side), .int (nI kf), .ref m1, .ref m2, .int (nI cn), .ref m3, .ref m4, .ref m5, .ref m6, .ref m7, .ref m8, .ref m9, .ref m10, .ref m11, .ref m12, .int (pI sw), .int (nI tn), .int (nI tot), .int (nI psl), .int (nI pc_), .ref m13])), (m3, .inl (cI, 8, .inl (fun j => nI (th j)))), (m4, .inl (cI, 8, .inl (fun j => nI (wi j)))), (m5, .inl (cI, 8, .inl (fun j => nI (wo j)))), (m6, .inl (cI, 8, .inl (fun j => nI (wn j)))), (m7, .inl (cI, 441, .inl (fun j => nI (F3 j)))), (m8, .inl (cI, 441, .inl (fun j => nI (F4 j)))), (m9, .inl (cI, 9702, .inl (fun j => nI ((va_up SC_ ((21 * row + thick) * 22 + (side - 1 - d)) ((vaC side fl th wi wo tq row (side - 1 - d) s_).toNat + SC_ ((21 * row + thick) * 22 + min side ((side - 1 - d) + wi s_ + kf)))) j)))), (m10, .inl (cI, 9702, .inl (fun j => nI (SD_ j))))] H := hP
                  have hD : va_D A [(mo, .inr (6, [.int (nI thr), .int (nI side), .int (nI kf), .ref m1, .ref m2, .int (nI cn), .ref m3, .ref m4, .ref m5, .ref m6, .ref m7, .ref m8, .ref m9, .ref m10, .ref m11, .ref m12, .int (pI sw), .int (nI tn), .int (nI tot), .int (nI psl), .int (nI pc_), .ref m13])), (m3, .inl (cI, 8, .inl (fun j => nI (th j)))), (m4, .inl (cI, 8, .inl (fun j => nI (wi j)))), (m5, .inl (cI, 8, .inl (fun j => nI (wo j)))), (m6, .inl (cI, 8, .inl (fun j => nI (wn j)))), (m7, .inl (cI, 441, .inl (fun j => nI (F3 j)))), (m8, .inl (cI, 441, .inl (fun j => nI (F4 j)))), (m9, .inl (cI, 9702, .inl (fun j => nI ((va_up SC_ ((21 * row + thick) * 22 + (side - 1 - d)) ((vaC side fl th wi wo tq row (side - 1 - d) s_).toNat + SC_ ((21 * row + thick) * 22 + min side ((side - 1 - d) + wi s_ + kf)))) j)))), (m10, .inl (cI, 9702, .inl (fun j => nI (SD_ j))))] := hD
                  refine lv_aload_n hx hb d_Mo_slab_182 rfl (lv_at hl 6 rfl) ?_
                  refine va_get (D := D) (ci := 6) (v := .ref m10) (C := R_Mo) (T := T_Mo) (N := 22) hx hb hts (fun w h => List.mem_cons_of_mem _ (iw_Mo w h)) hown hK hP 0 rfl rfl 13 (by decide) (hts _ (List.mem_cons_of_mem _ k_558)) (fun _ h9 => h9) rfl d_Mo_slab_183 ?_
                  refine lv_iload hx hb d_Mo_slab_186 (lv_at hl 4 rfl) ?_
                  refine lv_iload hx hb d_Mo_slab_188 (lv_at hl 0 rfl) ?_
                  refine kb_eqP (tgt := 198) hx hb d_Mo_slab_190 (by decide) (fun cd => ?_) (fun cd => ?_)
                  · exact absurd cb cd
                  · refine lv_iload hx hb d_Mo_slab_193 (lv_at hl 1 rfl) ?_
                    refine lv_goto (tgt := 205) hx hb d_Mo_slab_195 (by decide) ?_
                    refine ka_iastN (F := SD_) (v := (1 + SD_ ((21 * row + thick) * 22 + min side ((side - 1 - d) + wi s_ + kf)))) (k := ((21 * row + thick) * 22 + (side - 1 - d))) (n := 9702) (nI_t (by omega)) (by omega) hx hb hK hP hD hS 8 0 rfl rfl d_Mo_slab_205 (fun H locs hP hD hS => ?_)
                    have hP : va_P D vwCl [(mo, .inr (6, [.int (nI thr), .int (nI side), .int (nI kf), .ref m1, .ref m2, .int (nI cn), .ref m3, .ref m4, .ref m5, .ref m6, .ref m7, .ref m8, .ref m9, .ref m10, .ref m11, .ref m12, .int (pI sw), .int (nI tn), .int (nI tot), .int (nI psl), .int (nI pc_), .ref m13])), (m3, .inl (cI, 8, .inl (fun j => nI (th j)))), (m4, .inl (cI, 8, .inl (fun j => nI (wi j)))), (m5, .inl (cI, 8, .inl (fun j => nI (wo j)))), (m6, .inl (cI, 8, .inl (fun j => nI (wn j)))), (m7, .inl (cI, 441, .inl (fun j => nI (F3 j)))), (m8, .inl (cI, 441, .inl (fun j => nI (F4 j)))), (m9, .inl (cI, 9702, .inl (fun j => nI ((va_up SC_ ((21 * row + thick) * 22 + (side - 1 - d)) ((vaC side fl th wi wo tq row (side - 1 - d) s_).toNat + SC_ ((21 * row + thick) * 22 + min side ((side - 1 - d) + wi s_ + kf)))) j)))), (m10, .inl (cI, 9702, .inl (fun j => nI ((va_up SD_ ((21 * row + thick) * 22 + (side - 1 - d)) (1 + SD_ ((21 * row + thick) * 22 + min side ((side - 1 - d) + wi s_ + kf)))) j))))] H := hP
                    have hD : va_D A [(mo, .inr (6, [.int (nI thr), .int (nI side), .int (nI kf), .ref m1, .ref m2, .int (nI cn), .ref m3, .ref m4, .ref m5, .ref m6, .ref m7, .ref m8, .ref m9, .ref m10, .ref m11, .ref m12, .int (pI sw), .int (nI tn), .int (nI tot), .int (nI psl), .int (nI pc_), .ref m13])), (m3, .inl (cI, 8, .inl (fun j => nI (th j)))), (m4, .inl (cI, 8, .inl (fun j => nI (wi j)))), (m5, .inl (cI, 8, .inl (fun j => nI (wo j)))), (m6, .inl (cI, 8, .inl (fun j => nI (wn j)))), (m7, .inl (cI, 441, .inl (fun j => nI (F3 j)))), (m8, .inl (cI, 441, .inl (fun j => nI (F4 j)))), (m9, .inl (cI, 9702, .inl (fun j => nI ((va_up SC_ ((21 * row + thick) * 22 + (side - 1 - d)) ((vaC side fl th wi wo tq row (side - 1 - d) s_).toNat + SC_ ((21 * row + thick) * 22 + min side ((side - 1 - d) + wi s_ + kf)))) j)))), (m10, .inl (cI, 9702, .inl (fun j => nI ((va_up SD_ ((21 * row + thick) * 22 + (side - 1 - d)) (1 + SD_ ((21 * row + thick) * 22 + min side ((side - 1 - d) + wi s_ + kf)))) j))))] := hD
                    refine lv_iinc (v := nI (s_ + 1)) (lv' := [(6, .int (nI (s_ + 1))), (9, .int (pI ((SC_ ((21 * row + thick) * 22 + (side - 1 - d))) < ((vaC side fl th wi wo tq row (side - 1 - d) s_).toNat + SC_ ((21 * row + thick) * 22 + min side ((side - 1 - d) + wi s_ + kf))) ∨ (((vaC side fl th wi wo tq row (side - 1 - d) s_).toNat + SC_ ((21 * row + thick) * 22 + min side ((side - 1 - d) + wi s_ + kf))) = (SC_ ((21 * row + thick) * 22 + (side - 1 - d))) ∧ (1 + SD_ ((21 * row + thick) * 22 + min side ((side - 1 - d) + wi s_ + kf))) < (SD_ ((21 * row + thick) * 22 + (side - 1 - d))))))), (8, .int (nI (1 + SD_ ((21 * row + thick) * 22 + min side ((side - 1 - d) + wi s_ + kf))))), (7, .int (nI ((vaC side fl th wi wo tq row (side - 1 - d) s_).toNat + SC_ ((21 * row + thick) * 22 + min side ((side - 1 - d) + wi s_ + kf))))), (5, .int (nI ((21 * row + thick) * 22 + (side - 1 - d)))), (4, .int (nI (side - 1 - d))), (0, .ref mo), (1, .int (nI tq)), (2, .int (nI row)), (3, .int (nI thick))]) hx hb d_Mo_slab_206 hl (k := 3) rfl (nI_add _ 1) (by decide) rfl (fun ls hl => ?_)
                    refine lv_goto (tgt := 87) hx hb d_Mo_slab_209 (by decide) ?_
                    have i3 : isP (colFold (slabT side kf thick th wi (okC side fb th wi wn tq row) (vaC side fl th wi wo tq row) cn (fun _ => 0) (fun _ => 0) d).1 side kf (side - 1 - d) thick th wi ((okC side fb th wi wn tq row) (side - 1 - d)) ((vaC side fl th wi wo tq row) (side - 1 - d)) (s_ + 1)).1 ((va_up SC_ ((21 * row + thick) * 22 + (side - 1 - d)) ((vaC side fl th wi wo tq row (side - 1 - d) s_).toNat + SC_ ((21 * row + thick) * 22 + min side (side - 1 - d + wi s_ + kf)))) ((21 * row + thick) * 22 + (side - 1 - d))) ((va_up SD_ ((21 * row + thick) * 22 + (side - 1 - d)) (1 + SD_ ((21 * row + thick) * 22 + min side (side - 1 - d + wi s_ + kf)))) ((21 * row + thick) * 22 + (side - 1 - d))) (side - (side - 1 - d)) := by
                      rw [va_up_self, va_up_self]
                      exact up.1 cb
                    have k3 : ∀ q, q ≠ (21 * row + thick) * 22 + (side - 1 - d) → (va_up SC_ ((21 * row + thick) * 22 + (side - 1 - d)) ((vaC side fl th wi wo tq row (side - 1 - d) s_).toNat + SC_ ((21 * row + thick) * 22 + min side (side - 1 - d + wi s_ + kf)))) q = SA q ∧ (va_up SD_ ((21 * row + thick) * 22 + (side - 1 - d)) (1 + SD_ ((21 * row + thick) * 22 + min side (side - 1 - d + wi s_ + kf)))) q = SB q := fun q hq => by
                      rw [va_up_ne _ _ hq, va_up_ne _ _ hq]
                      exact k2 q hq
                    exact ih (s_ + 1) (va_up SC_ ((21 * row + thick) * 22 + (side - 1 - d)) ((vaC side fl th wi wo tq row (side - 1 - d) s_).toNat + SC_ ((21 * row + thick) * 22 + min side (side - 1 - d + wi s_ + kf)))) (va_up SD_ ((21 * row + thick) * 22 + (side - 1 - d)) (1 + SD_ ((21 * row + thick) * 22 + min side (side - 1 - d + wi s_ + kf)))) (by omega) i3 k3 _ _ hP hD hS ls (lv_sub hl [0, 4, 5, 6, 7, 8, 9] rfl)
        have i0 : isP (colFold (slabT side kf thick th wi (okC side fb th wi wn tq row) (vaC side fl th wi wo tq row) cn (fun _ => 0) (fun _ => 0) d).1 side kf (side - 1 - d) thick th wi ((okC side fb th wi wn tq row) (side - 1 - d)) ((vaC side fl th wi wo tq row) (side - 1 - d)) 0).1 ((va_up SA ((21 * row + thick) * 22 + (side - 1 - d)) (SA ((21 * row + thick) * 22 + (side - 1 - d) + 1))) ((21 * row + thick) * 22 + (side - 1 - d))) ((va_up SB ((21 * row + thick) * 22 + (side - 1 - d)) (SB ((21 * row + thick) * 22 + (side - 1 - d) + 1))) ((21 * row + thick) * 22 + (side - 1 - d))) (side - (side - 1 - d)) := by
          rw [va_up_self, va_up_self]
          have h9 := iv (side - 1 - d + 1) (by omega) (by omega)
          rw [show (21 * row + thick) * 22 + (side - 1 - d + 1) = (21 * row + thick) * 22 + (side - 1 - d) + 1 by omega] at h9
          exact isP_mono h9 (by omega)
        have k0 : ∀ q, q ≠ (21 * row + thick) * 22 + (side - 1 - d) → (va_up SA ((21 * row + thick) * 22 + (side - 1 - d)) (SA ((21 * row + thick) * 22 + (side - 1 - d) + 1))) q = SA q ∧ (va_up SB ((21 * row + thick) * 22 + (side - 1 - d)) (SB ((21 * row + thick) * 22 + (side - 1 - d) + 1))) q = SB q := fun q hq => ⟨va_up_ne _ _ hq, va_up_ne _ _ hq⟩
        exact lq cn 0 (va_up SA ((21 * row + thick) * 22 + (side - 1 - d)) (SA ((21 * row + thick) * 22 + (side - 1 - d) + 1))) (va_up SB ((21 * row + thick) * 22 + (side - 1 - d)) (SB ((21 * row + thick) * 22 + (side - 1 - d) + 1))) (by omega) i0 k0 _ _ hP hD hS ls (lv_sub hl [0, 1, 2, 3, 4, 5, 6] rfl)
  have iv0 : ∀ j, side - 0 ≤ j → j ≤ side → isP ((slabT side kf thick th wi (okC side fb th wi wn tq row) (vaC side fl th wi wo tq row) cn (fun _ => 0) (fun _ => 0) 0).1 j) ((va_up SW ((21 * row + thick) * 22 + side) 0) ((21 * row + thick) * 22 + j)) ((va_up SN ((21 * row + thick) * 22 + side) 0) ((21 * row + thick) * 22 + j)) (side - j) := fun j h1 h2 => by
    have e : j = side := by omega
    subst e
    rw [va_up_self, va_up_self]
    exact ⟨rfl, by omega, by omega, Iff.rfl⟩
  have kp0 : ∀ q, (q < (21 * row + thick) * 22 ∨ (21 * row + thick) * 22 + side < q) → (va_up SW ((21 * row + thick) * 22 + side) 0) q = SW q ∧ (va_up SN ((21 * row + thick) * 22 + side) 0) q = SN q := fun q hq => ⟨va_up_ne _ _ (by omega), va_up_ne _ _ (by omega)⟩
  exact lp side 0 (((side : Nat) : Int) - ((1 : Nat) : Int)) (va_up SW ((21 * row + thick) * 22 + side) 0) (va_up SN ((21 * row + thick) * 22 + side) 0) (by omega) (by omega) iv0 kp0 _ _ hP hD hS ls (lv_sub hl [0, 1, 2, 3, 4] rfl)
