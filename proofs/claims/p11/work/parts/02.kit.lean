/-! numbers: an Int32 by an integer; a truth as 0 or 1; a long by an integer -/
def iI (z : Int) : Int32 := Int32.ofInt z
theorem iI_add (a b : Int) : iI a + iI b = iI (a + b) := (Int32.ofInt_add a b).symm
theorem iI_sub (a b : Int) : iI a - iI b = iI (a - b) := (Int32.ofInt_sub a b).symm
theorem iI_mul (a b : Int) : iI a * iI b = iI (a * b) := (Int32.ofInt_mul a b).symm
theorem iI_of (n : Nat) : nI n = iI (n : Int) := (Int32.ofInt_eq_ofNat (n := n)).symm
theorem iI_self (x : Int32) : x = iI x.toInt := (Int32.ofInt_toInt x).symm
theorem iI_t {z : Int} (h1 : -2147483648 ≤ z) (h2 : z < 2147483648) : (iI z).toInt = z := Int32.toInt_ofInt_of_le (by omega) (by omega)
theorem nI_t {n : Nat} (h : n < 2147483648) : (nI n).toInt = (n : Int) := nI_toInt (by omega)
theorem i0_t : (0 : Int32).toInt = 0 := rfl
theorem iI_lo (x : Int32) : -2147483648 ≤ x.toInt := by
  have h := Int32.le_toInt x
  omega
theorem iI_hi (x : Int32) : x.toInt < 2147483648 := by
  have h := Int32.toInt_lt x
  omega
theorem iI_inj {x y : Int32} (h : x.toInt = y.toInt) : x = y := Int32.toInt_inj.mp h
theorem nI_eqi {n : Nat} {z : Int} (h : (n : Int) = z) : nI n = iI z := by rw [iI_of, h]
theorem iI_eqn {n : Nat} {z : Int} (h : z = (n : Int)) : iI z = nI n := by rw [iI_of, h]
noncomputable def pI (P : Prop) : Int32 := @ite Int32 P (Classical.propDecidable P) 1 0
theorem pI_t {P : Prop} (h : P) : pI P = 1 := by unfold pI; exact if_pos h
theorem pI_f {P : Prop} (h : ¬ P) : pI P = 0 := by unfold pI; exact if_neg h
theorem pI_0 {P : Prop} : pI P = 0 ↔ ¬ P := by
  refine ⟨fun h q => ?_, pI_f⟩
  rw [pI_t q] at h
  exact absurd h (by decide)
theorem pI_n0 {P : Prop} : ¬ pI P = 0 ↔ P := by
  rw [pI_0]
  exact Classical.not_not
theorem pI_1 {P : Prop} (h : P) : nI 1 = pI P := by
  rw [pI_t h]; decide +kernel
theorem pI_z {P : Prop} (h : ¬ P) : nI 0 = pI P := by
  rw [pI_f h]; decide +kernel
theorem pI_iff {P P' : Prop} (h : P ↔ P') : pI P = pI P' := by rw [propext h]
theorem pI_inj {P P' : Prop} : pI P = pI P' ↔ (P ↔ P') := by
  refine ⟨fun h => ?_, pI_iff⟩
  rcases Classical.em P with a | a <;> rcases Classical.em P' with b | b
  · exact ⟨fun _ => b, fun _ => a⟩
  · rw [pI_t a, pI_f b] at h; exact absurd h (by decide)
  · rw [pI_f a, pI_t b] at h; exact absurd h (by decide)
  · exact ⟨fun q => absurd q a, fun q => absurd q b⟩
theorem pI_nar (P : Prop) : vp_nar .boolean (pI P) = pI P := by
  rcases Classical.em P with h | h
  · rw [pI_t h]; rfl
  · rw [pI_f h]; rfl
theorem pI_narrow (P : Prop) : narrow .boolean (.int (pI P)) = .int (pI P) := by
  rcases Classical.em P with h | h
  · rw [pI_t h]; rfl
  · rw [pI_f h]; rfl
theorem pI_fits (P : Prop) : fits .boolean (.int (pI P)) = true := by
  rcases Classical.em P with h | h
  · rw [pI_t h]; rfl
  · rw [pI_f h]; rfl
def lI (z : Int) : Int64 := Int64.ofInt z
theorem lI_add (a b : Int) : lI a + lI b = lI (a + b) := (Int64.ofInt_add a b).symm
theorem lI_sub (a b : Int) : lI a - lI b = lI (a - b) := (Int64.ofInt_sub a b).symm
theorem lI_mul (a b : Int) : lI a * lI b = lI (a * b) := (Int64.ofInt_mul a b).symm
theorem lI_t {z : Int} (h1 : -9223372036854775808 ≤ z) (h2 : z < 9223372036854775808) : (lI z).toInt = z := Int64.toInt_ofInt_of_le (by omega) (by omega)
theorem lI_i {x : Int32} {z : Int} (h : x.toInt = z) : x.toInt64 = lI z := by
  have e : x.toInt64.toInt = z := by rw [Int32.toInt_toInt64]; exact h
  rw [← e]
  exact (Int64.ofInt_toInt _).symm
theorem cm_lt32 {x y : Int32} {a b : Int} (hx : x.toInt = a) (hy : y.toInt = b) : x < y ↔ a < b := by rw [Int32.lt_iff_toInt_lt, hx, hy]
theorem cm_le32 {x y : Int32} {a b : Int} (hx : x.toInt = a) (hy : y.toInt = b) : x ≤ y ↔ a ≤ b := by rw [Int32.le_iff_toInt_le, hx, hy]
theorem cm_eq32 {x y : Int32} {a b : Int} (hx : x.toInt = a) (hy : y.toInt = b) : x = y ↔ a = b := by rw [← Int32.toInt_inj, hx, hy]
theorem cm_lt64 {x y : Int64} {a b : Int} (hx : x.toInt = a) (hy : y.toInt = b) : x < y ↔ a < b := by rw [Int64.lt_iff_toInt_lt, hx, hy]
theorem cm_eq64 {x y : Int64} {a b : Int} (hx : x.toInt = a) (hy : y.toInt = b) : x = y ↔ a = b := by rw [← Int64.toInt_inj, hx, hy]
theorem mmax32 {x y : Int32} {a b : Int} (hx : x.toInt = a) (hy : y.toInt = b) : (if x < y then y else x) = iI (max a b) := by
  by_cases h : a < b
  · rw [if_pos ((cm_lt32 hx hy).mpr h), show max a b = b by omega, ← hy]; exact iI_self y
  · rw [if_neg (fun q => h ((cm_lt32 hx hy).mp q)), show max a b = a by omega, ← hx]; exact iI_self x
theorem mmin32 {x y : Int32} {a b : Int} (hx : x.toInt = a) (hy : y.toInt = b) : (if y < x then y else x) = iI (min a b) := by
  by_cases h : b < a
  · rw [if_pos ((cm_lt32 hy hx).mpr h), show min a b = b by omega, ← hy]; exact iI_self y
  · rw [if_neg (fun q => h ((cm_lt32 hy hx).mp q)), show min a b = a by omega, ← hx]; exact iI_self x
theorem nI_ofI {x : Int32} (h : 0 ≤ x.toInt) : ∃ X : Nat, X < 2147483648 ∧ x = nI X ∧ (nI X).toInt = (X : Int) := by
  have h2 := iI_hi x
  have hb : x.toInt.toNat < 2147483648 := by omega
  have he : (nI x.toInt.toNat).toInt = (x.toInt.toNat : Int) := nI_t hb
  exact ⟨x.toInt.toNat, hb, iI_inj (by rw [he]; omega), he⟩
theorem kN_clamp {i : Int32} {k : Nat} (hi : i.toInt = (k : Int)) : i.toNatClampNeg = k := by
  show i.toInt.toNat = k
  rw [hi]
  exact Int.toNat_natCast k
theorem kN_in {i : Int32} {k n : Nat} (hi : i.toInt = (k : Int)) (hk : k < n) : vp_in i n := vp_in_iff.mpr (by rw [hi]; omega)
section KA
variable {p : Program} {l : Launch} {e : Env} {R : Room} {s : State} {m : MethodId} {args : Array Value} {below : List Frame} {meth : Method} {c : Code} {H : Heap} {locs : List Loc} {cells slots : Nat} {Q : State → Prop} {pc : Nat} {ls : Array Slot} {rest : List Value} {cc : ByteArray}
/-- another word for the top of the stack -/
theorem ka_i {x y : Int32} (h : x = y) (k : W p l e R s m args below meth c H locs cells slots Q (F0 m pc ls (.int y :: rest))) : W p l e R s m args below meth c H locs cells slots Q (F0 m pc ls (.int x :: rest)) := h ▸ k
theorem ka_l {x y : Int64} (h : x = y) (k : W p l e R s m args below meth c H locs cells slots Q (F0 m pc ls (.long y :: rest))) : W p l e R s m args below meth c H locs cells slots Q (F0 m pc ls (.long x :: rest)) := h ▸ k
theorem kb_clt {x y : Int32} {a b : Int} (hX : x.toInt = a) (hY : y.toInt = b) (hexec : p.tables.exec = Jvm.exec) (hb : c.code = cc) {off : Int} {tgt : Nat} (hdg : decode cc pc = .ok (.if_icmp .lt off, 3)) (ht : (pc : Int) + off = (tgt : Int)) (kt : a < b → W p l e R s m args below meth c H locs cells slots Q (F0 m tgt ls rest)) (kf : b ≤ a → W p l e R s m args below meth c H locs cells slots Q (F0 m (pc + 3) ls rest)) : W p l e R s m args below meth c H locs cells slots Q (F0 m pc ls (.int y :: .int x :: rest)) :=
  lv_icmp_lt hexec hb hdg ht (fun h => kt ((cm_lt32 hX hY).mp h)) (fun h => kf (Int.not_lt.mp ((not_congr (cm_lt32 hX hY)).mp h)))
theorem kb_cge {x y : Int32} {a b : Int} (hX : x.toInt = a) (hY : y.toInt = b) (hexec : p.tables.exec = Jvm.exec) (hb : c.code = cc) {off : Int} {tgt : Nat} (hdg : decode cc pc = .ok (.if_icmp .ge off, 3)) (ht : (pc : Int) + off = (tgt : Int)) (kt : b ≤ a → W p l e R s m args below meth c H locs cells slots Q (F0 m tgt ls rest)) (kf : a < b → W p l e R s m args below meth c H locs cells slots Q (F0 m (pc + 3) ls rest)) : W p l e R s m args below meth c H locs cells slots Q (F0 m pc ls (.int y :: .int x :: rest)) :=
  lv_icmp_ge hexec hb hdg ht (fun h => kt ((cm_le32 hY hX).mp h)) (fun h => kf (Int.not_le.mp ((not_congr (cm_le32 hY hX)).mp h)))
theorem kb_cgt {x y : Int32} {a b : Int} (hX : x.toInt = a) (hY : y.toInt = b) (hexec : p.tables.exec = Jvm.exec) (hb : c.code = cc) {off : Int} {tgt : Nat} (hdg : decode cc pc = .ok (.if_icmp .gt off, 3)) (ht : (pc : Int) + off = (tgt : Int)) (kt : b < a → W p l e R s m args below meth c H locs cells slots Q (F0 m tgt ls rest)) (kf : a ≤ b → W p l e R s m args below meth c H locs cells slots Q (F0 m (pc + 3) ls rest)) : W p l e R s m args below meth c H locs cells slots Q (F0 m pc ls (.int y :: .int x :: rest)) :=
  lv_icmp_gt hexec hb hdg ht (fun h => kt ((cm_lt32 hY hX).mp h)) (fun h => kf (Int.not_lt.mp ((not_congr (cm_lt32 hY hX)).mp h)))
theorem kb_cle {x y : Int32} {a b : Int} (hX : x.toInt = a) (hY : y.toInt = b) (hexec : p.tables.exec = Jvm.exec) (hb : c.code = cc) {off : Int} {tgt : Nat} (hdg : decode cc pc = .ok (.if_icmp .le off, 3)) (ht : (pc : Int) + off = (tgt : Int)) (kt : a ≤ b → W p l e R s m args below meth c H locs cells slots Q (F0 m tgt ls rest)) (kf : b < a → W p l e R s m args below meth c H locs cells slots Q (F0 m (pc + 3) ls rest)) : W p l e R s m args below meth c H locs cells slots Q (F0 m pc ls (.int y :: .int x :: rest)) :=
  lv_icmp_le hexec hb hdg ht (fun h => kt ((cm_le32 hX hY).mp h)) (fun h => kf (Int.not_le.mp ((not_congr (cm_le32 hX hY)).mp h)))
theorem kb_ceq {x y : Int32} {a b : Int} (hX : x.toInt = a) (hY : y.toInt = b) (hexec : p.tables.exec = Jvm.exec) (hb : c.code = cc) {off : Int} {tgt : Nat} (hdg : decode cc pc = .ok (.if_icmp .eq off, 3)) (ht : (pc : Int) + off = (tgt : Int)) (kt : a = b → W p l e R s m args below meth c H locs cells slots Q (F0 m tgt ls rest)) (kf : a ≠ b → W p l e R s m args below meth c H locs cells slots Q (F0 m (pc + 3) ls rest)) : W p l e R s m args below meth c H locs cells slots Q (F0 m pc ls (.int y :: .int x :: rest)) :=
  lv_icmp_eq hexec hb hdg ht (fun h => kt ((cm_eq32 hX hY).mp h)) (fun h => kf ((not_congr (cm_eq32 hX hY)).mp h))
theorem kb_cne {x y : Int32} {a b : Int} (hX : x.toInt = a) (hY : y.toInt = b) (hexec : p.tables.exec = Jvm.exec) (hb : c.code = cc) {off : Int} {tgt : Nat} (hdg : decode cc pc = .ok (.if_icmp .ne off, 3)) (ht : (pc : Int) + off = (tgt : Int)) (kt : a ≠ b → W p l e R s m args below meth c H locs cells slots Q (F0 m tgt ls rest)) (kf : a = b → W p l e R s m args below meth c H locs cells slots Q (F0 m (pc + 3) ls rest)) : W p l e R s m args below meth c H locs cells slots Q (F0 m pc ls (.int y :: .int x :: rest)) :=
  lv_icmp_ne hexec hb hdg ht (fun h => kt ((not_congr (cm_eq32 hX hY)).mp h)) (fun h => kf ((cm_eq32 hX hY).mp h))
theorem kb_lt {x : Int32} {a : Int} (hX : x.toInt = a) (hexec : p.tables.exec = Jvm.exec) (hb : c.code = cc) {off : Int} {tgt : Nat} (hdg : decode cc pc = .ok (.ifCond .lt off, 3)) (ht : (pc : Int) + off = (tgt : Int)) (kt : a < 0 → W p l e R s m args below meth c H locs cells slots Q (F0 m tgt ls rest)) (kf : 0 ≤ a → W p l e R s m args below meth c H locs cells slots Q (F0 m (pc + 3) ls rest)) : W p l e R s m args below meth c H locs cells slots Q (F0 m pc ls (.int x :: rest)) :=
  lv_if_lt hexec hb hdg ht (fun h => kt ((cm_lt32 hX i0_t).mp h)) (fun h => kf (Int.not_lt.mp ((not_congr (cm_lt32 hX i0_t)).mp h)))
theorem kb_ge {x : Int32} {a : Int} (hX : x.toInt = a) (hexec : p.tables.exec = Jvm.exec) (hb : c.code = cc) {off : Int} {tgt : Nat} (hdg : decode cc pc = .ok (.ifCond .ge off, 3)) (ht : (pc : Int) + off = (tgt : Int)) (kt : 0 ≤ a → W p l e R s m args below meth c H locs cells slots Q (F0 m tgt ls rest)) (kf : a < 0 → W p l e R s m args below meth c H locs cells slots Q (F0 m (pc + 3) ls rest)) : W p l e R s m args below meth c H locs cells slots Q (F0 m pc ls (.int x :: rest)) :=
  lv_if_ge hexec hb hdg ht (fun h => kt ((cm_le32 i0_t hX).mp h)) (fun h => kf (Int.not_le.mp ((not_congr (cm_le32 i0_t hX)).mp h)))
theorem kb_gt {x : Int32} {a : Int} (hX : x.toInt = a) (hexec : p.tables.exec = Jvm.exec) (hb : c.code = cc) {off : Int} {tgt : Nat} (hdg : decode cc pc = .ok (.ifCond .gt off, 3)) (ht : (pc : Int) + off = (tgt : Int)) (kt : 0 < a → W p l e R s m args below meth c H locs cells slots Q (F0 m tgt ls rest)) (kf : a ≤ 0 → W p l e R s m args below meth c H locs cells slots Q (F0 m (pc + 3) ls rest)) : W p l e R s m args below meth c H locs cells slots Q (F0 m pc ls (.int x :: rest)) :=
  lv_if_gt hexec hb hdg ht (fun h => kt ((cm_lt32 i0_t hX).mp h)) (fun h => kf (Int.not_lt.mp ((not_congr (cm_lt32 i0_t hX)).mp h)))
theorem kb_le {x : Int32} {a : Int} (hX : x.toInt = a) (hexec : p.tables.exec = Jvm.exec) (hb : c.code = cc) {off : Int} {tgt : Nat} (hdg : decode cc pc = .ok (.ifCond .le off, 3)) (ht : (pc : Int) + off = (tgt : Int)) (kt : a ≤ 0 → W p l e R s m args below meth c H locs cells slots Q (F0 m tgt ls rest)) (kf : 0 < a → W p l e R s m args below meth c H locs cells slots Q (F0 m (pc + 3) ls rest)) : W p l e R s m args below meth c H locs cells slots Q (F0 m pc ls (.int x :: rest)) :=
  lv_if_le hexec hb hdg ht (fun h => kt ((cm_le32 hX i0_t).mp h)) (fun h => kf (Int.not_le.mp ((not_congr (cm_le32 hX i0_t)).mp h)))
theorem kb_eq {x : Int32} {a : Int} (hX : x.toInt = a) (hexec : p.tables.exec = Jvm.exec) (hb : c.code = cc) {off : Int} {tgt : Nat} (hdg : decode cc pc = .ok (.ifCond .eq off, 3)) (ht : (pc : Int) + off = (tgt : Int)) (kt : a = 0 → W p l e R s m args below meth c H locs cells slots Q (F0 m tgt ls rest)) (kf : a ≠ 0 → W p l e R s m args below meth c H locs cells slots Q (F0 m (pc + 3) ls rest)) : W p l e R s m args below meth c H locs cells slots Q (F0 m pc ls (.int x :: rest)) :=
  lv_if_eq hexec hb hdg ht (fun h => kt ((cm_eq32 hX i0_t).mp h)) (fun h => kf ((not_congr (cm_eq32 hX i0_t)).mp h))
theorem kb_ne {x : Int32} {a : Int} (hX : x.toInt = a) (hexec : p.tables.exec = Jvm.exec) (hb : c.code = cc) {off : Int} {tgt : Nat} (hdg : decode cc pc = .ok (.ifCond .ne off, 3)) (ht : (pc : Int) + off = (tgt : Int)) (kt : a ≠ 0 → W p l e R s m args below meth c H locs cells slots Q (F0 m tgt ls rest)) (kf : a = 0 → W p l e R s m args below meth c H locs cells slots Q (F0 m (pc + 3) ls rest)) : W p l e R s m args below meth c H locs cells slots Q (F0 m pc ls (.int x :: rest)) :=
  lv_if_ne hexec hb hdg ht (fun h => kt ((not_congr (cm_eq32 hX i0_t)).mp h)) (fun h => kf ((cm_eq32 hX i0_t).mp h))
theorem kb_eqP {P : Prop} (hexec : p.tables.exec = Jvm.exec) (hb : c.code = cc) {off : Int} {tgt : Nat} (hdg : decode cc pc = .ok (.ifCond .eq off, 3)) (ht : (pc : Int) + off = (tgt : Int)) (kt : ¬ P → W p l e R s m args below meth c H locs cells slots Q (F0 m tgt ls rest)) (kf : P → W p l e R s m args below meth c H locs cells slots Q (F0 m (pc + 3) ls rest)) : W p l e R s m args below meth c H locs cells slots Q (F0 m pc ls (.int (pI P) :: rest)) :=
  lv_if_eq hexec hb hdg ht (fun h => kt (pI_0.mp h)) (fun h => kf (pI_n0.mp h))
theorem kb_neP {P : Prop} (hexec : p.tables.exec = Jvm.exec) (hb : c.code = cc) {off : Int} {tgt : Nat} (hdg : decode cc pc = .ok (.ifCond .ne off, 3)) (ht : (pc : Int) + off = (tgt : Int)) (kt : P → W p l e R s m args below meth c H locs cells slots Q (F0 m tgt ls rest)) (kf : ¬ P → W p l e R s m args below meth c H locs cells slots Q (F0 m (pc + 3) ls rest)) : W p l e R s m args below meth c H locs cells slots Q (F0 m pc ls (.int (pI P) :: rest)) :=
  lv_if_ne hexec hb hdg ht (fun h => kt (pI_n0.mp h)) (fun h => kf (pI_0.mp h))
theorem kb_ceqP {P P' : Prop} (hexec : p.tables.exec = Jvm.exec) (hb : c.code = cc) {off : Int} {tgt : Nat} (hdg : decode cc pc = .ok (.if_icmp .eq off, 3)) (ht : (pc : Int) + off = (tgt : Int)) (kt : (P ↔ P') → W p l e R s m args below meth c H locs cells slots Q (F0 m tgt ls rest)) (kf : ¬ (P ↔ P') → W p l e R s m args below meth c H locs cells slots Q (F0 m (pc + 3) ls rest)) : W p l e R s m args below meth c H locs cells slots Q (F0 m pc ls (.int (pI P') :: .int (pI P) :: rest)) :=
  lv_icmp_eq hexec hb hdg ht (fun h => kt (pI_inj.mp h)) (fun h => kf ((not_congr pI_inj).mp h))
end KA
/-- how two longs lie -/
def cmpI (a b : Int) : Int := if b < a then 1 else if a = b then 0 else -1
theorem cmpI_gt {a b : Int} : 0 < cmpI a b ↔ b < a := by
  unfold cmpI
  split
  · omega
  · split <;> omega
theorem cmpI_lt {a b : Int} : cmpI a b < 0 ↔ a < b := by
  unfold cmpI
  split
  · omega
  · split <;> omega
theorem cmpI_eq {a b : Int} : cmpI a b = 0 ↔ a = b := by
  unfold cmpI
  split
  · omega
  · split <;> omega
theorem cmpI_le {a b : Int} : cmpI a b ≤ 0 ↔ a ≤ b := by
  unfold cmpI
  split
  · omega
  · split <;> omega
theorem cmpI_ge {a b : Int} : 0 ≤ cmpI a b ↔ b ≤ a := by
  unfold cmpI
  split
  · omega
  · split <;> omega
theorem cmpI_t {x y : Int64} {a b : Int} (hx : x.toInt = a) (hy : y.toInt = b) : lg_cmp x y = iI (cmpI a b) := by
  unfold lg_cmp cmpI
  by_cases h1 : b < a
  · rw [if_pos ((cm_lt64 hy hx).mpr h1), if_pos h1]; rfl
  · rw [if_neg (fun h => h1 ((cm_lt64 hy hx).mp h)), if_neg h1]
    by_cases h2 : a = b
    · rw [if_pos ((cm_eq64 hx hy).mpr h2), if_pos h2]; rfl
    · rw [if_neg (fun h => h2 ((cm_eq64 hx hy).mp h)), if_neg h2]; rfl
section KB
variable {p : Program} {l : Launch} {e : Env} {R : Room} {s : State} {m : MethodId} {args : Array Value} {below : List Frame} {meth : Method} {c : Code} {H : Heap} {locs : List Loc} {cells slots : Nat} {Q : State → Prop} {pc : Nat} {ls : Array Slot} {rest st0 : List Value} {cc : ByteArray}
variable {D : va_G} {cl : List vw_C} {tys : List (ClassId × FieldType)} {ws : va_W} {a : Nat} {A : Nat → Prop} {H0 : Heap} {cA : ClassId} {n k : Nat} {i : Int32}
theorem ka_lcmp {x y : Int64} {a b : Int} (hX : x.toInt = a) (hY : y.toInt = b) (hexec : p.tables.exec = Jvm.exec) (hb : c.code = cc) (hdg : decode cc pc = .ok (.lcmp, 1)) (k : W p l e R s m args below meth c H locs cells slots Q (F0 m (pc + 1) ls (.int (iI (cmpI a b)) :: rest))) : W p l e R s m args below meth c H locs cells slots Q (F0 m pc ls (.long y :: .long x :: rest)) :=
  W.lcmp hexec hb hdg (by rw [cmpI_t hX hY]; exact k)
theorem ka_iald {f : Nat → Int32} (hi : i.toInt = (k : Int)) (hk : k < n) (hexec : p.tables.exec = Jvm.exec) (hb : c.code = cc) (hK : va_K D cl tys s) (hP : va_P D cl ws H) (q0 t0 : Nat) (ha : ws[q0]? = some (a, .inl (cA, n, .inl f))) (ht : tys[t0]? = some (cA, .int)) (hdg : decode cc pc = .ok (.iaload, 1))
    (kk : W p l e R s m args below meth c H locs cells slots Q (F0 m (pc + 1) ls (.int (f k) :: rest))) : W p l e R s m args below meth c H locs cells slots Q (F0 m pc ls (.int i :: .ref a :: rest)) := by
  refine va_iald hexec hb hK hP q0 t0 ha ht (kN_in hi hk) hdg ?_
  rw [kN_clamp hi]
  exact kk
theorem ka_zald {f : Nat → Int32} (hi : i.toInt = (k : Int)) (hk : k < n) (hexec : p.tables.exec = Jvm.exec) (hb : c.code = cc) (hK : va_K D cl tys s) (hP : va_P D cl ws H) (q0 t0 : Nat) (ha : ws[q0]? = some (a, .inl (cA, n, .inl f))) (ht : tys[t0]? = some (cA, .boolean)) (hdg : decode cc pc = .ok (.baload, 1))
    (kk : W p l e R s m args below meth c H locs cells slots Q (F0 m (pc + 1) ls (.int (f k) :: rest))) : W p l e R s m args below meth c H locs cells slots Q (F0 m pc ls (.int i :: .ref a :: rest)) := by
  refine va_zald hexec hb hK hP q0 t0 ha ht (kN_in hi hk) hdg ?_
  rw [kN_clamp hi]
  exact kk
theorem ka_lald {f : Nat → Int64} (hi : i.toInt = (k : Int)) (hk : k < n) (hexec : p.tables.exec = Jvm.exec) (hb : c.code = cc) (hK : va_K D cl tys s) (hP : va_P D cl ws H) (q0 t0 : Nat) (ha : ws[q0]? = some (a, .inl (cA, n, .inr (.inl f)))) (ht : tys[t0]? = some (cA, .long)) (hdg : decode cc pc = .ok (.laload, 1))
    (kk : W p l e R s m args below meth c H locs cells slots Q (F0 m (pc + 1) ls (.long (f k) :: rest))) : W p l e R s m args below meth c H locs cells slots Q (F0 m pc ls (.int i :: .ref a :: rest)) := by
  refine va_lald hexec hb hK hP q0 t0 ha ht (kN_in hi hk) hdg ?_
  rw [kN_clamp hi]
  exact kk
theorem ka_iast {f : Nat → Int32} {x : Int32} (hi : i.toInt = (k : Int)) (hk : k < n) (hexec : p.tables.exec = Jvm.exec) (hb : c.code = cc) (hK : va_K D cl tys s) (hP : va_P D cl ws H) (hD : va_D A ws) (hS : va_S A H0 H locs) (q0 t0 : Nat) (ha : ws[q0]? = some (a, .inl (cA, n, .inl f))) (ht : tys[t0]? = some (cA, .int)) (hdg : decode cc pc = .ok (.iastore, 1))
    (kk : ∀ (H1 : Heap) (locs1 : List Loc), va_P D cl (ws.set q0 (a, .inl (cA, n, .inl (upd f k x)))) H1 → va_D A (ws.set q0 (a, .inl (cA, n, .inl (upd f k x)))) → va_S A H0 H1 locs1 → W p l e R s m args below meth c H1 locs1 cells slots Q (F0 m (pc + 1) ls rest)) : W p l e R s m args below meth c H locs cells slots Q (F0 m pc ls (.int x :: .int i :: .ref a :: rest)) := by
  refine va_iast hexec hb hK hP hD hS q0 t0 ha ht (kN_in hi hk) hdg (fun H1 locs1 p1 d1 s1 => ?_)
  rw [kN_clamp hi] at p1 d1
  exact kk H1 locs1 p1 d1 s1
theorem ka_zast {f : Nat → Int32} {x : Int32} (hn : vp_nar .boolean x = x) (hi : i.toInt = (k : Int)) (hk : k < n) (hexec : p.tables.exec = Jvm.exec) (hb : c.code = cc) (hK : va_K D cl tys s) (hP : va_P D cl ws H) (hD : va_D A ws) (hS : va_S A H0 H locs) (q0 t0 : Nat) (ha : ws[q0]? = some (a, .inl (cA, n, .inl f))) (ht : tys[t0]? = some (cA, .boolean)) (hdg : decode cc pc = .ok (.bastore, 1))
    (kk : ∀ (H1 : Heap) (locs1 : List Loc), va_P D cl (ws.set q0 (a, .inl (cA, n, .inl (upd f k x)))) H1 → va_D A (ws.set q0 (a, .inl (cA, n, .inl (upd f k x)))) → va_S A H0 H1 locs1 → W p l e R s m args below meth c H1 locs1 cells slots Q (F0 m (pc + 1) ls rest)) : W p l e R s m args below meth c H locs cells slots Q (F0 m pc ls (.int x :: .int i :: .ref a :: rest)) := by
  refine va_zast hexec hb hK hP hD hS q0 t0 ha ht (kN_in hi hk) hdg (fun H1 locs1 p1 d1 s1 => ?_)
  rw [kN_clamp hi, hn] at p1 d1
  exact kk H1 locs1 p1 d1 s1
theorem ka_last {f : Nat → Int64} {x : Int64} (hi : i.toInt = (k : Int)) (hk : k < n) (hexec : p.tables.exec = Jvm.exec) (hb : c.code = cc) (hK : va_K D cl tys s) (hP : va_P D cl ws H) (hD : va_D A ws) (hS : va_S A H0 H locs) (q0 t0 : Nat) (ha : ws[q0]? = some (a, .inl (cA, n, .inr (.inl f)))) (ht : tys[t0]? = some (cA, .long)) (hdg : decode cc pc = .ok (.lastore, 1))
    (kk : ∀ (H1 : Heap) (locs1 : List Loc), va_P D cl (ws.set q0 (a, .inl (cA, n, .inr (.inl (vp_updL f k x))))) H1 → va_D A (ws.set q0 (a, .inl (cA, n, .inr (.inl (vp_updL f k x))))) → va_S A H0 H1 locs1 → W p l e R s m args below meth c H1 locs1 cells slots Q (F0 m (pc + 1) ls rest)) : W p l e R s m args below meth c H locs cells slots Q (F0 m pc ls (.long x :: .int i :: .ref a :: rest)) := by
  refine va_last hexec hb hK hP hD hS q0 t0 ha ht (kN_in hi hk) hdg (fun H1 locs1 p1 d1 s1 => ?_)
  rw [kN_clamp hi] at p1 d1
  exact kk H1 locs1 p1 d1 s1
end KB
theorem upd_nI (F : Nat → Nat) (k v : Nat) : upd (fun j => nI (F j)) k (nI v) = fun j => nI (va_up F k v j) := by
  funext j
  unfold upd va_up
  split <;> rfl
theorem upd_iI (F : Nat → Int) (k : Nat) (v : Int) : upd (fun j => iI (F j)) k (iI v) = fun j => iI (va_up F k v j) := by
  funext j
  unfold upd va_up
  split <;> rfl
theorem upd_pI (F : Nat → Prop) (k : Nat) (v : Prop) : upd (fun j => pI (F j)) k (pI v) = fun j => pI (va_up F k v j) := by
  funext j
  unfold upd va_up
  split <;> rfl
theorem upd_lI (F : Nat → Int) (k : Nat) (v : Int) : vp_updL (fun j => lI (F j)) k (lI v) = fun j => lI (va_up F k v j) := by
  funext j
  unfold vp_updL va_up
  split <;> rfl
section KD
variable {p : Program} {l : Launch} {e : Env} {R : Room} {s : State} {m : MethodId} {args : Array Value} {below : List Frame} {meth : Method} {c : Code} {H : Heap} {locs : List Loc} {cells slots : Nat} {Q : State → Prop} {pc : Nat} {ls : Array Slot} {rest st0 : List Value} {cc : ByteArray}
variable {D : va_G} {cl : List vw_C} {tys : List (ClassId × FieldType)} {ws : va_W} {a : Nat} {A : Nat → Prop} {H0 : Heap} {cA : ClassId} {n k : Nat} {i : Int32}
theorem ka_iastN {F : Nat → Nat} {v : Nat} (hi : i.toInt = (k : Int)) (hk : k < n) (hexec : p.tables.exec = Jvm.exec) (hb : c.code = cc) (hK : va_K D cl tys s) (hP : va_P D cl ws H) (hD : va_D A ws) (hS : va_S A H0 H locs) (q0 t0 : Nat) (ha : ws[q0]? = some (a, .inl (cA, n, .inl (fun j => nI (F j))))) (ht : tys[t0]? = some (cA, .int)) (hdg : decode cc pc = .ok (.iastore, 1))
    (kk : ∀ (H1 : Heap) (locs1 : List Loc), va_P D cl (ws.set q0 (a, .inl (cA, n, .inl (fun j => nI (va_up F k v j))))) H1 → va_D A (ws.set q0 (a, .inl (cA, n, .inl (fun j => nI (va_up F k v j))))) → va_S A H0 H1 locs1 → W p l e R s m args below meth c H1 locs1 cells slots Q (F0 m (pc + 1) ls rest)) : W p l e R s m args below meth c H locs cells slots Q (F0 m pc ls (.int (nI v) :: .int i :: .ref a :: rest)) := by
  refine ka_iast hi hk hexec hb hK hP hD hS q0 t0 ha ht hdg (fun H1 locs1 p1 d1 s1 => ?_)
  rw [upd_nI] at p1 d1
  exact kk H1 locs1 p1 d1 s1
theorem ka_iastI {F : Nat → Int} {v : Int} (hi : i.toInt = (k : Int)) (hk : k < n) (hexec : p.tables.exec = Jvm.exec) (hb : c.code = cc) (hK : va_K D cl tys s) (hP : va_P D cl ws H) (hD : va_D A ws) (hS : va_S A H0 H locs) (q0 t0 : Nat) (ha : ws[q0]? = some (a, .inl (cA, n, .inl (fun j => iI (F j))))) (ht : tys[t0]? = some (cA, .int)) (hdg : decode cc pc = .ok (.iastore, 1))
    (kk : ∀ (H1 : Heap) (locs1 : List Loc), va_P D cl (ws.set q0 (a, .inl (cA, n, .inl (fun j => iI (va_up F k v j))))) H1 → va_D A (ws.set q0 (a, .inl (cA, n, .inl (fun j => iI (va_up F k v j))))) → va_S A H0 H1 locs1 → W p l e R s m args below meth c H1 locs1 cells slots Q (F0 m (pc + 1) ls rest)) : W p l e R s m args below meth c H locs cells slots Q (F0 m pc ls (.int (iI v) :: .int i :: .ref a :: rest)) := by
  refine ka_iast hi hk hexec hb hK hP hD hS q0 t0 ha ht hdg (fun H1 locs1 p1 d1 s1 => ?_)
  rw [upd_iI] at p1 d1
  exact kk H1 locs1 p1 d1 s1
theorem ka_zastP {F : Nat → Prop} {v : Prop} (hi : i.toInt = (k : Int)) (hk : k < n) (hexec : p.tables.exec = Jvm.exec) (hb : c.code = cc) (hK : va_K D cl tys s) (hP : va_P D cl ws H) (hD : va_D A ws) (hS : va_S A H0 H locs) (q0 t0 : Nat) (ha : ws[q0]? = some (a, .inl (cA, n, .inl (fun j => pI (F j))))) (ht : tys[t0]? = some (cA, .boolean)) (hdg : decode cc pc = .ok (.bastore, 1))
    (kk : ∀ (H1 : Heap) (locs1 : List Loc), va_P D cl (ws.set q0 (a, .inl (cA, n, .inl (fun j => pI (va_up F k v j))))) H1 → va_D A (ws.set q0 (a, .inl (cA, n, .inl (fun j => pI (va_up F k v j))))) → va_S A H0 H1 locs1 → W p l e R s m args below meth c H1 locs1 cells slots Q (F0 m (pc + 1) ls rest)) : W p l e R s m args below meth c H locs cells slots Q (F0 m pc ls (.int (pI v) :: .int i :: .ref a :: rest)) := by
  refine ka_zast (pI_nar v) hi hk hexec hb hK hP hD hS q0 t0 ha ht hdg (fun H1 locs1 p1 d1 s1 => ?_)
  rw [upd_pI] at p1 d1
  exact kk H1 locs1 p1 d1 s1
theorem ka_lastI {F : Nat → Int} {v : Int} (hi : i.toInt = (k : Int)) (hk : k < n) (hexec : p.tables.exec = Jvm.exec) (hb : c.code = cc) (hK : va_K D cl tys s) (hP : va_P D cl ws H) (hD : va_D A ws) (hS : va_S A H0 H locs) (q0 t0 : Nat) (ha : ws[q0]? = some (a, .inl (cA, n, .inr (.inl (fun j => lI (F j)))))) (ht : tys[t0]? = some (cA, .long)) (hdg : decode cc pc = .ok (.lastore, 1))
    (kk : ∀ (H1 : Heap) (locs1 : List Loc), va_P D cl (ws.set q0 (a, .inl (cA, n, .inr (.inl (fun j => lI (va_up F k v j)))))) H1 → va_D A (ws.set q0 (a, .inl (cA, n, .inr (.inl (fun j => lI (va_up F k v j)))))) → va_S A H0 H1 locs1 → W p l e R s m args below meth c H1 locs1 cells slots Q (F0 m (pc + 1) ls rest)) : W p l e R s m args below meth c H locs cells slots Q (F0 m pc ls (.long (lI v) :: .int i :: .ref a :: rest)) := by
  refine ka_last hi hk hexec hb hK hP hD hS q0 t0 ha ht hdg (fun H1 locs1 p1 d1 s1 => ?_)
  rw [upd_lI] at p1 d1
  exact kk H1 locs1 p1 d1 s1
end KD
