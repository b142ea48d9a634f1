/-- the class's state -/
def SgS : Type := Nat × Nat × Prop × Prop × (Nat → Prop) × (Nat → Nat) × (Nat → Nat) × (Nat → Nat) × Nat × (Nat → Nat) × (Nat → Nat) × (Nat → Nat) × (Nat → Nat) × Nat × (Nat → Int) × (Nat → Nat) × (Nat → Int) × (Nat → Int) × Nat × Nat × Nat × Int × Nat × (Nat → Nat) × (Nat → Nat) × (Nat → Nat)
def SgS.kf (t : SgS) : Nat := t.1
def SgS.side (t : SgS) : Nat := t.2.1
def SgS.sw (t : SgS) : Prop := t.2.2.1
def SgS.sm (t : SgS) : Prop := t.2.2.2.1
def SgS.IN (t : SgS) : Nat → Prop := t.2.2.2.2.1
def SgS.LO (t : SgS) : Nat → Nat := t.2.2.2.2.2.1
def SgS.F3 (t : SgS) : Nat → Nat := t.2.2.2.2.2.2.1
def SgS.F4 (t : SgS) : Nat → Nat := t.2.2.2.2.2.2.2.1
def SgS.cn (t : SgS) : Nat := t.2.2.2.2.2.2.2.2.1
def SgS.th (t : SgS) : Nat → Nat := t.2.2.2.2.2.2.2.2.2.1
def SgS.wi (t : SgS) : Nat → Nat := t.2.2.2.2.2.2.2.2.2.2.1
def SgS.wo (t : SgS) : Nat → Nat := t.2.2.2.2.2.2.2.2.2.2.2.1
def SgS.wn (t : SgS) : Nat → Nat := t.2.2.2.2.2.2.2.2.2.2.2.2.1
def SgS.tn (t : SgS) : Nat := t.2.2.2.2.2.2.2.2.2.2.2.2.2.1
def SgS.RR (t : SgS) : Nat → Int := t.2.2.2.2.2.2.2.2.2.2.2.2.2.2.1
def SgS.TR (t : SgS) : Nat → Nat := t.2.2.2.2.2.2.2.2.2.2.2.2.2.2.2.1
def SgS.RC (t : SgS) : Nat → Int := t.2.2.2.2.2.2.2.2.2.2.2.2.2.2.2.2.1
def SgS.SC (t : SgS) : Nat → Int := t.2.2.2.2.2.2.2.2.2.2.2.2.2.2.2.2.2.1
def SgS.pt (t : SgS) : Nat := t.2.2.2.2.2.2.2.2.2.2.2.2.2.2.2.2.2.2.1
def SgS.psl (t : SgS) : Nat := t.2.2.2.2.2.2.2.2.2.2.2.2.2.2.2.2.2.2.2.1
def SgS.pc_ (t : SgS) : Nat := t.2.2.2.2.2.2.2.2.2.2.2.2.2.2.2.2.2.2.2.2.1
def SgS.pv (t : SgS) : Int := t.2.2.2.2.2.2.2.2.2.2.2.2.2.2.2.2.2.2.2.2.2.1
def SgS.pce (t : SgS) : Nat := t.2.2.2.2.2.2.2.2.2.2.2.2.2.2.2.2.2.2.2.2.2.2.1
def SgS.g1 (t : SgS) : Nat → Nat := t.2.2.2.2.2.2.2.2.2.2.2.2.2.2.2.2.2.2.2.2.2.2.2.1
def SgS.g2 (t : SgS) : Nat → Nat := t.2.2.2.2.2.2.2.2.2.2.2.2.2.2.2.2.2.2.2.2.2.2.2.2.1
def SgS.g3 (t : SgS) : Nat → Nat := t.2.2.2.2.2.2.2.2.2.2.2.2.2.2.2.2.2.2.2.2.2.2.2.2.2
/-- what holds of it between calls -/
def sgI (t : SgS) : Prop := (1 ≤ t.side) ∧ (t.side ≤ 20) ∧ (t.kf ≤ 4) ∧ (t.tn ≤ 1) ∧ (t.cn ≤ 8) ∧ (∀ k, k < 8 → t.th k ≤ 20) ∧ (∀ k, k < 8 → t.wi k ≤ 20) ∧ (∀ k, k < t.cn → 1 ≤ t.wi k) ∧ (∀ k, k < 8 → t.wo k ≤ 100000) ∧ (∀ k, k < 8 → t.wn k ≤ 400) ∧ ((∀ X, X ≤ t.side → t.F3 X = 0) ∧ ∀ Y, Y ≤ t.side → t.F3 (Y * (t.side + 1)) = 0) ∧ ((∀ X, X ≤ t.side → t.F4 X = 0) ∧ ∀ Y, Y ≤ t.side → t.F4 (Y * (t.side + 1)) = 0) ∧ (t.sm → ∀ X Y, X ≤ t.side → Y ≤ t.side → t.F3 (Y * (t.side + 1) + X) = psm (fbare t.side t.IN) X Y) ∧ (t.sm → ∀ X Y, X ≤ t.side → Y ≤ t.side → t.F4 (Y * (t.side + 1) + X) = psm (floss t.side t.LO) X Y) ∧ (∀ k, k < t.side * t.side → t.LO k ≤ 10000) ∧ (t.RR t.side = 0) ∧ (t.RC t.side = 0) ∧ (t.sw → t.sm) ∧ (t.pc_ ≤ t.side * t.side) ∧ (∀ k, k < t.pc_ → t.g1 k < 8) ∧ (∀ k, k < t.pc_ → t.g2 k ≤ 20) ∧ (∀ k, k < t.pc_ → t.g3 k ≤ 20) ∧ (t.pt ≤ 1) ∧ (t.pce ≤ 400000) ∧ (0 ≤ t.pv ∧ t.pv ≤ 100001 * (t.pc_ : Int)) ∧ (t.psl ≤ 20)
theorem sgI.s1 {t : SgS} (h : sgI t) : 1 ≤ t.side := h.1
theorem sgI.s2 {t : SgS} (h : sgI t) : t.side ≤ 20 := h.2.1
theorem sgI.k4 {t : SgS} (h : sgI t) : t.kf ≤ 4 := h.2.2.1
theorem sgI.tn1 {t : SgS} (h : sgI t) : t.tn ≤ 1 := h.2.2.2.1
theorem sgI.n8 {t : SgS} (h : sgI t) : t.cn ≤ 8 := h.2.2.2.2.1
theorem sgI.ht {t : SgS} (h : sgI t) : ∀ k, k < 8 → t.th k ≤ 20 := h.2.2.2.2.2.1
theorem sgI.hw {t : SgS} (h : sgI t) : ∀ k, k < 8 → t.wi k ≤ 20 := h.2.2.2.2.2.2.1
theorem sgI.hw1 {t : SgS} (h : sgI t) : ∀ k, k < t.cn → 1 ≤ t.wi k := h.2.2.2.2.2.2.2.1
theorem sgI.ho {t : SgS} (h : sgI t) : ∀ k, k < 8 → t.wo k ≤ 100000 := h.2.2.2.2.2.2.2.2.1
theorem sgI.hn {t : SgS} (h : sgI t) : ∀ k, k < 8 → t.wn k ≤ 400 := h.2.2.2.2.2.2.2.2.2.1
theorem sgI.e3 {t : SgS} (h : sgI t) : (∀ X, X ≤ t.side → t.F3 X = 0) ∧ ∀ Y, Y ≤ t.side → t.F3 (Y * (t.side + 1)) = 0 := h.2.2.2.2.2.2.2.2.2.2.1
theorem sgI.e4 {t : SgS} (h : sgI t) : (∀ X, X ≤ t.side → t.F4 X = 0) ∧ ∀ Y, Y ≤ t.side → t.F4 (Y * (t.side + 1)) = 0 := h.2.2.2.2.2.2.2.2.2.2.2.1
theorem sgI.m3 {t : SgS} (h : sgI t) : t.sm → ∀ X Y, X ≤ t.side → Y ≤ t.side → t.F3 (Y * (t.side + 1) + X) = psm (fbare t.side t.IN) X Y := h.2.2.2.2.2.2.2.2.2.2.2.2.1
theorem sgI.m4 {t : SgS} (h : sgI t) : t.sm → ∀ X Y, X ≤ t.side → Y ≤ t.side → t.F4 (Y * (t.side + 1) + X) = psm (floss t.side t.LO) X Y := h.2.2.2.2.2.2.2.2.2.2.2.2.2.1
theorem sgI.hL {t : SgS} (h : sgI t) : ∀ k, k < t.side * t.side → t.LO k ≤ 10000 := h.2.2.2.2.2.2.2.2.2.2.2.2.2.2.1
theorem sgI.hRR0 {t : SgS} (h : sgI t) : t.RR t.side = 0 := h.2.2.2.2.2.2.2.2.2.2.2.2.2.2.2.1
theorem sgI.hR0 {t : SgS} (h : sgI t) : t.RC t.side = 0 := h.2.2.2.2.2.2.2.2.2.2.2.2.2.2.2.2.1
theorem sgI.hsm {t : SgS} (h : sgI t) : t.sw → t.sm := h.2.2.2.2.2.2.2.2.2.2.2.2.2.2.2.2.2.1
theorem sgI.hpc {t : SgS} (h : sgI t) : t.pc_ ≤ t.side * t.side := h.2.2.2.2.2.2.2.2.2.2.2.2.2.2.2.2.2.2.1
theorem sgI.g8 {t : SgS} (h : sgI t) : ∀ k, k < t.pc_ → t.g1 k < 8 := h.2.2.2.2.2.2.2.2.2.2.2.2.2.2.2.2.2.2.2.1
theorem sgI.gx {t : SgS} (h : sgI t) : ∀ k, k < t.pc_ → t.g2 k ≤ 20 := h.2.2.2.2.2.2.2.2.2.2.2.2.2.2.2.2.2.2.2.2.1
theorem sgI.gy {t : SgS} (h : sgI t) : ∀ k, k < t.pc_ → t.g3 k ≤ 20 := h.2.2.2.2.2.2.2.2.2.2.2.2.2.2.2.2.2.2.2.2.2.1
theorem sgI.hpt {t : SgS} (h : sgI t) : t.pt ≤ 1 := h.2.2.2.2.2.2.2.2.2.2.2.2.2.2.2.2.2.2.2.2.2.2.1
theorem sgI.hce {t : SgS} (h : sgI t) : t.pce ≤ 400000 := h.2.2.2.2.2.2.2.2.2.2.2.2.2.2.2.2.2.2.2.2.2.2.2.1
theorem sgI.hpv {t : SgS} (h : sgI t) : 0 ≤ t.pv ∧ t.pv ≤ 100001 * (t.pc_ : Int) := h.2.2.2.2.2.2.2.2.2.2.2.2.2.2.2.2.2.2.2.2.2.2.2.2.1
theorem sgI.hpsl {t : SgS} (h : sgI t) : t.psl ≤ 20 := h.2.2.2.2.2.2.2.2.2.2.2.2.2.2.2.2.2.2.2.2.2.2.2.2.2
theorem va_P_grow {D : va_G} {cl : List vw_C} {ws : va_W} {H H1 : Heap} (h : ∀ q : Nat, q < H.size → H1[q]? = H[q]?) (hP : va_P D cl ws H) : va_P D cl ws H1 := fun k q hk => (hP k q hk).kept (h _ (hP k q hk).lt)
theorem va_S_grow {A : Nat → Prop} {H0 H H1 : Heap} {locs : List Loc} (g : H.size ≤ H1.size) (h : ∀ q : Nat, q < H.size → H1[q]? = H[q]?) (hS : va_S A H0 H locs) : va_S A H0 H1 locs :=
  ⟨Nat.le_trans hS.1 g, fun q hq hn => (h q (Nat.lt_of_lt_of_le hq hS.1)).trans (hS.2.1 q hq hn), hS.2.2⟩
theorem asg_self (vm : Vm) (c : ClassId) : vm.assignable c c = true := by
  unfold Vm.assignable
  rw [Vm.assignableAux]
  simp
/-- exceptions that aren't kinds of one another -/
def exNo : List (String × String) := [("java/lang/IllegalArgumentException", "java/lang/IndexOutOfBoundsException"), ("java/lang/IllegalStateException", "java/lang/IllegalArgumentException"), ("java/lang/IndexOutOfBoundsException", "java/lang/IllegalStateException")]
def kN (U : State) : Prop := ∀ q ∈ exNo, ∀ c d : ClassId, U.vm.findClass q.1 = some c → U.vm.findClass q.2 = some d → U.vm.assignable c d = false
theorem kN_alike {s U : State} (h : s.vm.Alike U.vm) (hn : kN s) : kN U := fun q hq c d hc hd => by
  rw [h.findClass] at hc hd
  rw [h.assignable]
  exact hn q hq c d hc hd
def exE (q : Nat × Nat × Nat × Nat) : ExceptionTableEntry := ⟨q.1, q.2.1, q.2.2.1, q.2.2.2⟩
theorem tbl_of {p : Program} {l : Launch} {y : MethodName} {ws : List Cond} {rm : Room} {cc : ByteArray} {maxL : Nat} {ret : Option FieldType} {hh : List (Nat × Nat × Nat × Nat)} {e : Env} {s : State} {m : MethodId} {args : Array Value} {below : List Frame} {meth : Method} {c : Code} {s₁ : State}
    (B : BodyLoose p l y (headSpec ws rm) cc maxL ret e s m args below meth c s₁) (hin : Cond.codeWith y cc maxL ret hh ∈ ws) : c.exceptionTable.toList = hh.map exE := by
  obtain ⟨m9, meth9, c9, hn9, h1, h2, -, -, h5, -⟩ := Cond.codeWith_spec (atoms_spec (ws := ws) B.pre _ hin)
  cases B.named.symm.trans hn9
  cases B.method.symm.trans h1
  cases (Stand.of_body B).code.symm.trans h2
  rw [← h5, List.map_map]
  exact (List.map_id _).symm
section XS
variable {p : Program} {l : Launch} {e : Env} {R : Room} {s : State} {m : MethodId} {args : Array Value} {below : List Frame} {meth : Method} {c : Code} {H : Heap} {locs : List Loc} {cells slots : Nat} {Q : State → Prop}
/-- a callee throws, and the row of its own class takes it -/
theorem xt_caughtS {own cls : String} {pc : Nat} {ls : Array Slot} {st0 rest : List Value} {av : Array Value} (hr : xt_Run p l e R s m args below meth c H locs cells slots 1 6 (F0 m pc ls st0) rest (xE cls av) (fun _ => False)) (hown : s.vm.findClass own = some m.cls)
    (pre : List ExceptionTableEntry) (x : ExceptionTableEntry) (suf : List ExceptionTableEntry) (hsplit : c.exceptionTable.toList = pre ++ x :: suf) (hN : kN s)
    (hno : ∀ z ∈ pre, z.catchType ≠ 0 ∧ ∃ nm : String, (Cond.classLink own z.catchType nm).before args s = true ∧ (cls, nm) ∈ exNo) (hx : covers x pc = true) (h0 : x.catchType ≠ 0) (hlink : (Cond.classLink own x.catchType cls).before args s = true)
    (kk : ∀ (a : Addr) (H1 : Heap), H.size ≤ H1.size → (∀ q : Nat, q < H.size → H1[q]? = H[q]?) → W p l e R s m args below meth c H1 locs (cells + 1) (slots + 6) Q (F0 m x.handlerPc ls [.ref a])) : W p l e R s m args below meth c H locs cells slots Q (F0 m pc ls st0) := by
  intro T hT X
  obtain ⟨a, st₀, t, T', L, h9, X', hL, e1, e2, ⟨⟨ce, c1, c2, c3⟩, f1, f2⟩, st⟩ := hr T hT X
  have X2 : Stand p l e R s m args below meth c T' locs (cells + 1) (slots + 6) := Stand.forget X' (fun q h => (hL q h).elim)
  rw [h9, ← e1] at f1 f2
  have hal : s.vm.Alike T'.vm := X2.warmed.alike
  have hcl : s.vm.findClass cls = some ce.cls := by rw [← hal.findClass, e2]; exact c3
  have key := xt_catch (p := p) (l := l) (e := e) (R := R) (s := s) (m := m) (args := args) (below := below) (meth := meth) (c := c) (H := T'.heap) (locs := locs) (cells := cells + 1) (slots := slots + 6) (Q := Q) (pc := pc) (ls := ls) (st := rest) (a := a) (cell := ce) hown pre x suf hsplit
    (fun z hz => by
      obtain ⟨z0, nm, hl1, hn1⟩ := hno z hz
      exact Or.inr ⟨z0, nm, hl1, fun k hk => hN _ hn1 _ _ hcl hk⟩) hx h0 hlink (fun k hk => by
      cases Option.some.inj (hcl.symm.trans hk)
      exact asg_self _ _) (by rw [e1]; exact c1) (by rw [c2]; rfl) (by obtain ⟨k9, h8, -⟩ := Vm.findClass_spec hcl; exact ⟨k9, h8⟩) (kk a T'.heap f1 f2)
  obtain ⟨t2, a1, b1⟩ := key T' rfl X2
  exact ⟨t2, st.trans a1, b1⟩
end XS
abbrev kBT (D : va_G) (cl : List vw_C) (tys : List (ClassId × FieldType)) (sz : Nat) (ws : va_W) (U : State) : Prop := kB D cl tys sz ws U ∧ kT U ∧ kN U
theorem kBT_blind {D : va_G} {cl : List vw_C} {tys : List (ClassId × FieldType)} {sz : Nat} {ws : va_W} {av : List Value} : FrameBlind (va_Pc av (kBT D cl tys sz ws)) := fun a U g mk q => by
  obtain ⟨q0, ⟨q1, qP, qK, qD, qZ⟩, qT, qN⟩ := q
  exact ⟨q0, ⟨q1, qP, va_K.moved (u := U) (U := U.calling g mk a) (Vm.Alike.refl U.vm) qK, qD, kZ_same (u := U) (U := U.calling g mk a) rfl qZ⟩, kT_same (u := U) (U := U.calling g mk a) rfl rfl qT, kN_alike (s := U) (U := U.calling g mk a) (Vm.Alike.refl U.vm) qN⟩
theorem kBT_at {D : va_G} {cl : List vw_C} {tys : List (ClassId × FieldType)} {ws wc : va_W} {av : List Value} {s : State} {H : Heap} {A : Nat → Prop} (hP : va_P D cl ws H) (hD : va_D A ws) (hK : va_K D cl tys s) (hZ : kZ s) (hN : kN s) (hT : ∀ U : State, U.heap = H → s.WarmedH U.vm → kT U) (isC : List Nat) (hC : isC.map (fun i => ws[i]?) = wc.map some) (hn : va_nd isC = true) (hf : isC.filterMap (fun i => ws[i]?) = wc) : ∀ U : State, U.heap = H → s.WarmedH U.vm → va_Pc av (kBT D cl tys H.size wc) av.toArray U :=
  fun U hU hW => ⟨rfl, (kB_at (av := av) hP hD hK hZ isC hC hn hf U hU hW).2, hT U hU hW, kN_alike hW.alike hN⟩
/-- what throws stays where the cells of statics do -/
theorem lays_warm2 {C n d : String} {s U : State} (hal : s.vm.Alike U.vm) (hh : ∀ (q : Nat) (ce : Cell), s.heap[q]? = some ce → ce.vm.isStatics = true → U.heap[q]? = s.heap[q]?) (h : (Cond.laysStatic C n d).before #[] s = true) : (Cond.laysStatic C n d).before #[] U = true := by
  obtain ⟨c, k, i, f, a, cell, hc, hi, hst, ha, hcell, hs, hcls, hlt, hty⟩ := Cond.laysStatic_spec h
  obtain ⟨k', hi', he⟩ := State.fieldFound?_setVm hal hi
  have hcU : U.vm.findClass C = some c := by rw [hal.findClass]; exact hc
  have hcell' : U.heap[a]? = some cell := by rw [hh a cell hcell (by rw [hs])]; exact hcell
  have hst' : k'.statics = some a := by rw [he]; exact ha
  have hty' : k'.staticTypes[f.slot]? = some f.type := by rw [he]; exact hty
  have hi2 : U.fieldFound? C n d = some (c, k', i, f) := hi'
  simp [Cond.before, Cond.holds, Cond.value, hcU, hi2, hst', hcell', hs, hcls, hlt, hty', hst]
theorem isRef_warm2 {C n d : String} {s U : State} (hal : s.vm.Alike U.vm) (hh : ∀ (q : Nat) (ce : Cell), s.heap[q]? = some ce → ce.vm.isStatics = true → U.heap[q]? = s.heap[q]?) (hl : (Cond.laysStatic C n d).before #[] s = true) (h : (Cond.isRef (.static C n d)).before #[] s = true) : (Cond.isRef (.static C n d)).before #[] U = true := by
  obtain ⟨c, k, i, f, a, cell, hc, hi, hst, ha, hcell, hs, hcls, hlt, hty⟩ := Cond.laysStatic_spec hl
  obtain ⟨k', hi', he⟩ := State.fieldFound?_setVm hal hi
  have hcell' : U.heap[a]? = some cell := by rw [hh a cell hcell (by rw [hs])]; exact hcell
  have hst' : k'.statics = some a := by rw [he]; exact ha
  have hi2 : U.fieldFound? C n d = some (c, k', i, f) := hi'
  cases hv : (Term.static C n d).eval #[] s none [] s with
  | none => simp [Cond.before, Cond.holds, Cond.value, hv] at h
  | some v =>
    obtain ⟨hst2, a', cell2, ha', hcell2, hs2, hslot⟩ := Term.static_spec hi hv
    cases ha.symm.trans ha'
    cases hcell.symm.trans hcell2
    have e : (Term.static C n d).eval #[] U none [] U = some v := by simp [Term.eval, State.fieldNamed?, hi2, hst2, hst', hcell', hs, hslot]
    simp only [Cond.before, Cond.holds, Cond.value, hv, e] at h ⊢
    exact h
theorem thH_warm2 {w : Cond} (h : w ∈ thH) {s U : State} (hW : s.WarmedH U.vm) (hh : ∀ (q : Nat) (ce : Cell), s.heap[q]? = some ce → ce.vm.isStatics = true → U.heap[q]? = s.heap[q]?) (ht : ∀ w ∈ thW, w.before #[] s = true) (hb : w.before #[] s = true) : w.before #[] U = true := by
  simp only [thH, List.mem_cons, List.not_mem_nil, or_false] at h
  rcases h with rfl | rfl | rfl | rfl
  · exact isRef_warm2 hW.alike hh (ht _ (by decide +kernel)) hb
  · exact isRef_warm2 hW.alike hh (ht _ (by decide +kernel)) hb
  · exact lays_warm2 hW.alike hh hb
  · exact lays_warm2 hW.alike hh hb
theorem kT_warm2 {s U : State} (hW : s.WarmedH U.vm) (hh : ∀ (q : Nat) (ce : Cell), s.heap[q]? = some ce → ce.vm.isStatics = true → U.heap[q]? = s.heap[q]?) (h : kT s) : kT U := ⟨fun w hw => by
  rcases isCast_ot w hw with h1 | h1 | ⟨a, b, rfl⟩ | ⟨x, rfl⟩
  · exact word_at hW (good_of_word h1) (h.1 w hw)
  · exact thH_warm2 h1 hW hh h.1 (h.1 w hw)
  · exact va_Nw.warmC hW (h.1 _ hw)
  · exact va_Nw.warmD hW (h.1 _ hw), fun t ht => by
  obtain ⟨a, ha⟩ := h.2 t ht
  exact ⟨a, vk_R.warm hW ha⟩⟩
/-- an Int32 that isn't negative -/
def zN (x : Int32) : Nat := x.toInt.toNat
theorem zN_eq {x : Int32} (h : 0 ≤ x.toInt) : x = nI (zN x) ∧ ((zN x : Nat) : Int) = x.toInt := by
  have h2 := iI_hi x
  have e : ((zN x : Nat) : Int) = x.toInt := by unfold zN; omega
  refine ⟨iI_inj ?_, e⟩
  rw [nI_t (by omega), e]
/-! what is told -/

def sgCell (t : SgS) (k : Nat) (b : Prop) : SgS := ((t.kf, t.side, False, False, va_up t.IN k b, t.LO, t.F3, t.F4, t.cn, t.th, t.wi, t.wo, t.wn, t.tn, t.RR, t.TR, t.RC, t.SC, t.pt, t.psl, t.pc_, t.pv, t.pce, t.g1, t.g2, t.g3) : SgS)
def sgSpan (t : SgS) (k n : Nat) (um : Prop) : SgS := ((t.kf, t.side, False, um, spanUp t.IN k n, t.LO, t.F3, t.F4, t.cn, t.th, t.wi, t.wo, t.wn, t.tn, t.RR, t.TR, t.RC, t.SC, t.pt, t.psl, t.pc_, t.pv, t.pce, t.g1, t.g2, t.g3) : SgS)
def sgKnot (t : SgS) (k v : Nat) : SgS := ((t.kf, t.side, False, False, t.IN, va_up t.LO k v, t.F3, t.F4, t.cn, t.th, t.wi, t.wo, t.wn, t.tn, t.RR, t.TR, t.RC, t.SC, t.pt, t.psl, t.pc_, t.pv, t.pce, t.g1, t.g2, t.g3) : SgS)
def sgSize (t : SgS) (q1 q2 q3 q4 : Nat) : SgS := ((t.kf, t.side, False, t.sm, t.IN, t.LO, t.F3, t.F4, t.cn + 1, va_up t.th t.cn q1, va_up t.wi t.cn q2, va_up t.wo t.cn q3, va_up t.wn t.cn q4, t.tn, t.RR, t.TR, t.RC, t.SC, t.pt, t.psl, t.pc_, t.pv, t.pce, t.g1, t.g2, t.g3) : SgS)
def sgSum (t : SgS) (u : (Nat → Nat) × (Nat → Nat)) : SgS := ((t.kf, t.side, t.sw, True, t.IN, t.LO, u.1, u.2, t.cn, t.th, t.wi, t.wo, t.wn, t.tn, t.RR, t.TR, t.RC, t.SC, t.pt, t.psl, t.pc_, t.pv, t.pce, t.g1, t.g2, t.g3) : SgS)
def sgWorth (t : SgS) (tq : Nat) (u : (Nat → Nat) × (Nat → Nat) × (Nat → Int) × (Nat → Nat) × (Nat → Int) × (Nat → Int)) : SgS := ((t.kf, t.side, t.sw, True, t.IN, t.LO, u.1, u.2.1, t.cn, t.th, t.wi, t.wo, t.wn, tq, u.2.2.1, u.2.2.2.1, u.2.2.2.2.1, u.2.2.2.2.2, t.pt, t.psl, t.pc_, t.pv, t.pce, t.g1, t.g2, t.g3) : SgS)
theorem sgI_cell {t : SgS} (h : sgI t) (k : Nat) (b : Prop) : sgI (sgCell t k b) := ⟨h.s1, h.s2, h.k4, h.tn1, h.n8, h.ht, h.hw, h.hw1, h.ho, h.hn, h.e3, h.e4, (fun q => False.elim q), (fun q => False.elim q), h.hL, h.hRR0, h.hR0, (fun q => False.elim q), h.hpc, h.g8, h.gx, h.gy, h.hpt, h.hce, h.hpv, h.hpsl⟩
theorem sgI_knot {t : SgS} (h : sgI t) (k : Nat) {v : Nat} (hv : v ≤ 10000) : sgI (sgKnot t k v) := ⟨h.s1, h.s2, h.k4, h.tn1, h.n8, h.ht, h.hw, h.hw1, h.ho, h.hn, h.e3, h.e4, (fun q => False.elim q), (fun q => False.elim q), fun j hj => by
    show va_up t.LO k v j ≤ 10000
    by_cases e : j = k
    · rw [e, va_up_self]; exact hv
    · rw [va_up_ne _ _ e]; exact h.hL j hj, h.hRR0, h.hR0, (fun q => False.elim q), h.hpc, h.g8, h.gx, h.gy, h.hpt, h.hce, h.hpv, h.hpsl⟩
theorem sgI_size {t : SgS} (h : sgI t) {q1 q2 q3 q4 : Nat} (hc : t.cn < 8) (b1 : q1 ≤ 20) (b2 : 1 ≤ q2 ∧ q2 ≤ 20) (b3 : q3 ≤ 100000) (b4 : q4 ≤ 400) : sgI (sgSize t q1 q2 q3 q4) := ⟨h.s1, h.s2, h.k4, h.tn1, (show t.cn + 1 ≤ 8 by omega), fun j hj => by
    show va_up t.th t.cn q1 j ≤ 20
    by_cases e : j = t.cn
    · rw [e, va_up_self]; exact b1
    · rw [va_up_ne _ _ e]; exact h.ht j hj, fun j hj => by
    show va_up t.wi t.cn q2 j ≤ 20
    by_cases e : j = t.cn
    · rw [e, va_up_self]; exact b2.2
    · rw [va_up_ne _ _ e]; exact h.hw j hj, fun j hj => by
    show 1 ≤ va_up t.wi t.cn q2 j
    have hj' : j < t.cn + 1 := hj
    by_cases e : j = t.cn
    · rw [e, va_up_self]; exact b2.1
    · rw [va_up_ne _ _ e]; exact h.hw1 j (by omega), fun j hj => by
    show va_up t.wo t.cn q3 j ≤ 100000
    by_cases e : j = t.cn
    · rw [e, va_up_self]; exact b3
    · rw [va_up_ne _ _ e]; exact h.ho j hj, fun j hj => by
    show va_up t.wn t.cn q4 j ≤ 400
    by_cases e : j = t.cn
    · rw [e, va_up_self]; exact b4
    · rw [va_up_ne _ _ e]; exact h.hn j hj, h.e3, h.e4, h.m3, h.m4, h.hL, h.hRR0, h.hR0, (fun q => False.elim q), h.hpc, h.g8, h.gx, h.gy, h.hpt, h.hce, h.hpv, h.hpsl⟩
theorem spanUp_0 (IN : Nat → Prop) (k : Nat) : spanUp IN k 0 = IN := rfl
theorem sgI_span {t : SgS} (h : sgI t) (k n : Nat) {um : Prop} (hu : um → t.sm ∧ n = 0) : sgI (sgSpan t k n um) := ⟨h.s1, h.s2, h.k4, h.tn1, h.n8, h.ht, h.hw, h.hw1, h.ho, h.hn, h.e3, h.e4, (fun q => by
    obtain ⟨q1, q2⟩ := hu q
    subst q2
    exact h.m3 q1), (fun q => h.m4 (hu q).1), h.hL, h.hRR0, h.hR0, (fun q => False.elim q), h.hpc, h.g8, h.gx, h.gy, h.hpt, h.hce, h.hpv, h.hpsl⟩
theorem sgI_sum {t : SgS} (h : sgI t) {u : (Nat → Nat) × (Nat → Nat)} (h3 : ∀ X Y, X ≤ t.side → Y ≤ t.side → u.1 (Y * (t.side + 1) + X) = psm (fbare t.side t.IN) X Y) (h4 : ∀ X Y, X ≤ t.side → Y ≤ t.side → u.2 (Y * (t.side + 1) + X) = psm (floss t.side t.LO) X Y) : sgI (sgSum t u) := ⟨h.s1, h.s2, h.k4, h.tn1, h.n8, h.ht, h.hw, h.hw1, h.ho, h.hn, ⟨fun X hX => by
      have h9 := h3 X 0 hX (by omega)
      rw [Nat.zero_mul, Nat.zero_add] at h9
      exact h9.trans (psm_y0 _ _), fun Y hY => (h3 0 Y (by omega) hY).trans (psm_x0 _ _)⟩, ⟨fun X hX => by
      have h9 := h4 X 0 hX (by omega)
      rw [Nat.zero_mul, Nat.zero_add] at h9
      exact h9.trans (psm_y0 _ _), fun Y hY => (h4 0 Y (by omega) hY).trans (psm_x0 _ _)⟩, (fun _ => h3), (fun _ => h4), h.hL, h.hRR0, h.hR0, (fun _ => trivial), h.hpc, h.g8, h.gx, h.gy, h.hpt, h.hce, h.hpv, h.hpsl⟩
theorem sgI_worth {t : SgS} (h : sgI t) {tq : Nat} (ht : tq ≤ 1) {u : (Nat → Nat) × (Nat → Nat) × (Nat → Int) × (Nat → Nat) × (Nat → Int) × (Nat → Int)} (h3 : ∀ X Y, X ≤ t.side → Y ≤ t.side → u.1 (Y * (t.side + 1) + X) = psm (fbare t.side t.IN) X Y) (h4 : ∀ X Y, X ≤ t.side → Y ≤ t.side → u.2.1 (Y * (t.side + 1) + X) = psm (floss t.side t.LO) X Y) (h5 : u.2.2.1 t.side = 0) (h6 : u.2.2.2.2.1 t.side = 0) : sgI (sgWorth t tq u) := ⟨h.s1, h.s2, h.k4, ht, h.n8, h.ht, h.hw, h.hw1, h.ho, h.hn, ⟨fun X hX => by
      have h9 := h3 X 0 hX (by omega)
      rw [Nat.zero_mul, Nat.zero_add] at h9
      exact h9.trans (psm_y0 _ _), fun Y hY => (h3 0 Y (by omega) hY).trans (psm_x0 _ _)⟩, ⟨fun X hX => by
      have h9 := h4 X 0 hX (by omega)
      rw [Nat.zero_mul, Nat.zero_add] at h9
      exact h9.trans (psm_y0 _ _), fun Y hY => (h4 0 Y (by omega) hY).trans (psm_x0 _ _)⟩, (fun _ => h3), (fun _ => h4), h.hL, h5, h6, (fun _ => trivial), h.hpc, h.g8, h.gx, h.gy, h.hpt, h.hce, h.hpv, h.hpsl⟩
/-- each board of a pattern is of some size, and on the grid -/
def patOK (cn side : Nat) (s : PSt) : Prop := (∀ k, k < s.1 → s.2.1 k < cn ∧ s.2.2.1 k < side ∧ s.2.2.2.1 k < side) ∧ s.2.2.2.2.2 ≤ 400 * s.1 ∧ 0 ≤ s.2.2.2.2.1 ∧ s.2.2.2.2.1 ≤ 100001 * (s.1 : Int)
theorem addB_ok {cn side : Nat} {va : Int} {ce i x y : Nat} {s : PSt} (h : patOK cn side s) (hi : i < cn) (hx : x < side) (hy : y < side) (hc : ce ≤ 400) (hv : 0 ≤ va ∧ va ≤ 100001) : patOK cn side (addB va ce i x y s) := by
  obtain ⟨h1, h2, h3, h4⟩ := h
  refine ⟨fun k hk => ?_, ?_⟩
  · have hk' : k < s.1 + 1 := hk
    show va_up s.2.1 s.1 i k < cn ∧ va_up s.2.2.1 s.1 x k < side ∧ va_up s.2.2.2.1 s.1 y k < side
    by_cases e : k = s.1
    · rw [e, va_up_self, va_up_self, va_up_self]; exact ⟨hi, hx, hy⟩
    · rw [va_up_ne _ _ e, va_up_ne _ _ e, va_up_ne _ _ e]; exact h1 k (by omega)
  · show s.2.2.2.2.2 + ce ≤ 400 * (s.1 + 1) ∧ 0 ≤ s.2.2.2.2.1 + va ∧ s.2.2.2.2.1 + va ≤ 100001 * ((s.1 + 1 : Nat) : Int)
    omega
theorem pX_lt {tn row col n : Nat} (h1 : row < n) (h2 : col < n) : pX tn row col < n := by unfold pX; split <;> omega
theorem pY_lt {tn row col n : Nat} (h1 : row < n) (h2 : col < n) : pY tn row col < n := by unfold pY; split <;> omega
theorem slabLay_ok {side kf cn tn row : Nat} {th wi : Nat → Nat} {va : Nat → Nat → Int} {SC : Nat → Int} {s0 : PSt} (hr : row < side) (hs : ∀ i, i < cn → th i ≤ 20 ∧ wi i ≤ 20) (hv : ∀ c i, i < cn → 0 ≤ va c i ∧ va c i ≤ 100001) (h0 : patOK cn side s0) : ∀ (k : Nat), k ≤ side → patOK cn side (slabLay kf cn tn row th wi va SC s0 k).2 := by
  intro k
  induction k with
  | zero => intro _; exact h0
  | succ k ih =>
    intro hk
    show patOK cn side (layStep kf cn tn row th wi va SC k _).2
    unfold layStep
    split
    · rename_i q
      have hi : (SC k).toNat < cn := by omega
      obtain ⟨t1, t2⟩ := hs _ hi
      exact addB_ok (ih (by omega)) hi (pX_lt hr (by omega)) (pY_lt hr (by omega)) (Nat.le_trans (Nat.mul_le_mul t1 t2) (by decide)) (hv _ _ hi)
    · exact ih (by omega)
theorem layAll_ok {side kf cn tn : Nat} {th wi wo wn : Nat → Nat} {fb fl : Nat → Nat → Nat} {TR : Nat → Nat} {s0 : PSt} (hs : ∀ i, i < cn → th i ≤ 20 ∧ wi i ≤ 20) (ho : ∀ i, i < cn → wo i ≤ 100000) (h0 : patOK cn side s0) : ∀ (r : Nat), r ≤ side → patOK cn side (layAll side kf cn tn th wi wo wn fb fl TR s0 r).2.2 := by
  intro r
  induction r with
  | zero => intro _; exact h0
  | succ r ih =>
    intro hr
    show patOK cn side (allStep side kf cn tn th wi wo wn fb fl TR r _).2.2
    unfold allStep
    split
    · exact slabLay_ok (by omega) hs (fun _ i hi => vaC_bd (ho i hi)) (ih (by omega)) side (Nat.le_refl _)
    · exact ih (by omega)
theorem layAll_sl {side kf cn tn : Nat} {th wi wo wn : Nat → Nat} {fb fl : Nat → Nat → Nat} {TR : Nat → Nat} {s0 : PSt} : ∀ (r : Nat), (layAll side kf cn tn th wi wo wn fb fl TR s0 r).2.1 ≤ r := by
  intro r
  induction r with
  | zero => exact Nat.le_refl _
  | succ r ih =>
    show (allStep side kf cn tn th wi wo wn fb fl TR r _).2.1 ≤ _
    unfold allStep
    split
    · show (layAll side kf cn tn th wi wo wn fb fl TR s0 r).2.1 + 1 ≤ _
      omega
    · omega
noncomputable def layT (t : SgS) (tq : Nat) : Nat × Nat × PSt := (layAll t.side t.kf t.cn tq t.th t.wi t.wo t.wn (fbare t.side t.IN) (floss t.side t.LO) (plan0 t.side t.kf t.th t.wi t.wo t.wn (fbare t.side t.IN) (floss t.side t.LO) t.cn tq).2 (0, t.g1, t.g2, t.g3, 0, 0) t.side)
noncomputable def sgRun (t : SgS) (u : Nat × (Nat → Nat) × (Nat → Nat) × (Nat → Int) × (Nat → Nat) × (Nat → Int) × (Nat → Int)) : SgS := ((t.kf, t.side, True, True, t.IN, t.LO, u.2.1, u.2.2.1, t.cn, t.th, t.wi, t.wo, t.wn, u.1, u.2.2.2.1, u.2.2.2.2.1, u.2.2.2.2.2.1, u.2.2.2.2.2.2, u.1, (layT t u.1).2.1, (layT t u.1).2.2.1, (layT t u.1).2.2.2.2.2.2.1, (layT t u.1).2.2.2.2.2.2.2, (layT t u.1).2.2.2.1, (layT t u.1).2.2.2.2.1, (layT t u.1).2.2.2.2.2.1) : SgS)
theorem sgI_run {t : SgS} (h : sgI t) {u : Nat × (Nat → Nat) × (Nat → Nat) × (Nat → Int) × (Nat → Nat) × (Nat → Int) × (Nat → Int)} (hu : u.1 ≤ 1) (h3 : ∀ X Y, X ≤ t.side → Y ≤ t.side → u.2.1 (Y * (t.side + 1) + X) = psm (fbare t.side t.IN) X Y) (h4 : ∀ X Y, X ≤ t.side → Y ≤ t.side → u.2.2.1 (Y * (t.side + 1) + X) = psm (floss t.side t.LO) X Y) (h5 : u.2.2.2.1 t.side = 0) (h6 : u.2.2.2.2.2.1 t.side = 0) : sgI (sgRun t u) := by
  have k0 : patOK t.cn t.side (0, t.g1, t.g2, t.g3, 0, 0) := ⟨fun k hk => absurd hk (Nat.not_lt_zero k), Nat.le_refl _, Int.le_refl _, Int.le_refl _⟩
  have n8 := h.n8
  have s2 := h.s2
  have k1 : patOK t.cn t.side (layT t u.1).2.2 := layAll_ok (fun i hi => ⟨h.ht i (by omega), h.hw i (by omega)⟩) (fun i hi => h.ho i (by omega)) k0 t.side (Nat.le_refl _)
  have k2 : (layT t u.1).2.2.1 ≤ t.side * t.side := layAll_ct rfl t.side
  have k3 := (sq20 s2).2
  obtain ⟨k4, k5, k6⟩ := k1
  have k7 : (layT t u.1).2.1 ≤ t.side := layAll_sl t.side
  exact ⟨h.s1, h.s2, h.k4, hu, h.n8, h.ht, h.hw, h.hw1, h.ho, h.hn, ⟨fun X hX => by
      have h9 := h3 X 0 hX (by omega)
      rw [Nat.zero_mul, Nat.zero_add] at h9
      exact h9.trans (psm_y0 _ _), fun Y hY => (h3 0 Y (by omega) hY).trans (psm_x0 _ _)⟩, ⟨fun X hX => by
      have h9 := h4 X 0 hX (by omega)
      rw [Nat.zero_mul, Nat.zero_add] at h9
      exact h9.trans (psm_y0 _ _), fun Y hY => (h4 0 Y (by omega) hY).trans (psm_x0 _ _)⟩, (fun _ => h3), (fun _ => h4), h.hL, h5, h6, (fun _ => trivial), k2, (fun k hk => Nat.lt_of_lt_of_le (k4 k hk).1 n8), (fun k hk => Nat.le_trans (Nat.le_of_lt (k4 k hk).2.1) s2), (fun k hk => Nat.le_trans (Nat.le_of_lt (k4 k hk).2.2) s2), hu, (Nat.le_trans k5 (by omega)), k6, (Nat.le_trans k7 s2)⟩
