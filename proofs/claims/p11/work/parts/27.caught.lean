section XG
variable {p : Program} {l : Launch} {e : Env} {R : Room} {s : State} {m : MethodId} {args : Array Value} {below : List Frame} {meth : Method} {c : Code} {H : Heap} {locs : List Loc} {cells slots mc ms : Nat} {Q : State → Prop}
variable {ws : List Cond} {rm : Room} {Pc : Array Value → State → Prop} {Qc : Array Value → State → Outcome → State → Prop} {free : Addr → Prop} {y : MethodName} {bytes cc : ByteArray} {maxL : Nat} {ret : Option FieldType} {hh : List (Nat × Nat × Nat × Nat)}
/-- invokestatic of a method that has a table of handlers -/
theorem kx_runSW {nL n index : Nat} {Ts : List Cond} {own : String} {As rest : List Value} {g : JFrame} (S : CallFix p m c cc nL s args Ts own) (hM : Met l y ws rm Pc Qc mc ms free) (hrc : rm.cells = mc) (hrs : rm.slots = ms) (hR : rm.frames + 1 ≤ R.frames ∧ 8 + (maxL + 11) + rm.locals ≤ R.locals)
    (hws : ∀ w ∈ ws, ∀ (a' : Array Value) (U : State), s.WarmedH U.vm → w.before a' U = true) (hcw : Cond.codeWith y bytes maxL ret hh ∈ ws) (hini : (Cond.initialized y.cls).before args s = true) (hl : (Cond.methodLink own index y).before args s = true) (hst : (Cond.static y).before args s = true)
    (hd : y.cls ≠ "java/lang/invoke/MethodHandle" ∧ y.cls ≠ "java/lang/invoke/VarHandle" ∧ (parseMethodDescriptor y.desc).map (fun d => d.parameters.length) = some n) (hp : PreS s H Pc As)
    (hg : g.method = m) (hn : As.length = n) (hsize : g.locals.size = nL) (hstack : g.stack = As.reverse ++ rest) (hW : 2 * g.monitorRoom + (rest.map fun v => v.category).sum ≤ 8) (hdg : decode cc g.pc = .ok (.invokestatic index, 3)) (hf : cells + mc ≤ R.cells ∧ slots + ms ≤ R.slots) :
    va_Run p l e R s m args below meth c H locs cells slots mc ms g rest (Qc As.toArray) free := by
  have hK : Back l R p e below s args y 3 8 (PreOf R mc ms Pc) (PostOf Qc mc ms free) := va_backW (hh := hh) (bytes := bytes) (maxL := maxL) (ret := ret) hM hp.1 hrc hrs hR.1 hR.2 hws hcw (fun a' U hW => word_at hW (Or.inl (by first | rfl | simp [Cond.onTables, Cond.keeps, Cond.steady])) hini)
  obtain ⟨hx, hb, hml, ho, -⟩ := S
  intro T hT X
  obtain ⟨mk, methM, cM, hnamed, hmethM, -, -, -, -, -, -, hsigM⟩ := Cond.codeWith_spec (hws _ hcw args s (State.WarmedH.refl s))
  have hstatic : methM.isStatic = true := Cond.static_spec hnamed hmethM hst
  obtain ⟨kP, hkP, -⟩ := className_of_methodNamed hnamed
  have hinitP : kP.init = .initialized := Cond.initialized_spec (findClass_of_methodNamed hnamed) hkP hini
  have hlen : As.length = methM.sig.parameters.length := by
    have h9 := hd.2.2
    rw [hsigM] at h9
    exact hn.trans (Option.some.inj h9).symm
  have hdg' : decode c.code g.pc = .ok (.invokestatic index, 3) := by rw [hb]; exact hdg
  obtain ⟨vm₁, X₁, hstep₁⟩ := X.invokestatic hx ho hl hnamed hmethM hstatic hkP hinitP ⟨hd.1, hd.2.1⟩ (g := g) hg (argsL := As) (rest := rest) hlen hstack hdg'
  obtain ⟨v, ⟨U', l2, c2, s2⟩, X', ⟨g', mk', t, L, e1, e2, hq, h1, hL, h2, h3⟩, hsteps⟩ := hK m meth c ⟨T.setVm vm₁, locs, cells, slots⟩ { g with stack := rest } (.invokestatic index) mk As.toArray X₁ hg (hsize.trans hml.symm) hdg' hW (X₁.named hnamed) ⟨hf.1, hf.2, hp.2 (T.setVm vm₁) hT X₁.warmed⟩
  dsimp only [Pt.U, Pt.locs, Pt.cells, Pt.slots] at X' e1 e2 h1 h2 h3 hsteps
  subst h1; subst h2; subst h3
  exact ⟨v, (T.setVm vm₁).calling g' mk' As.toArray, t, U', L, hT, X', hL, e1, e2, hq, fun tg h => hstep₁ _ fun acts => by rw [doInvoke_state]; exact hsteps.trans h⟩
/-- a callee throws, and a row of the method's own table takes it -/
theorem xt_caught {own cls name : String} {pc : Nat} {ls : Array Slot} {st0 rest : List Value} {av : Array Value} (hr : xt_Run p l e R s m args below meth c H locs cells slots 1 6 (F0 m pc ls st0) rest (xE cls av) (fun _ => False)) (hown : s.vm.findClass own = some m.cls)
    (pre : List ExceptionTableEntry) (x : ExceptionTableEntry) (suf : List ExceptionTableEntry) (hsplit : c.exceptionTable.toList = pre ++ x :: suf)
    (hno : ∀ z ∈ pre, z.catchType ≠ 0 ∧ ∃ nm : String, (Cond.classLink own z.catchType nm).before args s = true ∧ (Cond.not (.castable cls nm)).before args s = true) (hx : covers x pc = true) (h0 : x.catchType ≠ 0) (hlink : (Cond.classLink own x.catchType name).before args s = true) (hcast : (Cond.castable cls name).before args s = true)
    (kk : ∀ (a : Addr) (H1 : Heap), H.size ≤ H1.size → (∀ q : Nat, q < H.size → H1[q]? = H[q]?) → W p l e R s m args below meth c H1 locs (cells + 1) (slots + 6) Q (F0 m x.handlerPc ls [.ref a])) : W p l e R s m args below meth c H locs cells slots Q (F0 m pc ls st0) := by
  intro T hT X
  obtain ⟨a, st₀, t, T', L, h9, X', hL, e1, e2, ⟨⟨ce, c1, c2, c3⟩, f1, f2⟩, st⟩ := hr T hT X
  have X2 : Stand p l e R s m args below meth c T' locs (cells + 1) (slots + 6) := Stand.forget X' (fun q h => (hL q h).elim)
  rw [h9, ← e1] at f1 f2
  have hal : s.vm.Alike T'.vm := X2.warmed.alike
  have hcl : s.vm.findClass cls = some ce.cls := by rw [← hal.findClass, e2]; exact c3
  obtain ⟨c4, c5, hc4, hc5, hasg⟩ := Cond.castable_spec hcast
  cases Option.some.inj (hc4.symm.trans hcl)
  have key := xt_catch (p := p) (l := l) (e := e) (R := R) (s := s) (m := m) (args := args) (below := below) (meth := meth) (c := c) (H := T'.heap) (locs := locs) (cells := cells + 1) (slots := slots + 6) (Q := Q) (pc := pc) (ls := ls) (st := rest) (a := a) (cell := ce) hown pre x suf hsplit
    (fun z hz => by
      obtain ⟨z0, nm, hl1, hn1⟩ := hno z hz
      refine Or.inr ⟨z0, nm, hl1, fun k hk => ?_⟩
      have hv := Cond.holds_not_iff.mp hn1
      simp only [Cond.value, hcl, hk] at hv
      exact Option.some.inj hv) hx h0 hlink (fun k hk => by
      cases Option.some.inj (hc5.symm.trans hk)
      exact hasg) (by rw [e1]; exact c1) (by rw [c2]; rfl) (by obtain ⟨k9, h8, -⟩ := Vm.findClass_spec hcl; exact ⟨k9, h8⟩) (kk a T'.heap f1 f2)
  obtain ⟨t2, a1, b1⟩ := key T' rfl X2
  exact ⟨t2, st.trans a1, b1⟩
end XG
