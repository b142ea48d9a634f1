/-- the class's state and the reference's say the same -/
def rel (T : SgS) (M : MoS) : Prop := T.side = M.side ∧ T.kf = M.kf ∧ T.cn = M.cn ∧ T.th = M.th ∧ T.wi = M.wi ∧ T.wo = M.wo ∧ T.wn = M.wn ∧ (∀ e x y, e ≤ 1 → x < T.side → y < T.side → (T.IN ((e * T.side) * T.side + y * T.side + x) ↔ M.IN (400 * e + 20 * y + x))) ∧ ∀ x y, x < T.side → y < T.side → T.LO (y * T.side + x) = M.LO (20 * y + x)
theorem dm_inj {S a b x y : Nat} (hx : x < S) (hy : y < S) (h : a * S + x = b * S + y) : a = b ∧ x = y := by
  rcases Nat.lt_trichotomy a b with q | q | q
  · have h1 : (a + 1) * S ≤ b * S := Nat.mul_le_mul_right S q
    rw [Nat.succ_mul] at h1
    omega
  · subst q
    exact ⟨rfl, by omega⟩
  · have h1 : (b + 1) * S ≤ a * S := Nat.mul_le_mul_right S q
    rw [Nat.succ_mul] at h1
    omega
theorem ix_inj {S e x y e' x' y' : Nat} (hx : x < S) (hy : y < S) (hx' : x' < S) (hy' : y' < S) (h : (e * S) * S + y * S + x = (e' * S) * S + y' * S + x') : e = e' ∧ y = y' ∧ x = x' := by
  rw [← Nat.add_mul, ← Nat.add_mul] at h
  obtain ⟨h1, h2⟩ := dm_inj hx hx' h
  obtain ⟨h3, h4⟩ := dm_inj hy hy' h1
  exact ⟨h3, h4, h2⟩
theorem rel_cell {T : SgS} {M : MoS} (h : rel T M) {en x y : Nat} (he : en ≤ 1) (hx : x < T.side) (hy : y < T.side) (hs : T.side ≤ 20) (b : Prop) : rel (sgCell T ((en * T.side) * T.side + y * T.side + x) b) (moCell M (400 * en + 20 * y + x) b) := by
  obtain ⟨h1, h2, h3, h4, h5, h6, h7, h8, h9⟩ := h
  refine ⟨h1, h2, h3, h4, h5, h6, h7, fun e x' y' he' hx' hy' => ?_, h9⟩
  show va_up T.IN _ b ((e * T.side) * T.side + y' * T.side + x') ↔ va_up M.IN _ b (400 * e + 20 * y' + x')
  have hx2 : x' < T.side := hx'
  have hy2 : y' < T.side := hy'
  by_cases q : e = en ∧ y' = y ∧ x' = x
  · obtain ⟨rfl, rfl, rfl⟩ := q
    rw [va_up_self, va_up_self]
  · rw [va_up_ne _ _ (fun q9 => q (ix_inj hx2 hy2 hx hy q9)), va_up_ne _ _ (by omega)]
    exact h8 e x' y' he' hx' hy'
theorem rel_knot {T : SgS} {M : MoS} (h : rel T M) {x y : Nat} (hx : x < T.side) (hy : y < T.side) (hs : T.side ≤ 20) (v : Nat) : rel (sgKnot T (y * T.side + x) v) (moKnot M (20 * y + x) v) := by
  obtain ⟨h1, h2, h3, h4, h5, h6, h7, h8, h9⟩ := h
  refine ⟨h1, h2, h3, h4, h5, h6, h7, h8, fun x' y' hx' hy' => ?_⟩
  show va_up T.LO _ v (y' * T.side + x') = va_up M.LO _ v (20 * y' + x')
  have hx2 : x' < T.side := hx'
  have hy2 : y' < T.side := hy'
  by_cases q : y' = y ∧ x' = x
  · obtain ⟨rfl, rfl⟩ := q
    rw [va_up_self, va_up_self]
  · rw [va_up_ne _ _ (fun q9 => q (dm_inj hx2 hx q9)), va_up_ne _ _ (by omega)]
    exact h9 x' y' hx' hy'
theorem rel_size {T : SgS} {M : MoS} (h : rel T M) (q1 q2 q3 q4 : Nat) : rel (sgSize T q1 q2 q3 q4) (moSize M q1 q2 q3 q4) := by
  obtain ⟨h1, h2, h3, h4, h5, h6, h7, h8, h9⟩ := h
  refine ⟨h1, h2, ?_, ?_, ?_, ?_, ?_, h8, h9⟩
  · show T.cn + 1 = M.cn + 1
    rw [h3]
  · show va_up T.th T.cn q1 = va_up M.th M.cn q1
    rw [h3, h4]
  · show va_up T.wi T.cn q2 = va_up M.wi M.cn q2
    rw [h3, h5]
  · show va_up T.wo T.cn q3 = va_up M.wo M.cn q3
    rw [h3, h6]
  · show va_up T.wn T.cn q4 = va_up M.wn M.cn q4
    rw [h3, h7]
theorem spanUp_iff (IN : Nat → Prop) (p0 : Nat) : ∀ (n q : Nat), spanUp IN p0 n q ↔ ((p0 ≤ q ∧ q < p0 + n) ∨ IN q) := by
  intro n
  induction n with
  | zero =>
    intro q
    show IN q ↔ _
    refine ⟨Or.inr, fun h => ?_⟩
    rcases h with h | h
    · omega
    · exact h
  | succ n ih =>
    intro q
    show va_up (spanUp IN p0 n) (p0 + n) True q ↔ _
    by_cases e : q = p0 + n
    · rw [e, va_up_self]
      exact ⟨fun _ => Or.inl ⟨by omega, by omega⟩, fun _ => trivial⟩
    · rw [va_up_ne _ _ e, ih q]
      refine ⟨fun h => ?_, fun h => ?_⟩
      · rcases h with h | h
        · exact Or.inl ⟨h.1, by omega⟩
        · exact Or.inr h
      · rcases h with h | h
        · exact Or.inl ⟨h.1, by omega⟩
        · exact Or.inr h
theorem rel_span {T : SgS} {M : MoS} (h : rel T M) {en y f t : Nat} (he : en ≤ 1) (hy : y < T.side) (hf : f ≤ t) (ht : t ≤ T.side) (hs : T.side ≤ 20) (um : Prop) : rel (sgSpan T ((en * T.side) * T.side + y * T.side + f) (t - f) um) (moSpan M (400 * en + 20 * y + f) (t - f)) := by
  obtain ⟨h1, h2, h3, h4, h5, h6, h7, h8, h9⟩ := h
  refine ⟨h1, h2, h3, h4, h5, h6, h7, fun e x' y' he' hx' hy' => ?_, h9⟩
  show spanUp T.IN _ (t - f) ((e * T.side) * T.side + y' * T.side + x') ↔ spanUp M.IN _ (t - f) (400 * e + 20 * y' + x')
  have hx2 : x' < T.side := hx'
  have hy2 : y' < T.side := hy'
  rw [spanUp_iff, spanUp_iff]
  have k : (((en * T.side) * T.side + y * T.side + f ≤ (e * T.side) * T.side + y' * T.side + x') ∧ (e * T.side) * T.side + y' * T.side + x' < (en * T.side) * T.side + y * T.side + f + (t - f)) ↔ ((400 * en + 20 * y + f ≤ 400 * e + 20 * y' + x') ∧ 400 * e + 20 * y' + x' < 400 * en + 20 * y + f + (t - f)) := by
    refine ⟨fun ⟨q1, q2⟩ => ?_, fun ⟨q1, q2⟩ => ?_⟩
    · have q3 : (e * T.side) * T.side + y' * T.side + x' = (en * T.side) * T.side + y * T.side + ((e * T.side) * T.side + y' * T.side + x' - ((en * T.side) * T.side + y * T.side)) := by omega
      obtain ⟨e1, e2, e3⟩ := ix_inj hx2 hy2 (by omega) hy q3
      subst e1; subst e2
      omega
    · have e1 : e = en := by omega
      have e2 : y' = y := by omega
      subst e1; subst e2
      omega
  have k2 := h8 e x' y' he' hx' hy'
  constructor
  · rintro (q | q)
    · exact Or.inl (k.mp q)
    · exact Or.inr (k2.mp q)
  · rintro (q | q)
    · exact Or.inl (k.mpr q)
    · exact Or.inr (k2.mpr q)
/-! cells that are wood, counted both ways -/
theorem wd_bare (P Q : Prop) (h : P ↔ Q) : wdN Q + bareN P = 1 := by
  rcases Classical.em P with q | q
  · rw [wdN_t (h.mp q), bareN_t q]
  · rw [wdN_f (fun q9 => q (h.mpr q9)), bareN_f q]
theorem sN_const (n k : Nat) : sN (fun _ => k) n = n * k := by
  induction n with
  | zero => rw [Nat.zero_mul]; rfl
  | succ n ih =>
    show sN (fun _ => k) n + k = _
    rw [ih, Nat.succ_mul]
theorem rel_bare {T : SgS} {M : MoS} (h : rel T M) {x y : Nat} (hx : x < T.side) (hy : y < T.side) : (T.IN (y * T.side + x) ∧ T.IN (T.side * T.side + (y * T.side + x))) ↔ (M.IN (20 * y + x) ∧ M.IN (400 + 20 * y + x)) := by
  obtain ⟨-, -, -, -, -, -, -, h8, -⟩ := h
  have a := h8 0 x y (by omega) hx hy
  have b := h8 1 x y (by omega) hx hy
  rw [Nat.zero_mul, Nat.zero_mul, Nat.zero_add, Nat.mul_zero, Nat.zero_add] at a
  rw [Nat.one_mul, Nat.mul_one, Nat.add_assoc] at b
  exact and_congr a b
theorem rel_wood {T : SgS} {M : MoS} (h : rel T M) : sN (mwr M.side M.IN) M.side + rcs (fbare T.side T.IN) 0 0 T.side T.side = T.side * T.side := by
  have hs : T.side = M.side := h.1
  rw [← hs]
  unfold rcs
  rw [← sN_plus]
  rw [sN_congr (g := fun _ => T.side) (fun j hj => ?_), sN_const]
  unfold mwr
  rw [← sN_plus, sN_congr (g := fun _ => 1) (fun i hi => ?_), sN_const, Nat.mul_one]
  rw [Nat.zero_add, Nat.zero_add]
  unfold fbare
  exact wd_bare _ _ (rel_bare h hi hj)
/-! the law's own rows -/
theorem and15 (x : Int32) : ∃ q : Nat, q ≤ 15 ∧ x &&& nI 15 = nI q := ⟨x.toBitVec.toNat % 2 ^ 4, by
  have h := Nat.mod_lt x.toBitVec.toNat (show 0 < 2 ^ 4 by decide)
  omega, Int32.toBitVec_inj.mp (BitVec.eq_of_toNat_eq (by
  show (x.toBitVec &&& 15#32).toNat = (BitVec.ofNat 32 (x.toBitVec.toNat % 2 ^ 4)).toNat
  rw [BitVec.toNat_and, show (15#32).toNat = 2 ^ 4 - 1 from by decide, Nat.and_two_pow_sub_one_eq_mod, BitVec.toNat_ofNat]
  omega))⟩
section LS
variable {p : Program} {l : Launch} {e : Env} {R : Room} {s : State} {m : MethodId} {args : Array Value} {below : List Frame} {meth : Method} {c : Code} {H H0 : Heap} {locs : List Loc} {cells slots : Nat} {Q : State → Prop} {pc : Nat} {ls : Array Slot} {rest : List Value} {cc : ByteArray} {A : Nat → Prop}
theorem ka_sld {b L k : Nat} {xs : Nat → Int32} {i : Int32} (hi : i.toInt = (k : Int)) (hk : k < L) (hexec : p.tables.exec = Jvm.exec) (hb : c.code = cc) (hX : va_X b L xs s H0) (hbl : b < H0.size) (hbA : ¬ A b) (hS : va_S A H0 H locs) (hdg : decode cc pc = .ok (.iaload, 1))
    (kk : W p l e R s m args below meth c H locs cells slots Q (F0 m (pc + 1) ls (.int (xs k) :: rest))) : W p l e R s m args below meth c H locs cells slots Q (F0 m pc ls (.int i :: .ref b :: rest)) := by
  refine va_sld hexec hb hX hbl hbA hS (kN_in hi hk) hdg ?_
  rw [kN_clamp hi]
  exact kk
end LS
theorem kT_law {s : State} {H : Heap} {locs : List Loc} {A : Nat → Prop} (hT : kT s) (hAs : ∀ q, A q → s.heap.size ≤ q) (hS : va_S A s.heap H locs) : ∀ U : State, U.heap = H → s.WarmedH U.vm → kT U := fun U hU hW => kT_warm hW (fun q hq => by
  rw [hU]
  exact hS.2.1 q hq (fun h => by have h9 := hAs q h; omega)) hT
/-- the number k of the script, or 0 -/
abbrev kX (b L : Nat) (xs : Nat → Int32) (U : State) : Prop := va_X b L xs U U.heap
theorem kX_blind {b L : Nat} {xs : Nat → Int32} {av : List Value} : FrameBlind (va_Pc av (kX b L xs)) := fun a U g mk q => ⟨q.1, va_X.moved (u := U) (U := U.calling g mk a) (Vm.Alike.refl U.vm) q.2⟩
theorem kX_at {b L : Nat} {xs : Nat → Int32} {av : List Value} {s : State} {H : Heap} {locs : List Loc} {A : Nat → Prop} (hX : va_X b L xs s s.heap) (hbl : b < s.heap.size) (hbA : ¬ A b) (hS : va_S A s.heap H locs) : ∀ U : State, U.heap = H → s.WarmedH U.vm → va_Pc av (kX b L xs) av.toArray U := fun U hU hW => ⟨rfl, by
  show va_X b L xs U U.heap
  rw [hU]
  exact va_X.moved hW.alike (hX.kept (hS.2.1 b hbl hbA))⟩
/-! the tables look at cells of the grid alone -/
theorem rcs_congr {f g : Nat → Nat → Nat} {side x y ax ay : Nat} (h : ∀ i j, i < side → j < side → f i j = g i j) (h1 : x + ax ≤ side) (h2 : y + ay ≤ side) : rcs f x y ax ay = rcs g x y ax ay := sN_congr (fun j hj => sN_congr (fun i hi => h _ _ (by omega) (by omega)))
theorem sumZ_congr {f g : Nat → Nat → Nat} {side : Nat} (h : ∀ i j, i < side → j < side → f i j = g i j) (x y : Int) (ax ay : Nat) : sumZ f side x y ax ay = sumZ g side x y ax ay := by
  unfold sumZ
  by_cases c : 0 ≤ x ∧ 0 ≤ y ∧ x + (ax : Int) ≤ (side : Int) ∧ y + (ay : Int) ≤ (side : Int)
  · rw [if_pos c, if_pos c, rcs_congr h (by omega) (by omega)]
  · rw [if_neg c, if_neg c]
theorem okC_congr {side : Nat} {f g : Nat → Nat → Nat} (h : ∀ i j, i < side → j < side → f i j = g i j) (th wi wn : Nat → Nat) (tn : Nat) : okC side f th wi wn tn = okC side g th wi wn tn := by
  funext row col i
  unfold okC
  rw [sumZ_congr h]
theorem vaC_congr {side : Nat} {f g : Nat → Nat → Nat} (h : ∀ i j, i < side → j < side → f i j = g i j) (th wi wo : Nat → Nat) (tn : Nat) : vaC side f th wi wo tn = vaC side g th wi wo tn := by
  funext row col i
  unfold vaC
  rw [sumZ_congr h]
theorem plan0_congr {side kf : Nat} {th wi wo wn : Nat → Nat} {fb gb fl gl : Nat → Nat → Nat} {cn tn : Nat} (hb : ∀ i j, i < side → j < side → fb i j = gb i j) (hl : ∀ i j, i < side → j < side → fl i j = gl i j) : plan0 side kf th wi wo wn fb fl cn tn = plan0 side kf th wi wo wn gb gl cn tn := by
  unfold plan0 sbT
  rw [okC_congr hb, vaC_congr hl]
theorem allStep_congr {side kf cn tn : Nat} {th wi wo wn : Nat → Nat} {fb gb fl gl : Nat → Nat → Nat} (hb : ∀ i j, i < side → j < side → fb i j = gb i j) (hl : ∀ i j, i < side → j < side → fl i j = gl i j) (TR : Nat → Nat) (r : Nat) (q : Nat × Nat × PSt) : allStep side kf cn tn th wi wo wn fb fl TR r q = allStep side kf cn tn th wi wo wn gb gl TR r q := by
  unfold allStep
  rw [okC_congr hb, vaC_congr hl]
theorem layAll_congrF {side kf cn tn : Nat} {th wi wo wn : Nat → Nat} {fb gb fl gl : Nat → Nat → Nat} (hb : ∀ i j, i < side → j < side → fb i j = gb i j) (hl : ∀ i j, i < side → j < side → fl i j = gl i j) (TR : Nat → Nat) (s0 : PSt) : ∀ r, layAll side kf cn tn th wi wo wn fb fl TR s0 r = layAll side kf cn tn th wi wo wn gb gl TR s0 r := by
  intro r
  induction r with
  | zero => rfl
  | succ r ih =>
    show allStep side kf cn tn th wi wo wn fb fl TR r _ = allStep side kf cn tn th wi wo wn gb gl TR r _
    rw [ih, allStep_congr hb hl]
theorem rel_fb {T : SgS} {M : MoS} (h : rel T M) : ∀ i j, i < T.side → j < T.side → fbare T.side T.IN i j = mfb M.IN i j := fun i j hi hj => by
  unfold fbare mfb
  rw [propext (rel_bare h hi hj)]
theorem rel_fl {T : SgS} {M : MoS} (h : rel T M) : ∀ i j, i < T.side → j < T.side → floss T.side T.LO i j = mfl M.LO i j := fun i j hi hj => h.2.2.2.2.2.2.2.2 i j hi hj
theorem rel_plan {T : SgS} {M : MoS} (h : rel T M) (tq : Nat) : plan0 T.side T.kf T.th T.wi T.wo T.wn (fbare T.side T.IN) (floss T.side T.LO) T.cn tq = plan0 M.side M.kf M.th M.wi M.wo M.wn (mfb M.IN) (mfl M.LO) M.cn tq := by
  rw [plan0_congr (rel_fb h) (rel_fl h)]
  obtain ⟨h1, h2, h3, h4, h5, h6, h7, -, -⟩ := h
  rw [h1, h2, h3, h4, h5, h6, h7]
theorem rel_lay {T : SgS} {M : MoS} (h : rel T M) (tq : Nat) : layT T tq = layM M (0, T.g1, T.g2, T.g3, 0, 0) tq := by
  unfold layT layM
  rw [rel_plan h, layAll_congrF (rel_fb h) (rel_fl h)]
  obtain ⟨h1, h2, h3, h4, h5, h6, h7, -, -⟩ := h
  rw [h1, h2, h3, h4, h5, h6, h7]
