section
-- ===== PART A: goes FIRST, ahead of the names: the tables' words, and 'selects' of the private methods out of them =====
/-- a private method of a class that the tables say can be made, by its rows of tables_1 -/
def lw_okq (q : MethodName × Nat) : Prop := (q.1.cls ≠ "java/lang/invoke/MethodHandle" ∧ q.1.cls ≠ "java/lang/invoke/VarHandle") ∧ Cond.instantiable q.1.cls q.2 ∈ tables_1 ∧ Cond.privateMethod q.1 ∈ tables_1 ∧ Cond.instanceMethod q.1 ∈ tables_1
theorem lw_p0 : lw_okq (⟨"SawGrids$Log", "sumUpRow", "(I)V"⟩, 6) := ⟨⟨by decide +kernel, by decide +kernel⟩, List.mem_of_getElem? (i := 30) (by decide +kernel), List.mem_of_getElem? (i := 209) (by decide +kernel), List.mem_of_getElem? (i := 210) (by decide +kernel)⟩
theorem lw_p1 : lw_okq (⟨"SawGrids$Bench", "planRow", "(I)V"⟩, 9) := ⟨⟨by decide +kernel, by decide +kernel⟩, List.mem_of_getElem? (i := 102) (by decide +kernel), List.mem_of_getElem? (i := 217) (by decide +kernel), List.mem_of_getElem? (i := 218) (by decide +kernel)⟩
theorem lw_p2 : lw_okq (⟨"SawGrids$Bench", "planSlab", "(II)J"⟩, 9) := ⟨⟨by decide +kernel, by decide +kernel⟩, List.mem_of_getElem? (i := 102) (by decide +kernel), List.mem_of_getElem? (i := 225) (by decide +kernel), List.mem_of_getElem? (i := 226) (by decide +kernel)⟩
theorem lw_p3 : lw_okq (⟨"SawGrids$Bench", "planColumn", "(III)V"⟩, 9) := ⟨⟨by decide +kernel, by decide +kernel⟩, List.mem_of_getElem? (i := 102) (by decide +kernel), List.mem_of_getElem? (i := 229) (by decide +kernel), List.mem_of_getElem? (i := 230) (by decide +kernel)⟩
theorem lw_p4 : lw_okq (⟨"SawGrids$Bench", "xAt", "(II)I"⟩, 9) := ⟨⟨by decide +kernel, by decide +kernel⟩, List.mem_of_getElem? (i := 102) (by decide +kernel), List.mem_of_getElem? (i := 233) (by decide +kernel), List.mem_of_getElem? (i := 234) (by decide +kernel)⟩
theorem lw_p5 : lw_okq (⟨"SawGrids$Bench", "yAt", "(II)I"⟩, 9) := ⟨⟨by decide +kernel, by decide +kernel⟩, List.mem_of_getElem? (i := 102) (by decide +kernel), List.mem_of_getElem? (i := 237) (by decide +kernel), List.mem_of_getElem? (i := 238) (by decide +kernel)⟩
theorem lw_p6 : lw_okq (⟨"SawGrids$Bench", "layOutSlab", "(LSawGrids$Pattern;II)V"⟩, 9) := ⟨⟨by decide +kernel, by decide +kernel⟩, List.mem_of_getElem? (i := 102) (by decide +kernel), List.mem_of_getElem? (i := 272) (by decide +kernel), List.mem_of_getElem? (i := 273) (by decide +kernel)⟩
theorem lw_p7 : lw_okq (⟨"SawGrids$Bench", "layOutBoard", "(LSawGrids$Pattern;III)V"⟩, 9) := ⟨⟨by decide +kernel, by decide +kernel⟩, List.mem_of_getElem? (i := 102) (by decide +kernel), List.mem_of_getElem? (i := 283) (by decide +kernel), List.mem_of_getElem? (i := 284) (by decide +kernel)⟩
theorem lw_p8 : lw_okq (⟨"java/lang/Throwable", "fillInStackTrace", "(I)Ljava/lang/Throwable;"⟩, 6) := ⟨⟨by decide +kernel, by decide +kernel⟩, List.mem_of_getElem? (i := 358) (by decide +kernel), List.mem_of_getElem? (i := 356) (by decide +kernel), List.mem_of_getElem? (i := 357) (by decide +kernel)⟩
theorem lw_p9 : lw_okq (⟨"SawGrids", "refuseUnsawn", "()V"⟩, 7) := ⟨⟨by decide +kernel, by decide +kernel⟩, List.mem_of_getElem? (i := 16) (by decide +kernel), List.mem_of_getElem? (i := 468) (by decide +kernel), List.mem_of_getElem? (i := 469) (by decide +kernel)⟩
theorem lw_p10 : lw_okq (⟨"SawGrids", "refuseNoBoard", "(I)V"⟩, 7) := ⟨⟨by decide +kernel, by decide +kernel⟩, List.mem_of_getElem? (i := 16) (by decide +kernel), List.mem_of_getElem? (i := 473) (by decide +kernel), List.mem_of_getElem? (i := 474) (by decide +kernel)⟩
theorem lw_p11 : lw_okq (⟨"SawGrids", "areApart", "(IIII)Z"⟩, 7) := ⟨⟨by decide +kernel, by decide +kernel⟩, List.mem_of_getElem? (i := 16) (by decide +kernel), List.mem_of_getElem? (i := 536) (by decide +kernel), List.mem_of_getElem? (i := 537) (by decide +kernel)⟩
theorem lw_p12 : lw_okq (⟨"SawGridsModel", "isCell", "(II)Z"⟩, 22) := ⟨⟨by decide +kernel, by decide +kernel⟩, List.mem_of_getElem? (i := 540) (by decide +kernel), List.mem_of_getElem? (i := 620) (by decide +kernel), List.mem_of_getElem? (i := 621) (by decide +kernel)⟩
theorem lw_p13 : lw_okq (⟨"SawGridsModel", "fill", "(I)V"⟩, 22) := ⟨⟨by decide +kernel, by decide +kernel⟩, List.mem_of_getElem? (i := 540) (by decide +kernel), List.mem_of_getElem? (i := 641) (by decide +kernel), List.mem_of_getElem? (i := 642) (by decide +kernel)⟩
theorem lw_p14 : lw_okq (⟨"SawGridsModel", "sums", "()V"⟩, 22) := ⟨⟨by decide +kernel, by decide +kernel⟩, List.mem_of_getElem? (i := 540) (by decide +kernel), List.mem_of_getElem? (i := 645) (by decide +kernel), List.mem_of_getElem? (i := 646) (by decide +kernel)⟩
theorem lw_p15 : lw_okq (⟨"SawGridsModel", "isWood", "(II)Z"⟩, 22) := ⟨⟨by decide +kernel, by decide +kernel⟩, List.mem_of_getElem? (i := 540) (by decide +kernel), List.mem_of_getElem? (i := 649) (by decide +kernel), List.mem_of_getElem? (i := 650) (by decide +kernel)⟩
def lw_privs_1 : List (MethodName × Nat) := [(⟨"SawGrids$Log", "sumUpRow", "(I)V"⟩, 6), (⟨"SawGrids$Bench", "planRow", "(I)V"⟩, 9), (⟨"SawGrids$Bench", "planSlab", "(II)J"⟩, 9), (⟨"SawGrids$Bench", "planColumn", "(III)V"⟩, 9), (⟨"SawGrids$Bench", "xAt", "(II)I"⟩, 9), (⟨"SawGrids$Bench", "yAt", "(II)I"⟩, 9), (⟨"SawGrids$Bench", "layOutSlab", "(LSawGrids$Pattern;II)V"⟩, 9), (⟨"SawGrids$Bench", "layOutBoard", "(LSawGrids$Pattern;III)V"⟩, 9), (⟨"java/lang/Throwable", "fillInStackTrace", "(I)Ljava/lang/Throwable;"⟩, 6), (⟨"SawGrids", "refuseUnsawn", "()V"⟩, 7), (⟨"SawGrids", "refuseNoBoard", "(I)V"⟩, 7), (⟨"SawGrids", "areApart", "(IIII)Z"⟩, 7), (⟨"SawGridsModel", "isCell", "(II)Z"⟩, 22), (⟨"SawGridsModel", "fill", "(I)V"⟩, 22), (⟨"SawGridsModel", "sums", "()V"⟩, 22), (⟨"SawGridsModel", "isWood", "(II)Z"⟩, 22)]
theorem lw_r1 : ∀ q ∈ lw_privs_1, lw_okq q := List.forall_mem_cons.mpr ⟨lw_p0, List.forall_mem_cons.mpr ⟨lw_p1, List.forall_mem_cons.mpr ⟨lw_p2, List.forall_mem_cons.mpr ⟨lw_p3, List.forall_mem_cons.mpr ⟨lw_p4, List.forall_mem_cons.mpr ⟨lw_p5, List.forall_mem_cons.mpr ⟨lw_p6, List.forall_mem_cons.mpr ⟨lw_p7, List.forall_mem_cons.mpr ⟨lw_p8, List.forall_mem_cons.mpr ⟨lw_p9, List.forall_mem_cons.mpr ⟨lw_p10, List.forall_mem_cons.mpr ⟨lw_p11, List.forall_mem_cons.mpr ⟨lw_p12, List.forall_mem_cons.mpr ⟨lw_p13, List.forall_mem_cons.mpr ⟨lw_p14, List.forall_mem_cons.mpr ⟨lw_p15, fun _ h => absurd h List.not_mem_nil⟩⟩⟩⟩⟩⟩⟩⟩⟩⟩⟩⟩⟩⟩⟩⟩
theorem lw_p16 : lw_okq (⟨"SawGridsModel", "isThick", "(I)Z"⟩, 22) := ⟨⟨by decide +kernel, by decide +kernel⟩, List.mem_of_getElem? (i := 540) (by decide +kernel), List.mem_of_getElem? (i := 653) (by decide +kernel), List.mem_of_getElem? (i := 654) (by decide +kernel)⟩
theorem lw_p17 : lw_okq (⟨"SawGridsModel", "slab", "(III)V"⟩, 22) := ⟨⟨by decide +kernel, by decide +kernel⟩, List.mem_of_getElem? (i := 540) (by decide +kernel), List.mem_of_getElem? (i := 657) (by decide +kernel), List.mem_of_getElem? (i := 658) (by decide +kernel)⟩
theorem lw_p18 : lw_okq (⟨"SawGridsModel", "mayIn", "(IIIII)Z"⟩, 22) := ⟨⟨by decide +kernel, by decide +kernel⟩, List.mem_of_getElem? (i := 540) (by decide +kernel), List.mem_of_getElem? (i := 664) (by decide +kernel), List.mem_of_getElem? (i := 665) (by decide +kernel)⟩
theorem lw_p19 : lw_okq (⟨"SawGridsModel", "fits", "(IIII)Z"⟩, 22) := ⟨⟨by decide +kernel, by decide +kernel⟩, List.mem_of_getElem? (i := 540) (by decide +kernel), List.mem_of_getElem? (i := 668) (by decide +kernel), List.mem_of_getElem? (i := 669) (by decide +kernel)⟩
theorem lw_p20 : lw_okq (⟨"SawGridsModel", "alongX", "(II)I"⟩, 22) := ⟨⟨by decide +kernel, by decide +kernel⟩, List.mem_of_getElem? (i := 540) (by decide +kernel), List.mem_of_getElem? (i := 672) (by decide +kernel), List.mem_of_getElem? (i := 673) (by decide +kernel)⟩
theorem lw_p21 : lw_okq (⟨"SawGridsModel", "alongY", "(II)I"⟩, 22) := ⟨⟨by decide +kernel, by decide +kernel⟩, List.mem_of_getElem? (i := 540) (by decide +kernel), List.mem_of_getElem? (i := 676) (by decide +kernel), List.mem_of_getElem? (i := 677) (by decide +kernel)⟩
theorem lw_p22 : lw_okq (⟨"SawGridsModel", "over", "(ZIIII)I"⟩, 22) := ⟨⟨by decide +kernel, by decide +kernel⟩, List.mem_of_getElem? (i := 540) (by decide +kernel), List.mem_of_getElem? (i := 680) (by decide +kernel), List.mem_of_getElem? (i := 681) (by decide +kernel)⟩
theorem lw_p23 : lw_okq (⟨"SawGridsModel", "worthWith", "(IIIII)I"⟩, 22) := ⟨⟨by decide +kernel, by decide +kernel⟩, List.mem_of_getElem? (i := 540) (by decide +kernel), List.mem_of_getElem? (i := 684) (by decide +kernel), List.mem_of_getElem? (i := 685) (by decide +kernel)⟩
theorem lw_p24 : lw_okq (⟨"SawGridsModel", "brings", "(IIII)I"⟩, 22) := ⟨⟨by decide +kernel, by decide +kernel⟩, List.mem_of_getElem? (i := 540) (by decide +kernel), List.mem_of_getElem? (i := 688) (by decide +kernel), List.mem_of_getElem? (i := 689) (by decide +kernel)⟩
theorem lw_p25 : lw_okq (⟨"SawGridsModel", "behind", "(II)I"⟩, 22) := ⟨⟨by decide +kernel, by decide +kernel⟩, List.mem_of_getElem? (i := 540) (by decide +kernel), List.mem_of_getElem? (i := 692) (by decide +kernel), List.mem_of_getElem? (i := 693) (by decide +kernel)⟩
theorem lw_p26 : lw_okq (⟨"SawGridsModel", "countWith", "(IIII)I"⟩, 22) := ⟨⟨by decide +kernel, by decide +kernel⟩, List.mem_of_getElem? (i := 540) (by decide +kernel), List.mem_of_getElem? (i := 696) (by decide +kernel), List.mem_of_getElem? (i := 697) (by decide +kernel)⟩
theorem lw_p27 : lw_okq (⟨"SawGridsModel", "hasSlab", "(II)Z"⟩, 22) := ⟨⟨by decide +kernel, by decide +kernel⟩, List.mem_of_getElem? (i := 540) (by decide +kernel), List.mem_of_getElem? (i := 703) (by decide +kernel), List.mem_of_getElem? (i := 704) (by decide +kernel)⟩
theorem lw_p28 : lw_okq (⟨"SawGridsModel", "walk", "(I)V"⟩, 22) := ⟨⟨by decide +kernel, by decide +kernel⟩, List.mem_of_getElem? (i := 540) (by decide +kernel), List.mem_of_getElem? (i := 707) (by decide +kernel), List.mem_of_getElem? (i := 708) (by decide +kernel)⟩
theorem lw_p29 : lw_okq (⟨"SawGridsModel", "walkSlab", "(III)V"⟩, 22) := ⟨⟨by decide +kernel, by decide +kernel⟩, List.mem_of_getElem? (i := 540) (by decide +kernel), List.mem_of_getElem? (i := 711) (by decide +kernel), List.mem_of_getElem? (i := 712) (by decide +kernel)⟩
theorem lw_p30 : lw_okq (⟨"SawGridsModel", "add", "(IIII)V"⟩, 22) := ⟨⟨by decide +kernel, by decide +kernel⟩, List.mem_of_getElem? (i := 540) (by decide +kernel), List.mem_of_getElem? (i := 715) (by decide +kernel), List.mem_of_getElem? (i := 716) (by decide +kernel)⟩
theorem lw_p31 : lw_okq (⟨"SawGridsModel", "bareOf", "(I)I"⟩, 22) := ⟨⟨by decide +kernel, by decide +kernel⟩, List.mem_of_getElem? (i := 540) (by decide +kernel), List.mem_of_getElem? (i := 723) (by decide +kernel), List.mem_of_getElem? (i := 724) (by decide +kernel)⟩
def lw_privs_2 : List (MethodName × Nat) := [(⟨"SawGridsModel", "isThick", "(I)Z"⟩, 22), (⟨"SawGridsModel", "slab", "(III)V"⟩, 22), (⟨"SawGridsModel", "mayIn", "(IIIII)Z"⟩, 22), (⟨"SawGridsModel", "fits", "(IIII)Z"⟩, 22), (⟨"SawGridsModel", "alongX", "(II)I"⟩, 22), (⟨"SawGridsModel", "alongY", "(II)I"⟩, 22), (⟨"SawGridsModel", "over", "(ZIIII)I"⟩, 22), (⟨"SawGridsModel", "worthWith", "(IIIII)I"⟩, 22), (⟨"SawGridsModel", "brings", "(IIII)I"⟩, 22), (⟨"SawGridsModel", "behind", "(II)I"⟩, 22), (⟨"SawGridsModel", "countWith", "(IIII)I"⟩, 22), (⟨"SawGridsModel", "hasSlab", "(II)Z"⟩, 22), (⟨"SawGridsModel", "walk", "(I)V"⟩, 22), (⟨"SawGridsModel", "walkSlab", "(III)V"⟩, 22), (⟨"SawGridsModel", "add", "(IIII)V"⟩, 22), (⟨"SawGridsModel", "bareOf", "(I)I"⟩, 22)]
theorem lw_r2 : ∀ q ∈ lw_privs_2, lw_okq q := List.forall_mem_cons.mpr ⟨lw_p16, List.forall_mem_cons.mpr ⟨lw_p17, List.forall_mem_cons.mpr ⟨lw_p18, List.forall_mem_cons.mpr ⟨lw_p19, List.forall_mem_cons.mpr ⟨lw_p20, List.forall_mem_cons.mpr ⟨lw_p21, List.forall_mem_cons.mpr ⟨lw_p22, List.forall_mem_cons.mpr ⟨lw_p23, List.forall_mem_cons.mpr ⟨lw_p24, List.forall_mem_cons.mpr ⟨lw_p25, List.forall_mem_cons.mpr ⟨lw_p26, List.forall_mem_cons.mpr ⟨lw_p27, List.forall_mem_cons.mpr ⟨lw_p28, List.forall_mem_cons.mpr ⟨lw_p29, List.forall_mem_cons.mpr ⟨lw_p30, List.forall_mem_cons.mpr ⟨lw_p31, fun _ h => absurd h List.not_mem_nil⟩⟩⟩⟩⟩⟩⟩⟩⟩⟩⟩⟩⟩⟩⟩⟩
theorem lw_p32 : lw_okq (⟨"SawGridsModel", "woodCells", "()I"⟩, 22) := ⟨⟨by decide +kernel, by decide +kernel⟩, List.mem_of_getElem? (i := 540) (by decide +kernel), List.mem_of_getElem? (i := 739) (by decide +kernel), List.mem_of_getElem? (i := 740) (by decide +kernel)⟩
theorem lw_p33 : lw_okq (⟨"SawGridsModel", "isApart", "(III)Z"⟩, 22) := ⟨⟨by decide +kernel, by decide +kernel⟩, List.mem_of_getElem? (i := 540) (by decide +kernel), List.mem_of_getElem? (i := 751) (by decide +kernel), List.mem_of_getElem? (i := 752) (by decide +kernel)⟩
def lw_privs_3 : List (MethodName × Nat) := [(⟨"SawGridsModel", "woodCells", "()I"⟩, 22), (⟨"SawGridsModel", "isApart", "(III)Z"⟩, 22)]
theorem lw_r3 : ∀ q ∈ lw_privs_3, lw_okq q := List.forall_mem_cons.mpr ⟨lw_p32, List.forall_mem_cons.mpr ⟨lw_p33, fun _ h => absurd h List.not_mem_nil⟩⟩
def lw_privs : List (MethodName × Nat) := lw_privs_1 ++ (lw_privs_2 ++ (lw_privs_3))
def lw_tbl : List Cond := k2_sels lw_privs ++ tables_1
theorem lw_privs_ok : ∀ q ∈ lw_privs, lw_okq q := by
  show ∀ q ∈ lw_privs_1 ++ (lw_privs_2 ++ (lw_privs_3)), lw_okq q
  exact List.forall_mem_append.mpr ⟨lw_r1, List.forall_mem_append.mpr ⟨lw_r2, lw_r3⟩⟩
end
section
/-! numbers: an Int32 by an integer; a truth as 0 or 1; a long by an integer -/
def iI (z : Int) : Int32 := Int32.ofInt z
theorem iI_add (a b : Int) : iI a + iI b = iI (a + b) := (Int32.ofInt_add a b).symm
theorem iI_sub (a b : Int) : iI a - iI b = iI (a - b) := (Int32.ofInt_sub a b).symm
theorem iI_mul (a b : Int) : iI a * iI b = iI (a * b) := (Int32.ofInt_mul a b).symm
theorem iI_of (n : Nat) : nI n = iI (n : Int) := (Int32.ofInt_eq_ofNat (n := n)).symm
theorem iI_self (x : Int32) : x = iI x.toInt := (Int32.ofInt_toInt x).symm
theorem iI_t {z : Int} (h1 : -2147483648 ≤ z) (h2 : z < 2147483648) : (iI z).toInt = z := Int32.toInt_ofInt_of_le (by omega) (by omega)
theorem nI_t {n : Nat} (h : n < 2147483648) : (nI n).toInt = (n : Int) := nI_toInt (by omega)
theorem i0_t : (0 : Int32).toInt = 0 := rfl
theorem iI_lo (x : Int32) : -2147483648 ≤ x.toInt := by
  have h := Int32.le_toInt x
  omega
theorem iI_hi (x : Int32) : x.toInt < 2147483648 := by
  have h := Int32.toInt_lt x
  omega
theorem iI_inj {x y : Int32} (h : x.toInt = y.toInt) : x = y := Int32.toInt_inj.mp h
theorem nI_eqi {n : Nat} {z : Int} (h : (n : Int) = z) : nI n = iI z := by rw [iI_of, h]
theorem iI_eqn {n : Nat} {z : Int} (h : z = (n : Int)) : iI z = nI n := by rw [iI_of, h]
noncomputable def pI (P : Prop) : Int32 := @ite Int32 P (Classical.propDecidable P) 1 0
theorem pI_t {P : Prop} (h : P) : pI P = 1 := by unfold pI; exact if_pos h
theorem pI_f {P : Prop} (h : ¬ P) : pI P = 0 := by unfold pI; exact if_neg h
theorem pI_0 {P : Prop} : pI P = 0 ↔ ¬ P := by
  refine ⟨fun h q => ?_, pI_f⟩
  rw [pI_t q] at h
  exact absurd h (by decide)
theorem pI_n0 {P : Prop} : ¬ pI P = 0 ↔ P := by
  rw [pI_0]
  exact Classical.not_not
theorem pI_1 {P : Prop} (h : P) : nI 1 = pI P := by
  rw [pI_t h]; decide +kernel
theorem pI_z {P : Prop} (h : ¬ P) : nI 0 = pI P := by
  rw [pI_f h]; decide +kernel
theorem pI_iff {P P' : Prop} (h : P ↔ P') : pI P = pI P' := by rw [propext h]
theorem pI_inj {P P' : Prop} : pI P = pI P' ↔ (P ↔ P') := by
  refine ⟨fun h => ?_, pI_iff⟩
  rcases Classical.em P with a | a <;> rcases Classical.em P' with b | b
  · exact ⟨fun _ => b, fun _ => a⟩
  · rw [pI_t a, pI_f b] at h; exact absurd h (by decide)
  · rw [pI_f a, pI_t b] at h; exact absurd h (by decide)
  · exact ⟨fun q => absurd q a, fun q => absurd q b⟩
theorem pI_nar (P : Prop) : vp_nar .boolean (pI P) = pI P := by
  rcases Classical.em P with h | h
  · rw [pI_t h]; rfl
  · rw [pI_f h]; rfl
theorem pI_narrow (P : Prop) : narrow .boolean (.int (pI P)) = .int (pI P) := by
  rcases Classical.em P with h | h
  · rw [pI_t h]; rfl
  · rw [pI_f h]; rfl
theorem pI_fits (P : Prop) : fits .boolean (.int (pI P)) = true := by
  rcases Classical.em P with h | h
  · rw [pI_t h]; rfl
  · rw [pI_f h]; rfl
def lI (z : Int) : Int64 := Int64.ofInt z
theorem lI_add (a b : Int) : lI a + lI b = lI (a + b) := (Int64.ofInt_add a b).symm
theorem lI_sub (a b : Int) : lI a - lI b = lI (a - b) := (Int64.ofInt_sub a b).symm
theorem lI_mul (a b : Int) : lI a * lI b = lI (a * b) := (Int64.ofInt_mul a b).symm
theorem lI_t {z : Int} (h1 : -9223372036854775808 ≤ z) (h2 : z < 9223372036854775808) : (lI z).toInt = z := Int64.toInt_ofInt_of_le (by omega) (by omega)
theorem lI_i {x : Int32} {z : Int} (h : x.toInt = z) : x.toInt64 = lI z := by
  have e : x.toInt64.toInt = z := by rw [Int32.toInt_toInt64]; exact h
  rw [← e]
  exact (Int64.ofInt_toInt _).symm
theorem cm_lt32 {x y : Int32} {a b : Int} (hx : x.toInt = a) (hy : y.toInt = b) : x < y ↔ a < b := by rw [Int32.lt_iff_toInt_lt, hx, hy]
theorem cm_le32 {x y : Int32} {a b : Int} (hx : x.toInt = a) (hy : y.toInt = b) : x ≤ y ↔ a ≤ b := by rw [Int32.le_iff_toInt_le, hx, hy]
theorem cm_eq32 {x y : Int32} {a b : Int} (hx : x.toInt = a) (hy : y.toInt = b) : x = y ↔ a = b := by rw [← Int32.toInt_inj, hx, hy]
theorem cm_lt64 {x y : Int64} {a b : Int} (hx : x.toInt = a) (hy : y.toInt = b) : x < y ↔ a < b := by rw [Int64.lt_iff_toInt_lt, hx, hy]
theorem cm_eq64 {x y : Int64} {a b : Int} (hx : x.toInt = a) (hy : y.toInt = b) : x = y ↔ a = b := by rw [← Int64.toInt_inj, hx, hy]
theorem mmax32 {x y : Int32} {a b : Int} (hx : x.toInt = a) (hy : y.toInt = b) : (if x < y then y else x) = iI (max a b) := by
  by_cases h : a < b
  · rw [if_pos ((cm_lt32 hx hy).mpr h), show max a b = b by omega, ← hy]; exact iI_self y
  · rw [if_neg (fun q => h ((cm_lt32 hx hy).mp q)), show max a b = a by omega, ← hx]; exact iI_self x
theorem mmin32 {x y : Int32} {a b : Int} (hx : x.toInt = a) (hy : y.toInt = b) : (if y < x then y else x) = iI (min a b) := by
  by_cases h : b < a
  · rw [if_pos ((cm_lt32 hy hx).mpr h), show min a b = b by omega, ← hy]; exact iI_self y
  · rw [if_neg (fun q => h ((cm_lt32 hy hx).mp q)), show min a b = a by omega, ← hx]; exact iI_self x
theorem nI_ofI {x : Int32} (h : 0 ≤ x.toInt) : ∃ X : Nat, X < 2147483648 ∧ x = nI X ∧ (nI X).toInt = (X : Int) := by
  have h2 := iI_hi x
  have hb : x.toInt.toNat < 2147483648 := by omega
  have he : (nI x.toInt.toNat).toInt = (x.toInt.toNat : Int) := nI_t hb
  exact ⟨x.toInt.toNat, hb, iI_inj (by rw [he]; omega), he⟩
theorem kN_clamp {i : Int32} {k : Nat} (hi : i.toInt = (k : Int)) : i.toNatClampNeg = k := by
  show i.toInt.toNat = k
  rw [hi]
  exact Int.toNat_natCast k
theorem kN_in {i : Int32} {k n : Nat} (hi : i.toInt = (k : Int)) (hk : k < n) : vp_in i n := vp_in_iff.mpr (by rw [hi]; omega)
section KA
variable {p : Program} {l : Launch} {e : Env} {R : Room} {s : State} {m : MethodId} {args : Array Value} {below : List Frame} {meth : Method} {c : Code} {H : Heap} {locs : List Loc} {cells slots : Nat} {Q : State → Prop} {pc : Nat} {ls : Array Slot} {rest : List Value} {cc : ByteArray}
/-- another word for the top of the stack -/
theorem ka_i {x y : Int32} (h : x = y) (k : W p l e R s m args below meth c H locs cells slots Q (F0 m pc ls (.int y :: rest))) : W p l e R s m args below meth c H locs cells slots Q (F0 m pc ls (.int x :: rest)) := h ▸ k
theorem ka_l {x y : Int64} (h : x = y) (k : W p l e R s m args below meth c H locs cells slots Q (F0 m pc ls (.long y :: rest))) : W p l e R s m args below meth c H locs cells slots Q (F0 m pc ls (.long x :: rest)) := h ▸ k
theorem kb_clt {x y : Int32} {a b : Int} (hX : x.toInt = a) (hY : y.toInt = b) (hexec : p.tables.exec = Jvm.exec) (hb : c.code = cc) {off : Int} {tgt : Nat} (hdg : decode cc pc = .ok (.if_icmp .lt off, 3)) (ht : (pc : Int) + off = (tgt : Int)) (kt : a < b → W p l e R s m args below meth c H locs cells slots Q (F0 m tgt ls rest)) (kf : b ≤ a → W p l e R s m args below meth c H locs cells slots Q (F0 m (pc + 3) ls rest)) : W p l e R s m args below meth c H locs cells slots Q (F0 m pc ls (.int y :: .int x :: rest)) :=
  lv_icmp_lt hexec hb hdg ht (fun h => kt ((cm_lt32 hX hY).mp h)) (fun h => kf (Int.not_lt.mp ((not_congr (cm_lt32 hX hY)).mp h)))
theorem kb_cge {x y : Int32} {a b : Int} (hX : x.toInt = a) (hY : y.toInt = b) (hexec : p.tables.exec = Jvm.exec) (hb : c.code = cc) {off : Int} {tgt : Nat} (hdg : decode cc pc = .ok (.if_icmp .ge off, 3)) (ht : (pc : Int) + off = (tgt : Int)) (kt : b ≤ a → W p l e R s m args below meth c H locs cells slots Q (F0 m tgt ls rest)) (kf : a < b → W p l e R s m args below meth c H locs cells slots Q (F0 m (pc + 3) ls rest)) : W p l e R s m args below meth c H locs cells slots Q (F0 m pc ls (.int y :: .int x :: rest)) :=
  lv_icmp_ge hexec hb hdg ht (fun h => kt ((cm_le32 hY hX).mp h)) (fun h => kf (Int.not_le.mp ((not_congr (cm_le32 hY hX)).mp h)))
theorem kb_cgt {x y : Int32} {a b : Int} (hX : x.toInt = a) (hY : y.toInt = b) (hexec : p.tables.exec = Jvm.exec) (hb : c.code = cc) {off : Int} {tgt : Nat} (hdg : decode cc pc = .ok (.if_icmp .gt off, 3)) (ht : (pc : Int) + off = (tgt : Int)) (kt : b < a → W p l e R s m args below meth c H locs cells slots Q (F0 m tgt ls rest)) (kf : a ≤ b → W p l e R s m args below meth c H locs cells slots Q (F0 m (pc + 3) ls rest)) : W p l e R s m args below meth c H locs cells slots Q (F0 m pc ls (.int y :: .int x :: rest)) :=
  lv_icmp_gt hexec hb hdg ht (fun h => kt ((cm_lt32 hY hX).mp h)) (fun h => kf (Int.not_lt.mp ((not_congr (cm_lt32 hY hX)).mp h)))
theorem kb_cle {x y : Int32} {a b : Int} (hX : x.toInt = a) (hY : y.toInt = b) (hexec : p.tables.exec = Jvm.exec) (hb : c.code = cc) {off : Int} {tgt : Nat} (hdg : decode cc pc = .ok (.if_icmp .le off, 3)) (ht : (pc : Int) + off = (tgt : Int)) (kt : a ≤ b → W p l e R s m args below meth c H locs cells slots Q (F0 m tgt ls rest)) (kf : b < a → W p l e R s m args below meth c H locs cells slots Q (F0 m (pc + 3) ls rest)) : W p l e R s m args below meth c H locs cells slots Q (F0 m pc ls (.int y :: .int x :: rest)) :=
  lv_icmp_le hexec hb hdg ht (fun h => kt ((cm_le32 hX hY).mp h)) (fun h => kf (Int.not_le.mp ((not_congr (cm_le32 hX hY)).mp h)))
theorem kb_ceq {x y : Int32} {a b : Int} (hX : x.toInt = a) (hY : y.toInt = b) (hexec : p.tables.exec = Jvm.exec) (hb : c.code = cc) {off : Int} {tgt : Nat} (hdg : decode cc pc = .ok (.if_icmp .eq off, 3)) (ht : (pc : Int) + off = (tgt : Int)) (kt : a = b → W p l e R s m args below meth c H locs cells slots Q (F0 m tgt ls rest)) (kf : a ≠ b → W p l e R s m args below meth c H locs cells slots Q (F0 m (pc + 3) ls rest)) : W p l e R s m args below meth c H locs cells slots Q (F0 m pc ls (.int y :: .int x :: rest)) :=
  lv_icmp_eq hexec hb hdg ht (fun h => kt ((cm_eq32 hX hY).mp h)) (fun h => kf ((not_congr (cm_eq32 hX hY)).mp h))
theorem kb_cne {x y : Int32} {a b : Int} (hX : x.toInt = a) (hY : y.toInt = b) (hexec : p.tables.exec = Jvm.exec) (hb : c.code = cc) {off : Int} {tgt : Nat} (hdg : decode cc pc = .ok (.if_icmp .ne off, 3)) (ht : (pc : Int) + off = (tgt : Int)) (kt : a ≠ b → W p l e R s m args below meth c H locs cells slots Q (F0 m tgt ls rest)) (kf : a = b → W p l e R s m args below meth c H locs cells slots Q (F0 m (pc + 3) ls rest)) : W p l e R s m args below meth c H locs cells slots Q (F0 m pc ls (.int y :: .int x :: rest)) :=
  lv_icmp_ne hexec hb hdg ht (fun h => kt ((not_congr (cm_eq32 hX hY)).mp h)) (fun h => kf ((cm_eq32 hX hY).mp h))
theorem kb_lt {x : Int32} {a : Int} (hX : x.toInt = a) (hexec : p.tables.exec = Jvm.exec) (hb : c.code = cc) {off : Int} {tgt : Nat} (hdg : decode cc pc = .ok (.ifCond .lt off, 3)) (ht : (pc : Int) + off = (tgt : Int)) (kt : a < 0 → W p l e R s m args below meth c H locs cells slots Q (F0 m tgt ls rest)) (kf : 0 ≤ a → W p l e R s m args below meth c H locs cells slots Q (F0 m (pc + 3) ls rest)) : W p l e R s m args below meth c H locs cells slots Q (F0 m pc ls (.int x :: rest)) :=
  lv_if_lt hexec hb hdg ht (fun h => kt ((cm_lt32 hX i0_t).mp h)) (fun h => kf (Int.not_lt.mp ((not_congr (cm_lt32 hX i0_t)).mp h)))
theorem kb_ge {x : Int32} {a : Int} (hX : x.toInt = a) (hexec : p.tables.exec = Jvm.exec) (hb : c.code = cc) {off : Int} {tgt : Nat} (hdg : decode cc pc = .ok (.ifCond .ge off, 3)) (ht : (pc : Int) + off = (tgt : Int)) (kt : 0 ≤ a → W p l e R s m args below meth c H locs cells slots Q (F0 m tgt ls rest)) (kf : a < 0 → W p l e R s m args below meth c H locs cells slots Q (F0 m (pc + 3) ls rest)) : W p l e R s m args below meth c H locs cells slots Q (F0 m pc ls (.int x :: rest)) :=
  lv_if_ge hexec hb hdg ht (fun h => kt ((cm_le32 i0_t hX).mp h)) (fun h => kf (Int.not_le.mp ((not_congr (cm_le32 i0_t hX)).mp h)))
theorem kb_gt {x : Int32} {a : Int} (hX : x.toInt = a) (hexec : p.tables.exec = Jvm.exec) (hb : c.code = cc) {off : Int} {tgt : Nat} (hdg : decode cc pc = .ok (.ifCond .gt off, 3)) (ht : (pc : Int) + off = (tgt : Int)) (kt : 0 < a → W p l e R s m args below meth c H locs cells slots Q (F0 m tgt ls rest)) (kf : a ≤ 0 → W p l e R s m args below meth c H locs cells slots Q (F0 m (pc + 3) ls rest)) : W p l e R s m args below meth c H locs cells slots Q (F0 m pc ls (.int x :: rest)) :=
  lv_if_gt hexec hb hdg ht (fun h => kt ((cm_lt32 i0_t hX).mp h)) (fun h => kf (Int.not_lt.mp ((not_congr (cm_lt32 i0_t hX)).mp h)))
theorem kb_le {x : Int32} {a : Int} (hX : x.toInt = a) (hexec : p.tables.exec = Jvm.exec) (hb : c.code = cc) {off : Int} {tgt : Nat} (hdg : decode cc pc = .ok (.ifCond .le off, 3)) (ht : (pc : Int) + off = (tgt : Int)) (kt : a ≤ 0 → W p l e R s m args below meth c H locs cells slots Q (F0 m tgt ls rest)) (kf : 0 < a → W p l e R s m args below meth c H locs cells slots Q (F0 m (pc + 3) ls rest)) : W p l e R s m args below meth c H locs cells slots Q (F0 m pc ls (.int x :: rest)) :=
  lv_if_le hexec hb hdg ht (fun h => kt ((cm_le32 hX i0_t).mp h)) (fun h => kf (Int.not_le.mp ((not_congr (cm_le32 hX i0_t)).mp h)))
theorem kb_eq {x : Int32} {a : Int} (hX : x.toInt = a) (hexec : p.tables.exec = Jvm.exec) (hb : c.code = cc) {off : Int} {tgt : Nat} (hdg : decode cc pc = .ok (.ifCond .eq off, 3)) (ht : (pc : Int) + off = (tgt : Int)) (kt : a = 0 → W p l e R s m args below meth c H locs cells slots Q (F0 m tgt ls rest)) (kf : a ≠ 0 → W p l e R s m args below meth c H locs cells slots Q (F0 m (pc + 3) ls rest)) : W p l e R s m args below meth c H locs cells slots Q (F0 m pc ls (.int x :: rest)) :=
  lv_if_eq hexec hb hdg ht (fun h => kt ((cm_eq32 hX i0_t).mp h)) (fun h => kf ((not_congr (cm_eq32 hX i0_t)).mp h))
theorem kb_ne {x : Int32} {a : Int} (hX : x.toInt = a) (hexec : p.tables.exec = Jvm.exec) (hb : c.code = cc) {off : Int} {tgt : Nat} (hdg : decode cc pc = .ok (.ifCond .ne off, 3)) (ht : (pc : Int) + off = (tgt : Int)) (kt : a ≠ 0 → W p l e R s m args below meth c H locs cells slots Q (F0 m tgt ls rest)) (kf : a = 0 → W p l e R s m args below meth c H locs cells slots Q (F0 m (pc + 3) ls rest)) : W p l e R s m args below meth c H locs cells slots Q (F0 m pc ls (.int x :: rest)) :=
  lv_if_ne hexec hb hdg ht (fun h => kt ((not_congr (cm_eq32 hX i0_t)).mp h)) (fun h => kf ((cm_eq32 hX i0_t).mp h))
theorem kb_eqP {P : Prop} (hexec : p.tables.exec = Jvm.exec) (hb : c.code = cc) {off : Int} {tgt : Nat} (hdg : decode cc pc = .ok (.ifCond .eq off, 3)) (ht : (pc : Int) + off = (tgt : Int)) (kt : ¬ P → W p l e R s m args below meth c H locs cells slots Q (F0 m tgt ls rest)) (kf : P → W p l e R s m args below meth c H locs cells slots Q (F0 m (pc + 3) ls rest)) : W p l e R s m args below meth c H locs cells slots Q (F0 m pc ls (.int (pI P) :: rest)) :=
  lv_if_eq hexec hb hdg ht (fun h => kt (pI_0.mp h)) (fun h => kf (pI_n0.mp h))
theorem kb_neP {P : Prop} (hexec : p.tables.exec = Jvm.exec) (hb : c.code = cc) {off : Int} {tgt : Nat} (hdg : decode cc pc = .ok (.ifCond .ne off, 3)) (ht : (pc : Int) + off = (tgt : Int)) (kt : P → W p l e R s m args below meth c H locs cells slots Q (F0 m tgt ls rest)) (kf : ¬ P → W p l e R s m args below meth c H locs cells slots Q (F0 m (pc + 3) ls rest)) : W p l e R s m args below meth c H locs cells slots Q (F0 m pc ls (.int (pI P) :: rest)) :=
  lv_if_ne hexec hb hdg ht (fun h => kt (pI_n0.mp h)) (fun h => kf (pI_0.mp h))
theorem kb_ceqP {P P' : Prop} (hexec : p.tables.exec = Jvm.exec) (hb : c.code = cc) {off : Int} {tgt : Nat} (hdg : decode cc pc = .ok (.if_icmp .eq off, 3)) (ht : (pc : Int) + off = (tgt : Int)) (kt : (P ↔ P') → W p l e R s m args below meth c H locs cells slots Q (F0 m tgt ls rest)) (kf : ¬ (P ↔ P') → W p l e R s m args below meth c H locs cells slots Q (F0 m (pc + 3) ls rest)) : W p l e R s m args below meth c H locs cells slots Q (F0 m pc ls (.int (pI P') :: .int (pI P) :: rest)) :=
  lv_icmp_eq hexec hb hdg ht (fun h => kt (pI_inj.mp h)) (fun h => kf ((not_congr pI_inj).mp h))
end KA
/-- how two longs lie -/
def cmpI (a b : Int) : Int := if b < a then 1 else if a = b then 0 else -1
theorem cmpI_gt {a b : Int} : 0 < cmpI a b ↔ b < a := by
  unfold cmpI
  split
  · omega
  · split <;> omega
theorem cmpI_lt {a b : Int} : cmpI a b < 0 ↔ a < b := by
  unfold cmpI
  split
  · omega
  · split <;> omega
theorem cmpI_eq {a b : Int} : cmpI a b = 0 ↔ a = b := by
  unfold cmpI
  split
  · omega
  · split <;> omega
theorem cmpI_le {a b : Int} : cmpI a b ≤ 0 ↔ a ≤ b := by
  unfold cmpI
  split
  · omega
  · split <;> omega
theorem cmpI_ge {a b : Int} : 0 ≤ cmpI a b ↔ b ≤ a := by
  unfold cmpI
  split
  · omega
  · split <;> omega
theorem cmpI_t {x y : Int64} {a b : Int} (hx : x.toInt = a) (hy : y.toInt = b) : lg_cmp x y = iI (cmpI a b) := by
  unfold lg_cmp cmpI
  by_cases h1 : b < a
  · rw [if_pos ((cm_lt64 hy hx).mpr h1), if_pos h1]; rfl
  · rw [if_neg (fun h => h1 ((cm_lt64 hy hx).mp h)), if_neg h1]
    by_cases h2 : a = b
    · rw [if_pos ((cm_eq64 hx hy).mpr h2), if_pos h2]; rfl
    · rw [if_neg (fun h => h2 ((cm_eq64 hx hy).mp h)), if_neg h2]; rfl
section KB
variable {p : Program} {l : Launch} {e : Env} {R : Room} {s : State} {m : MethodId} {args : Array Value} {below : List Frame} {meth : Method} {c : Code} {H : Heap} {locs : List Loc} {cells slots : Nat} {Q : State → Prop} {pc : Nat} {ls : Array Slot} {rest st0 : List Value} {cc : ByteArray}
variable {D : va_G} {cl : List vw_C} {tys : List (ClassId × FieldType)} {ws : va_W} {a : Nat} {A : Nat → Prop} {H0 : Heap} {cA : ClassId} {n k : Nat} {i : Int32}
theorem ka_lcmp {x y : Int64} {a b : Int} (hX : x.toInt = a) (hY : y.toInt = b) (hexec : p.tables.exec = Jvm.exec) (hb : c.code = cc) (hdg : decode cc pc = .ok (.lcmp, 1)) (k : W p l e R s m args below meth c H locs cells slots Q (F0 m (pc + 1) ls (.int (iI (cmpI a b)) :: rest))) : W p l e R s m args below meth c H locs cells slots Q (F0 m pc ls (.long y :: .long x :: rest)) :=
  W.lcmp hexec hb hdg (by rw [cmpI_t hX hY]; exact k)
theorem ka_iald {f : Nat → Int32} (hi : i.toInt = (k : Int)) (hk : k < n) (hexec : p.tables.exec = Jvm.exec) (hb : c.code = cc) (hK : va_K D cl tys s) (hP : va_P D cl ws H) (q0 t0 : Nat) (ha : ws[q0]? = some (a, .inl (cA, n, .inl f))) (ht : tys[t0]? = some (cA, .int)) (hdg : decode cc pc = .ok (.iaload, 1))
    (kk : W p l e R s m args below meth c H locs cells slots Q (F0 m (pc + 1) ls (.int (f k) :: rest))) : W p l e R s m args below meth c H locs cells slots Q (F0 m pc ls (.int i :: .ref a :: rest)) := by
  refine va_iald hexec hb hK hP q0 t0 ha ht (kN_in hi hk) hdg ?_
  rw [kN_clamp hi]
  exact kk
theorem ka_zald {f : Nat → Int32} (hi : i.toInt = (k : Int)) (hk : k < n) (hexec : p.tables.exec = Jvm.exec) (hb : c.code = cc) (hK : va_K D cl tys s) (hP : va_P D cl ws H) (q0 t0 : Nat) (ha : ws[q0]? = some (a, .inl (cA, n, .inl f))) (ht : tys[t0]? = some (cA, .boolean)) (hdg : decode cc pc = .ok (.baload, 1))
    (kk : W p l e R s m args below meth c H locs cells slots Q (F0 m (pc + 1) ls (.int (f k) :: rest))) : W p l e R s m args below meth c H locs cells slots Q (F0 m pc ls (.int i :: .ref a :: rest)) := by
  refine va_zald hexec hb hK hP q0 t0 ha ht (kN_in hi hk) hdg ?_
  rw [kN_clamp hi]
  exact kk
theorem ka_lald {f : Nat → Int64} (hi : i.toInt = (k : Int)) (hk : k < n) (hexec : p.tables.exec = Jvm.exec) (hb : c.code = cc) (hK : va_K D cl tys s) (hP : va_P D cl ws H) (q0 t0 : Nat) (ha : ws[q0]? = some (a, .inl (cA, n, .inr (.inl f)))) (ht : tys[t0]? = some (cA, .long)) (hdg : decode cc pc = .ok (.laload, 1))
    (kk : W p l e R s m args below meth c H locs cells slots Q (F0 m (pc + 1) ls (.long (f k) :: rest))) : W p l e R s m args below meth c H locs cells slots Q (F0 m pc ls (.int i :: .ref a :: rest)) := by
  refine va_lald hexec hb hK hP q0 t0 ha ht (kN_in hi hk) hdg ?_
  rw [kN_clamp hi]
  exact kk
theorem ka_iast {f : Nat → Int32} {x : Int32} (hi : i.toInt = (k : Int)) (hk : k < n) (hexec : p.tables.exec = Jvm.exec) (hb : c.code = cc) (hK : va_K D cl tys s) (hP : va_P D cl ws H) (hD : va_D A ws) (hS : va_S A H0 H locs) (q0 t0 : Nat) (ha : ws[q0]? = some (a, .inl (cA, n, .inl f))) (ht : tys[t0]? = some (cA, .int)) (hdg : decode cc pc = .ok (.iastore, 1))
    (kk : ∀ (H1 : Heap) (locs1 : List Loc), va_P D cl (ws.set q0 (a, .inl (cA, n, .inl (upd f k x)))) H1 → va_D A (ws.set q0 (a, .inl (cA, n, .inl (upd f k x)))) → va_S A H0 H1 locs1 → W p l e R s m args below meth c H1 locs1 cells slots Q (F0 m (pc + 1) ls rest)) : W p l e R s m args below meth c H locs cells slots Q (F0 m pc ls (.int x :: .int i :: .ref a :: rest)) := by
  refine va_iast hexec hb hK hP hD hS q0 t0 ha ht (kN_in hi hk) hdg (fun H1 locs1 p1 d1 s1 => ?_)
  rw [kN_clamp hi] at p1 d1
  exact kk H1 locs1 p1 d1 s1
theorem ka_zast {f : Nat → Int32} {x : Int32} (hn : vp_nar .boolean x = x) (hi : i.toInt = (k : Int)) (hk : k < n) (hexec : p.tables.exec = Jvm.exec) (hb : c.code = cc) (hK : va_K D cl tys s) (hP : va_P D cl ws H) (hD : va_D A ws) (hS : va_S A H0 H locs) (q0 t0 : Nat) (ha : ws[q0]? = some (a, .inl (cA, n, .inl f))) (ht : tys[t0]? = some (cA, .boolean)) (hdg : decode cc pc = .ok (.bastore, 1))
    (kk : ∀ (H1 : Heap) (locs1 : List Loc), va_P D cl (ws.set q0 (a, .inl (cA, n, .inl (upd f k x)))) H1 → va_D A (ws.set q0 (a, .inl (cA, n, .inl (upd f k x)))) → va_S A H0 H1 locs1 → W p l e R s m args below meth c H1 locs1 cells slots Q (F0 m (pc + 1) ls rest)) : W p l e R s m args below meth c H locs cells slots Q (F0 m pc ls (.int x :: .int i :: .ref a :: rest)) := by
  refine va_zast hexec hb hK hP hD hS q0 t0 ha ht (kN_in hi hk) hdg (fun H1 locs1 p1 d1 s1 => ?_)
  rw [kN_clamp hi, hn] at p1 d1
  exact kk H1 locs1 p1 d1 s1
theorem ka_last {f : Nat → Int64} {x : Int64} (hi : i.toInt = (k : Int)) (hk : k < n) (hexec : p.tables.exec = Jvm.exec) (hb : c.code = cc) (hK : va_K D cl tys s) (hP : va_P D cl ws H) (hD : va_D A ws) (hS : va_S A H0 H locs) (q0 t0 : Nat) (ha : ws[q0]? = some (a, .inl (cA, n, .inr (.inl f)))) (ht : tys[t0]? = some (cA, .long)) (hdg : decode cc pc = .ok (.lastore, 1))
    (kk : ∀ (H1 : Heap) (locs1 : List Loc), va_P D cl (ws.set q0 (a, .inl (cA, n, .inr (.inl (vp_updL f k x))))) H1 → va_D A (ws.set q0 (a, .inl (cA, n, .inr (.inl (vp_updL f k x))))) → va_S A H0 H1 locs1 → W p l e R s m args below meth c H1 locs1 cells slots Q (F0 m (pc + 1) ls rest)) : W p l e R s m args below meth c H locs cells slots Q (F0 m pc ls (.long x :: .int i :: .ref a :: rest)) := by
  refine va_last hexec hb hK hP hD hS q0 t0 ha ht (kN_in hi hk) hdg (fun H1 locs1 p1 d1 s1 => ?_)
  rw [kN_clamp hi] at p1 d1
  exact kk H1 locs1 p1 d1 s1
end KB
theorem upd_nI (F : Nat → Nat) (k v : Nat) : upd (fun j => nI (F j)) k (nI v) = fun j => nI (va_up F k v j) := by
  funext j
  unfold upd va_up
  split <;> rfl
theorem upd_iI (F : Nat → Int) (k : Nat) (v : Int) : upd (fun j => iI (F j)) k (iI v) = fun j => iI (va_up F k v j) := by
  funext j
  unfold upd va_up
  split <;> rfl
theorem upd_pI (F : Nat → Prop) (k : Nat) (v : Prop) : upd (fun j => pI (F j)) k (pI v) = fun j => pI (va_up F k v j) := by
  funext j
  unfold upd va_up
  split <;> rfl
theorem upd_lI (F : Nat → Int) (k : Nat) (v : Int) : vp_updL (fun j => lI (F j)) k (lI v) = fun j => lI (va_up F k v j) := by
  funext j
  unfold vp_updL va_up
  split <;> rfl
section KD
variable {p : Program} {l : Launch} {e : Env} {R : Room} {s : State} {m : MethodId} {args : Array Value} {below : List Frame} {meth : Method} {c : Code} {H : Heap} {locs : List Loc} {cells slots : Nat} {Q : State → Prop} {pc : Nat} {ls : Array Slot} {rest st0 : List Value} {cc : ByteArray}
variable {D : va_G} {cl : List vw_C} {tys : List (ClassId × FieldType)} {ws : va_W} {a : Nat} {A : Nat → Prop} {H0 : Heap} {cA : ClassId} {n k : Nat} {i : Int32}
theorem ka_iastN {F : Nat → Nat} {v : Nat} (hi : i.toInt = (k : Int)) (hk : k < n) (hexec : p.tables.exec = Jvm.exec) (hb : c.code = cc) (hK : va_K D cl tys s) (hP : va_P D cl ws H) (hD : va_D A ws) (hS : va_S A H0 H locs) (q0 t0 : Nat) (ha : ws[q0]? = some (a, .inl (cA, n, .inl (fun j => nI (F j))))) (ht : tys[t0]? = some (cA, .int)) (hdg : decode cc pc = .ok (.iastore, 1))
    (kk : ∀ (H1 : Heap) (locs1 : List Loc), va_P D cl (ws.set q0 (a, .inl (cA, n, .inl (fun j => nI (va_up F k v j))))) H1 → va_D A (ws.set q0 (a, .inl (cA, n, .inl (fun j => nI (va_up F k v j))))) → va_S A H0 H1 locs1 → W p l e R s m args below meth c H1 locs1 cells slots Q (F0 m (pc + 1) ls rest)) : W p l e R s m args below meth c H locs cells slots Q (F0 m pc ls (.int (nI v) :: .int i :: .ref a :: rest)) := by
  refine ka_iast hi hk hexec hb hK hP hD hS q0 t0 ha ht hdg (fun H1 locs1 p1 d1 s1 => ?_)
  rw [upd_nI] at p1 d1
  exact kk H1 locs1 p1 d1 s1
theorem ka_iastI {F : Nat → Int} {v : Int} (hi : i.toInt = (k : Int)) (hk : k < n) (hexec : p.tables.exec = Jvm.exec) (hb : c.code = cc) (hK : va_K D cl tys s) (hP : va_P D cl ws H) (hD : va_D A ws) (hS : va_S A H0 H locs) (q0 t0 : Nat) (ha : ws[q0]? = some (a, .inl (cA, n, .inl (fun j => iI (F j))))) (ht : tys[t0]? = some (cA, .int)) (hdg : decode cc pc = .ok (.iastore, 1))
    (kk : ∀ (H1 : Heap) (locs1 : List Loc), va_P D cl (ws.set q0 (a, .inl (cA, n, .inl (fun j => iI (va_up F k v j))))) H1 → va_D A (ws.set q0 (a, .inl (cA, n, .inl (fun j => iI (va_up F k v j))))) → va_S A H0 H1 locs1 → W p l e R s m args below meth c H1 locs1 cells slots Q (F0 m (pc + 1) ls rest)) : W p l e R s m args below meth c H locs cells slots Q (F0 m pc ls (.int (iI v) :: .int i :: .ref a :: rest)) := by
  refine ka_iast hi hk hexec hb hK hP hD hS q0 t0 ha ht hdg (fun H1 locs1 p1 d1 s1 => ?_)
  rw [upd_iI] at p1 d1
  exact kk H1 locs1 p1 d1 s1
theorem ka_zastP {F : Nat → Prop} {v : Prop} (hi : i.toInt = (k : Int)) (hk : k < n) (hexec : p.tables.exec = Jvm.exec) (hb : c.code = cc) (hK : va_K D cl tys s) (hP : va_P D cl ws H) (hD : va_D A ws) (hS : va_S A H0 H locs) (q0 t0 : Nat) (ha : ws[q0]? = some (a, .inl (cA, n, .inl (fun j => pI (F j))))) (ht : tys[t0]? = some (cA, .boolean)) (hdg : decode cc pc = .ok (.bastore, 1))
    (kk : ∀ (H1 : Heap) (locs1 : List Loc), va_P D cl (ws.set q0 (a, .inl (cA, n, .inl (fun j => pI (va_up F k v j))))) H1 → va_D A (ws.set q0 (a, .inl (cA, n, .inl (fun j => pI (va_up F k v j))))) → va_S A H0 H1 locs1 → W p l e R s m args below meth c H1 locs1 cells slots Q (F0 m (pc + 1) ls rest)) : W p l e R s m args below meth c H locs cells slots Q (F0 m pc ls (.int (pI v) :: .int i :: .ref a :: rest)) := by
  refine ka_zast (pI_nar v) hi hk hexec hb hK hP hD hS q0 t0 ha ht hdg (fun H1 locs1 p1 d1 s1 => ?_)
  rw [upd_pI] at p1 d1
  exact kk H1 locs1 p1 d1 s1
theorem ka_lastI {F : Nat → Int} {v : Int} (hi : i.toInt = (k : Int)) (hk : k < n) (hexec : p.tables.exec = Jvm.exec) (hb : c.code = cc) (hK : va_K D cl tys s) (hP : va_P D cl ws H) (hD : va_D A ws) (hS : va_S A H0 H locs) (q0 t0 : Nat) (ha : ws[q0]? = some (a, .inl (cA, n, .inr (.inl (fun j => lI (F j)))))) (ht : tys[t0]? = some (cA, .long)) (hdg : decode cc pc = .ok (.lastore, 1))
    (kk : ∀ (H1 : Heap) (locs1 : List Loc), va_P D cl (ws.set q0 (a, .inl (cA, n, .inr (.inl (fun j => lI (va_up F k v j)))))) H1 → va_D A (ws.set q0 (a, .inl (cA, n, .inr (.inl (fun j => lI (va_up F k v j)))))) → va_S A H0 H1 locs1 → W p l e R s m args below meth c H1 locs1 cells slots Q (F0 m (pc + 1) ls rest)) : W p l e R s m args below meth c H locs cells slots Q (F0 m pc ls (.long (lI v) :: .int i :: .ref a :: rest)) := by
  refine ka_last hi hk hexec hb hK hP hD hS q0 t0 ha ht hdg (fun H1 locs1 p1 d1 s1 => ?_)
  rw [upd_lI] at p1 d1
  exact kk H1 locs1 p1 d1 s1
end KD
end
section
/-! an exception on its way: thrown out of a method, through a call, into a handler -/
section XA
variable {E : CtlPost} {e : Env} {d : Bool} {acts : List Action} {s : State} {f : JFrame} {a : Addr} {Q : Handler → Pre}
/-- one row of a table that covers the place, its class linked or not yet: it takes what fits, else the search goes on, over tables that know the class -/
theorem xt_row {x : ExceptionTableEntry} {t : List ExceptionTableEntry} {c : ClassId} {cell : Cell} (hx : covers x f.pc = true) (h0 : x.catchType ≠ 0)
    (hl : s.vm.ClassLinks e.platform f.method.cls x.catchType c) (hcell : s.heap[a]? = some cell) (hobj : ∀ k, cell.vm ≠ .statics k)
    (hk : ∃ k, s.vm.classes[cell.cls]? = some k) (hc : ∃ k, s.vm.classes[c]? = some k) :
    wp (findHandler.go f a (x :: t)) Q E e d acts s ↔ if s.vm.assignable cell.cls c = true then Q (.found x.handlerPc) d acts (s.setVm (s.vm.noted f.method.cls x.catchType (.cls c))) else wp (findHandler.go f a t) Q E e d acts (s.setVm (s.vm.noted f.method.cls x.catchType (.cls c))) := by
  have hal : s.vm.Alike (s.vm.noted f.method.cls x.catchType (.cls c)) := (Vm.Alike.refl s.vm).noted _ _ _
  obtain ⟨ka, hka⟩ := hk
  obtain ⟨kb, hkb⟩ := hc
  obtain ⟨ka', hka', -⟩ := hal.2.2 _ _ hka
  obtain ⟨kb', hkb', -⟩ := hal.2.2 _ _ hkb
  obtain ⟨g1, g2⟩ := (resolveClass_links e.toSetting hl).op (op := VmOp.resolveClass f.method.cls x.catchType) rfl
  have hsame : (s.vm.noted f.method.cls x.catchType (.cls c)).assignable cell.cls c = s.vm.assignable cell.cls c := hal.assignable _ _
  simp only [covers] at hx
  cases hfit : s.vm.assignable cell.cls c <;> rw [hfit] at hsame <;>
    simp [findHandler.go, hx, h0, g1, g2, hcell, hobj, hka', hkb', hsame, VmOp.dirties, VmOp.acts]
end XA
/-- a row that doesn't take an object of this class -/
def xt_no (pl : Platform) (s : State) (d : ClassId) (pc : Nat) (k : ClassId) (y : ExceptionTableEntry) : Prop := covers y pc = false ∨ (y.catchType ≠ 0 ∧ ∃ c, s.vm.ClassLinks pl d y.catchType c ∧ s.vm.assignable k c = false)
theorem xt_search {e : Env} {s : State} {f : JFrame} {a : Addr} {cell : Cell} (hobj : ∀ k, cell.vm ≠ .statics k) (hk0 : ∃ k, s.vm.classes[cell.cls]? = some k) {x : ExceptionTableEntry} {suf : List ExceptionTableEntry} {cx : ClassId}
    (hx : covers x f.pc = true) (h0 : x.catchType ≠ 0) (hl : s.vm.ClassLinks e.platform f.method.cls x.catchType cx) (hf : s.vm.assignable cell.cls cx = true) :
    ∀ (pre : List ExceptionTableEntry), (∀ y ∈ pre, xt_no e.platform s f.method.cls f.pc cell.cls y) → ∀ U : State, s.WarmedH U.vm → U.heap[a]? = some cell →
      ∃ v, s.WarmedH v ∧ ∀ (Q : Handler → Pre) (E : CtlPost) (d : Bool) (acts : List Action), wp (findHandler.go f a (pre ++ x :: suf)) Q E e d acts U ↔ Q (.found x.handlerPc) d acts (U.setVm v) := by
  obtain ⟨k0, hk0⟩ := hk0
  have known : ∀ (U : State), s.WarmedH U.vm → ∀ {i : Nat} {c : ClassId}, s.vm.ClassLinks e.platform f.method.cls i c → s.WarmedH (U.vm.noted f.method.cls i (.cls c)) ∧ (∃ k, U.vm.classes[c]? = some k) ∧ ∃ k, U.vm.classes[cell.cls]? = some k := by
    intro U hW i c hc
    obtain ⟨dk, _, _, kt, hd, _, _, _, _, hkt, _, hopen⟩ := hc.here
    obtain ⟨k1, e1, -⟩ := hW.alike.2.2 _ _ hkt
    obtain ⟨k2, e2, -⟩ := hW.alike.2.2 _ _ hk0
    exact ⟨hW.noted hd hopen (State.rightAt_cls hc), ⟨k1, e1⟩, ⟨k2, e2⟩⟩
  intro pre
  induction pre with
  | nil =>
    intro _ U hW hcell
    obtain ⟨w1, w2, w3⟩ := known U hW hl
    refine ⟨_, w1, fun Q E d acts => ?_⟩
    rw [List.nil_append, xt_row hx h0 (hW.classLinks hl) hcell hobj w3 w2, if_pos (by rw [hW.alike.assignable]; exact hf)]
  | cons y ys ih =>
    intro hno U hW hcell
    have hys := ih (fun z hz => hno z (List.mem_cons_of_mem _ hz))
    rcases hno y List.mem_cons_self with h | ⟨hy0, c, hc, hnf⟩
    · obtain ⟨v, hv, hq⟩ := hys U hW hcell
      exact ⟨v, hv, fun Q E d acts => by rw [List.cons_append, Jvm.W.findHandler_go_skip h]; exact hq Q E d acts⟩
    · cases hcov : covers y f.pc with
      | false =>
        obtain ⟨v, hv, hq⟩ := hys U hW hcell
        exact ⟨v, hv, fun Q E d acts => by rw [List.cons_append, Jvm.W.findHandler_go_skip hcov]; exact hq Q E d acts⟩
      | true =>
        obtain ⟨w1, w2, w3⟩ := known U hW hc
        obtain ⟨v, hv, hq⟩ := hys (U.setVm (U.vm.noted f.method.cls y.catchType (.cls c))) w1 hcell
        refine ⟨v, hv, fun Q E d acts => ?_⟩
        rw [List.cons_append, xt_row hcov hy0 (hW.classLinks hc) hcell hobj w3 w2, if_neg (by rw [hW.alike.assignable, hnf]; decide)]
        exact hq Q E d acts
section XB
variable {p : Program} {l : Launch} {e : Env} {R : Room} {s : State} {m : MethodId} {args : Array Value} {below : List Frame} {meth : Method} {c : Code} {H : Heap} {locs : List Loc} {cells slots : Nat} {Q : State → Prop}
/-- the machine with the exception a above the frame g -/
def xt_W (p : Program) (l : Launch) (e : Env) (R : Room) (s : State) (m : MethodId) (args : Array Value) (below : List Frame) (meth : Method) (c : Code) (H : Heap) (locs : List Loc) (cells slots : Nat) (Q : State → Prop) (g : JFrame) (a : Addr) : Prop :=
  ∀ T : State, T.heap = H → Stand p l e R s m args below meth c T locs cells slots → ∃ t, Steps p.tables e below ((T.setTop g).pushFrame (.throwing a)) t ∧ Q t
/-- caught by a row of the method's own table -/
theorem xt_catch {own name : String} {pc : Nat} {ls : Array Slot} {st : List Value} {a : Addr} {cell : Cell} (hown : s.vm.findClass own = some m.cls) (pre : List ExceptionTableEntry) (x : ExceptionTableEntry) (suf : List ExceptionTableEntry) (hsplit : c.exceptionTable.toList = pre ++ x :: suf)
    (hno : ∀ y ∈ pre, covers y pc = false ∨ (y.catchType ≠ 0 ∧ ∃ nm : String, (Cond.classLink own y.catchType nm).before args s = true ∧ ∀ k, s.vm.findClass nm = some k → s.vm.assignable cell.cls k = false)) (hx : covers x pc = true) (h0 : x.catchType ≠ 0)
    (hlink : (Cond.classLink own x.catchType name).before args s = true) (hfit : ∀ k, s.vm.findClass name = some k → s.vm.assignable cell.cls k = true) (hcell : H[a]? = some cell) (hv : cell.vm.isStatics = false) (hk : ∃ k, s.vm.classes[cell.cls]? = some k)
    (kk : W p l e R s m args below meth c H locs cells slots Q (F0 m x.handlerPc ls [.ref a])) : xt_W p l e R s m args below meth c H locs cells slots Q (F0 m pc ls st) a := by
  intro T hT X
  have hpl : e.platform.magicAccessors = ({} : Platform).magicAccessors := by rw [X.admits.platform]
  obtain ⟨cx, hcx, hlx⟩ := Cond.classLink_spec hown hlink e.platform hpl
  obtain ⟨v, hv', hq⟩ := xt_search (e := e) (s := s) (f := F0 m pc ls st) (a := a) (cell := cell) (suf := suf) (VmData.ne_statics_of hv) hk hx h0 hlx (hfit cx hcx) pre
    (fun y hy => by
      rcases hno y hy with h | ⟨hy0, nm, hl1, hn1⟩
      · exact Or.inl h
      · obtain ⟨c1, hc1, hl2⟩ := Cond.classLink_spec hown hl1 e.platform hpl
        exact Or.inr ⟨hy0, c1, hl2, hn1 c1 hc1⟩) ((T.setTop (F0 m pc ls st)).pushFrame (.throwing a)) (by rw [Stand.throwing_vm]; exact X.warmed) (by rw [Stand.throwing_heap, hT]; exact hcell)
  obtain ⟨t, st1, hQ⟩ := kk (T.setVm v) hT (X.noted hv')
  refine ⟨t, ?_, hQ⟩
  obtain ⟨hgo, hw⟩ := X.here.throwing (g := F0 m pc ls st) a
  refine Steps.head hgo hw ?_
  have hfind : ∀ (Q : Handler → Pre) (E : CtlPost) (d : Bool) (acts : List Action), wp (findHandler (F0 m pc ls st) a) Q E e d acts ((T.setTop (F0 m pc ls st)).pushFrame (.throwing a)) ↔ Q (.found x.handlerPc) d acts (((T.setTop (F0 m pc ls st)).pushFrame (.throwing a)).setVm v) := fun Q E d acts => by
    rw [Jvm.W.findHandler_eq (meth := meth) (code := c) (by rw [Stand.throwing_vm]; exact X.method') X.code, hsplit]
    exact hq Q E d acts
  have hstep : ∀ r : List Frame, (stepThrowing e ((T.setTop (F0 m pc ls st)).pushFrame (.throwing a)) a (.java (F0 m pc ls st) :: r)).1 = (((T.setTop (F0 m pc ls st)).pushFrame (.throwing a)).setVm v).setFrames (.java { F0 m pc ls st with pc := x.handlerPc, stack := [.ref a] } :: r) := by
    intro r
    simp only [stepThrowing, searchFrame, vmDo]
    generalize hr : Sem.go _ e false [] ((T.setTop (F0 m pc ls st)).pushFrame (.throwing a)) = res
    obtain ⟨as, rfl, ha⟩ := Sem.eq_ok_of hr (a := Handler.found x.handlerPc) (s' := ((T.setTop (F0 m pc ls st)).pushFrame (.throwing a)).setVm v) (acts' := []) (by simp [hfind _ _ _ _])
    rfl
  rw [stepThread_throwing (frames_entered X.here.top _), hstep]
  obtain ⟨g₀, hg⟩ := Option.isSome_iff_exists.mp X.here.top
  obtain ⟨r, hr⟩ := State.topJava?_eq_some.mp hg
  have hr' : (T.setVm v).frames = .java g₀ :: r := hr
  rw [State.setTop_of_frames _ hr'] at st1
  have e1 : (((T.setTop (F0 m pc ls st)).pushFrame (.throwing a)).setVm v).setFrames (.java { F0 m pc ls st with pc := x.handlerPc, stack := [.ref a] } :: T.frames.tail) = (T.setVm v).setFrames (.java (F0 m x.handlerPc ls [.ref a]) :: r) := by
    rw [hr, List.tail_cons, State.pushFrame, State.setTop_of_frames _ hr]
    show (((((T.setFrames (.java (F0 m pc ls st) :: r)).setFrames (Frame.throwing a :: (T.setFrames (.java (F0 m pc ls st) :: r)).frames)).setVm v)).setFrames _) = _
    have sw : ∀ (u : State) (F : List Frame), (u.setFrames F).setVm v = (u.setVm v).setFrames F := fun _ _ => rfl
    rw [sw, sw, State.setFrames_setFrames, State.setFrames_setFrames]
  rw [e1]
  exact st1
/-- it leaves the method -/
def xt_Q (Qx : Array Value → State → Addr → State → Prop) (mc ms : Nat) (free : Addr → Prop) (a : Array Value) (st : State) (o : Outcome) (t : State) : Prop :=
  ∃ x : Addr, o = .threw x ∧ Qx a st x t ∧ ∃ L, (st.WarmedH t.vm ∧ st.sameButNew ({ t with vm := st.vm } : State) L mc ms) ∧ ∀ q ∈ L, free q.base
def xt_MQ (below : List Frame) (Qx : Array Value → State → Addr → State → Prop) (a : Array Value) (s : State) (mc ms : Nat) (free : Addr → Prop) : State → Prop := fun t => ∃ o, t.status = .running ∧ Ended t below o ∧ xt_Q Qx mc ms free a s o t
def xt_Met (l : Launch) (y : MethodName) (ws : List Cond) (rm : Room) (Pc : Array Value → State → Prop) (Qx : Array Value → State → Addr → State → Prop) (mc ms : Nat) (free : Addr → Prop) : Prop :=
  MetFree l y (headSpec ws rm) Pc (fun _ _ _ _ _ => True) (xt_Q Qx mc ms free)
theorem xt_out {Qx : Array Value → State → Addr → State → Prop} {free : Addr → Prop} {mc ms : Nat} {pc : Nat} {ls : Array Slot} {st : List Value} {a : Addr} (hout : ∀ x ∈ c.exceptionTable.toList, covers x pc = false) (hlocks : meth.locks = false)
    (hq : ∀ t : State, t.heap = H → s.WarmedH t.vm → Qx args s a t) (hf : ∀ q ∈ locs, free q.base) (hc : cells ≤ mc) (hs : slots ≤ ms) : xt_W p l e R s m args below meth c H locs cells slots (xt_MQ below Qx args s mc ms free) (F0 m pc ls st) a := by
  intro T hT X
  obtain ⟨st1, hrun, hend, hW, hsm⟩ := X.leaveThrown a (g := F0 m pc ls st) rfl rfl rfl hout hlocks
  exact ⟨_, st1, _, hrun, hend, a, rfl, hq _ hT hW, locs, ⟨hW, hsm.mono hc hs⟩, hf⟩
theorem xt_ofW {y : MethodName} {ws ws' : List Cond} {rm : Room} {Pc : Array Value → State → Prop} {Qx : Array Value → State → Addr → State → Prop} {mc ms : Nat} {free : Addr → Prop} {cc : ByteArray} {maxL : Nat} {ret : Option FieldType}
    (hy : plainName y.cls = true) (hw : ws = Cond.code y cc maxL ret :: ws')
    (body : ∀ p e s m args below meth c s₁, BodyLoose p l y (headSpec ws rm) cc maxL ret e s m args below meth c s₁ → c.maxLocals = maxL → c.exceptionTable.isEmpty = true → Pc args s →
      W p l e (headSpec ws rm).room s m args below meth c s.heap [] 0 0 (xt_MQ below Qx args s mc ms free) (entryFrame m args maxL)) : xt_Met l y ws rm Pc Qx mc ms free := by
  refine MetFree.of_bodyS (code := cc) (maxLocals := maxL) (ret := ret) hy ?_ ?_
  · intro args s m h hn
    obtain ⟨meth, c, h1, h2, h3, h4, h5, h6, -, -⟩ := Cond.code_spec hn (atoms_spec (ws := ws) h _ (by rw [hw]; exact List.mem_cons_self))
    exact ⟨meth, c, h1, h2, h3, h4, h5, h6⟩
  · intro p e s m args below meth c s₁ B hml hP _
    have hh0 : s₁.heap = s.heap := by rw [B.state]; rfl
    have hno : c.exceptionTable.isEmpty = true := BodyLoose.noHandlers B (atoms_spec (ws := ws) B.pre _ (by rw [hw]; exact List.mem_cons_self))
    obtain ⟨t, a1, o, b1, b2, b3⟩ := body p e s m args below meth c s₁ B hml hno hP s₁ hh0 (Stand.of_body B)
    exact ⟨t, o, a1, b1, b2, b3⟩
end XB
section XC
variable {p : Program} {l : Launch} {e : Env} {R : Room} {s : State} {m : MethodId} {args : Array Value} {below : List Frame} {meth : Method} {c : Code} {H : Heap} {locs : List Loc} {cells slots mc ms : Nat} {Q : State → Prop}
variable {ws ws' : List Cond} {rm : Room} {Pc : Array Value → State → Prop} {Qx : Array Value → State → Addr → State → Prop} {free : Addr → Prop} {y : MethodName} {bytes cc : ByteArray} {maxL : Nat} {ret : Option FieldType}
/-- a call whose callee throws: the exception stands above the caller's frame -/
theorem xt_core {U : State} (X : Stand p l e R s m args below meth c U locs cells slots) (hM : xt_Met l y ws rm Pc Qx mc ms free) {g : JFrame} (hg : g.method = m) (hsize : g.locals.size = c.maxLocals) {ig : Instr} {len : Nat} (hdg : decode c.code g.pc = .ok (ig, len)) {mk : MethodId} (hn : U.methodNamed? y = some mk) {a : Array Value}
    (hcode : Cond.code y bytes maxL ret ∈ ws) (hws : ∀ w ∈ ws, w.before a U = true) (hinit : (Cond.initialized y.cls).before a U = true) (hrc : rm.cells = mc) (hrs : rm.slots = ms) (hfr : rm.frames + 1 ≤ R.frames) (hlo : 8 + (maxL + 11) + rm.locals ≤ R.locals)
    (hW : 2 * g.monitorRoom + (g.stack.map fun v => v.category).sum ≤ 8) (hcl : cells + mc ≤ R.cells) (hsl : slots + ms ≤ R.slots) (hP : Pc a (U.calling g mk a)) :
    ∃ (x : Addr) (t T' : State) (L : List Loc), Stand p l e R s m args below meth c T' (locs ++ L) (cells + mc) (slots + ms) ∧ (∀ q ∈ L, free q.base) ∧ T'.heap = t.heap ∧ T'.vm = t.vm ∧ Qx a (U.calling g mk a) x t ∧
      Steps p.tables e below (doInvoke e (U.setTop g) [] mk a).1 ((T'.setTop g).pushFrame (.throwing x)) := by
  obtain ⟨methY, cY, hmY, hcY, -, hlY, -, -, -, -⟩ := Cond.code_spec hn (hws _ hcode)
  obtain ⟨kY, hkY, -⟩ := className_of_methodNamed hn
  have hinitY : kY.init = .initialized := Cond.initialized_spec (findClass_of_methodNamed hn) hkY hinit
  subst hg
  have h : At U g.method c below := X.here
  have happ : (headSpec ws rm).appliesLoose y e.platform (U.calling g mk a) = true :=
    Spec.appliesLoose_calling (g := g) h hdg hn hkY hinitY
      (X.room_calling (g := g) (R' := rm) hsize hmY hcY hfr (by rw [hlY]; omega) (by omega) (by omega)) (atoms_intro hws)
  obtain ⟨mid, hmid⟩ := h.above
  have hfr2 : (U.setTop g).frames = (.java g :: mid) ++ below := by rw [State.frames_setTop' g h.top, hmid]; rfl
  obtain ⟨o, s₂, hsteps, -, hend, hq⟩ := Steps.callFree hM p X.admits X.cas X.clock (acts := []) hfr2 happ hP trivial
  have hq' : xt_Q Qx mc ms free a (U.calling g mk a) o s₂ := hq
  obtain ⟨x, rfl, hQ, L, ⟨hW₂, e2, q2, q3, q4, q5, q6⟩, hL⟩ := hq'
  have hf₂ : s₂.frames = .throwing x :: (U.setTop g).frames := hend
  have hW' : U.WarmedH s₂.vm := hW₂
  obtain ⟨g₀, hg0⟩ := Option.isSome_iff_exists.mp h.top
  obtain ⟨r, hr⟩ := State.topJava?_eq_some.mp hg0
  have e3 : s₂ = ({ (U.calling g mk a).setFrames s₂.frames with heap := s₂.heap, slotsUsed := s₂.slotsUsed } : State).setVm s₂.vm := by
    have h9 : s₂ = ({ s₂ with vm := (U.calling g mk a).vm } : State).setVm s₂.vm := rfl
    rw [e2] at h9
    exact h9
  have hs₂ : s₂ = ((({ U with heap := s₂.heap, slotsUsed := s₂.slotsUsed } : State).setVm s₂.vm).setTop g).pushFrame (.throwing x) := by
    have hr' : (({ U with heap := s₂.heap, slotsUsed := s₂.slotsUsed } : State).setVm s₂.vm).frames = .java g₀ :: r := hr
    refine e3.trans ?_
    rw [hf₂, State.frames_setTop _ hr, State.calling_eq h.top, State.setFrames_setFrames, State.pushFrame, State.frames_setTop _ hr', State.setTop_of_frames _ hr', State.setFrames_setFrames]
    rfl
  have hsame : U.sameButNew ({ U with heap := s₂.heap, slotsUsed := s₂.slotsUsed } : State) L mc ms := by
    refine ⟨?_, q2, q3, q4, q5, q6⟩
    obtain ⟨t, ht, -⟩ := State.frames_cons hr
    show ({ U with heap := s₂.heap, slotsUsed := s₂.slotsUsed } : State) = { U.setFrames U.frames with heap := s₂.heap, slotsUsed := s₂.slotsUsed }
    rw [State.setFrames_self ht]
  refine ⟨x, s₂, ({ U with heap := s₂.heap, slotsUsed := s₂.slotsUsed } : State).setVm s₂.vm, L,
    ⟨X.admits, X.cas, X.clock, X.frames, X.room, X.hears, X.method, X.code, (X.here.setHeapUsed s₂.heap s₂.slotsUsed).setVm hW'.alike, X.tail, State.WarmedH.trans X.warmed hW', X.limits, X.bytes, X.same.trans (hsame.setVm s.vm)⟩, hL, rfl, rfl, hQ, ?_⟩
  rw [← hs₂]
  exact hsteps
/-- what a throwing call comes to -/
def xt_Run (p : Program) (l : Launch) (e : Env) (R : Room) (s : State) (m : MethodId) (args : Array Value) (below : List Frame) (meth : Method) (c : Code) (H : Heap) (locs : List Loc) (cells slots mc ms : Nat) (g : JFrame) (rest : List Value) (Qa : State → Addr → State → Prop) (free : Addr → Prop) : Prop :=
  ∀ T : State, T.heap = H → Stand p l e R s m args below meth c T locs cells slots → ∃ (x : Addr) (st₀ t T' : State) (L : List Loc), st₀.heap = H ∧ Stand p l e R s m args below meth c T' (locs ++ L) (cells + mc) (slots + ms) ∧ (∀ q ∈ L, free q.base) ∧ T'.heap = t.heap ∧ T'.vm = t.vm ∧ Qa st₀ x t ∧
    Steps p.tables e below (T.setTop g) ((T'.setTop { g with stack := rest }).pushFrame (.throwing x))
theorem xt_runV {nL n index : Nat} {Ts : List Cond} {own C : String} {b : Addr} {As rest : List Value} {g : JFrame} (S : CallFix p m c cc nL s args Ts own) (hM : xt_Met l y ws rm Pc Qx mc ms free) (cw : CallW R s args own C index y bytes maxL ret ws rm mc ms n) (hp : PreV s H C b Pc As)
    (hg : g.method = m) (hn : As.length = n) (hsize : g.locals.size = nL) (hstack : g.stack = As.reverse ++ .ref b :: rest) (hW : 2 * g.monitorRoom + (rest.map fun v => v.category).sum ≤ 8) (hdg : decode cc g.pc = .ok (.invokevirtual index, 3)) (hf : cells + mc ≤ R.cells ∧ slots + ms ≤ R.slots) :
    xt_Run p l e R s m args below meth c H locs cells slots mc ms g rest (Qx (Value.ref b :: As).toArray) free := by
  obtain ⟨⟨hrc, hrs, hfr, hlo, hws, hcw, hcode, hini, hy, hlen, hl⟩, hin, hse⟩ := cw
  obtain ⟨hx, hb, hml, ho, -⟩ := S
  obtain ⟨hbl, ⟨cellB, hcB, hoB, hclB⟩, hPc⟩ := hp
  intro T hT X
  obtain ⟨mk, methM, hnamed, hmethM, hstM, habM⟩ := Cond.instanceMethod_spec hin
  obtain ⟨methM', cM, hmethM', -, -, -, -, -, -, hsigM⟩ := Cond.code_spec hnamed hcode
  cases hmethM.symm.trans hmethM'
  obtain ⟨c2, r2, m2, q1, q2, q3, q4, kP, hkP, hkPi⟩ := Cond.selects_spec hse
  cases hclB.symm.trans q1
  cases (State.methodFound?_of_named hnamed hy).symm.trans q2
  cases hnamed.symm.trans q3
  have hselP : selectMethod e.platform s.vm cellB.cls mk = .method mk := by rw [Launch.admits_selectMethod X.admits]; exact q4
  have hdg' : decode c.code g.pc = .ok (.invokevirtual index, 3) := by rw [hb]; exact hdg
  obtain ⟨vm₁, X₁, hstep₁⟩ := X.invokevirtual hx ho hl hnamed hmethM hstM hkP hkPi hy (a := b) (cell := cellB) (by rw [hT]; exact hcB)
    (fun z h => by rw [h] at hoB; cases hoB) hselP hmethM habM hkP hkPi (g := g) hg (argsL := As) (rest := rest) (hn.trans (hlen _ hsigM)) hstack hdg'
  obtain ⟨x, t, T', L, X', hL, e1, e2, hQ, st⟩ := xt_core (X := X₁) hM (g := { g with stack := rest }) hg (hsize.trans hml.symm) hdg' (X₁.named hnamed) (a := (Value.ref b :: As).toArray) hcw (fun w hw => hws w hw _ _ X₁.warmed)
    (word_at X₁.warmed (Or.inl (by first | rfl | simp [Cond.onTables, Cond.keeps, Cond.steady])) hini) hrc hrs hfr hlo hW hf.1 hf.2 (hbl _ _ _ _ (hPc (T.setVm vm₁) hT X₁.warmed))
  exact ⟨x, (T.setVm vm₁).calling { g with stack := rest } mk (Value.ref b :: As).toArray, t, T', L, hT, X', hL, e1, e2, hQ, hstep₁ _ fun acts => by rw [doInvoke_state]; exact st⟩
end XC
/-- what a method that throws leaves: an object of the class cls, all old cells as they were -/
def xE (cls : String) : Array Value → State → Addr → State → Prop := fun _ st a t => (∃ ce : Cell, t.heap[a]? = some ce ∧ ce.vm = .none ∧ st.vm.findClass cls = some ce.cls) ∧ st.heap.size ≤ t.heap.size ∧ ∀ q : Nat, q < st.heap.size → t.heap[q]? = st.heap[q]?
theorem xt_frame {s U : State} {k n : Nat} (h : s.sameButNew ({ U with vm := s.vm } : State) [] k n) : s.heap.size ≤ U.heap.size ∧ ∀ q : Nat, q < s.heap.size → U.heap[q]? = s.heap[q]? := by
  obtain ⟨-, h2, -, -, -, h6⟩ := h
  refine ⟨h2, fun q hq => ?_⟩
  obtain ⟨c9, e1, e2, e3, e4⟩ := h6 q _ (Array.getElem?_eq_getElem hq)
  have hs : c9.slots = (s.heap[q]).slots := Array.ext_getElem? fun i => e4 i (fun hm => nomatch hm)
  have h9 : c9 = s.heap[q] := by
    rw [hs] at e2
    exact e2
  have e5 : U.heap[q]? = some c9 := e1
  rw [e5, h9, Array.getElem?_eq_getElem hq]
section XD
variable {p : Program} {l : Launch} {e : Env} {R : Room} {s : State} {m : MethodId} {args : Array Value} {below : List Frame} {meth : Method} {c : Code} {cc : ByteArray} {pc : Nat} {ls : Array Slot} {rest : List Value}
/-- 'throw new E("text")' of a method that has changed nothing -/
theorem xt_throwS {own cls text : String} {names : List String} {ik is ic sa : Nat} {free : Addr → Prop} (hexec : p.tables.exec = Jvm.exec) (hb : c.code = cc) (hl : l.stackTraces = false) (hown : s.vm.findClass own = some m.cls) (hcls : Bundle.fit cls = true) (hnames : ∀ n ∈ names, Bundle.fit n = true)
    (hk : (Cond.classLink own ik cls).before args s = true) (hini : (Cond.initialized cls).before args s = true) (hs1 : (Cond.stringRef own is text).before args s = true) (hs2 : (Term.string own is).eval args s none [] s = some (.ref sa)) (h : ∀ w ∈ Bundle.ownAtoms own ic cls names, w.before args s = true)
    (hsize : ls.size = c.maxLocals) (d0 : decode cc pc = .ok (.new ik, 3)) (d3 : decode cc (pc + 3) = .ok (.dup, 1)) (d4 : decode cc (pc + 4) = .ok (.ldc is, 2)) (d6 : decode cc (pc + 6) = .ok (.invokespecial ic, 3)) (d9 : decode cc (pc + 9) = .ok (.athrow, 1))
    (hout : c.exceptionTable.isEmpty = true) (hRframes : names.length + 3 < R.frames) (hRlocals : (rest.map fun v => v.category).sum + (13 * (names.length + 1) + 43) ≤ R.locals) (hRcells : 1 ≤ R.cells) (hRslots : 6 ≤ R.slots) (hlocks : meth.locks = false) :
    W p l e R s m args below meth c s.heap [] 0 0 (xt_MQ below (xE cls) args s 1 6 free) (F0 m pc ls rest) := by
  intro T hT X
  have htr : e.platform.stackTraces = false := (show e.platform.stackTraces = l.stackTraces by rw [X.admits.platform]).trans hl
  have hins : (Cond.instantiable cls 6).before args s = true := h _ (by simp [Bundle.ownAtoms])
  obtain ⟨vm₁, cX, kX, hfX, hkX, -, -, X₁, st1⟩ := X.newCold hexec (own := own) (C := cls) (index := ik) (n := 6) hown hk hins hini (g := F0 m pc ls rest) rfl (by rw [hb]; exact d0) (by omega) (by omega)
  generalize hT1 : (T.setVm vm₁).pushCell { cls := cX, slots := kX.instanceTypes.map defaultValue, vm := .none } = T1 at X₁ st1
  have hcellA : T1.heap[T.heap.size]? = some (freshCell cX kX) := by rw [← hT1]; exact State.heap_pushCell_size _ _
  have d3' : decode c.code (pc + 3) = .ok (.dup, 1) := by rw [hb]; exact d3
  have d4' : decode c.code (pc + 4) = .ok (.ldc is, 2) := by rw [hb]; exact d4
  have hcat : (Value.ref T.heap.size).category = 1 := rfl
  obtain ⟨U, hsteps, hrun, hend, hW, hsame, ce, hce, hO⟩ := X₁.ctorThrowS hexec htr (own := own) (cls := cls) (names := names) (ic := ic) hown hcls hnames h (fun x hx => nomatch hx) hfX hkX hcellA (by rw [hT]; exact Nat.le_refl _) (msg := .ref sa) rfl
    (g := { method := m, pc := pc + 6, locals := ls, stack := .ref sa :: .ref T.heap.size :: .ref T.heap.size :: rest, locked := none }) rfl hsize rfl rfl (rest := rest) rfl
    (by rw [hb]; exact d6) (by rw [hb]; exact d9) (fun x hx => by rw [Array.isEmpty_iff.mp hout] at hx; cases hx) hRframes (by simp only [List.map_cons, List.sum_cons, hcat]; omega) hlocks
  obtain ⟨f1, f2⟩ := xt_frame hsame
  refine ⟨U, st1 _ ?_, .threw T.heap.size, hrun, hend, T.heap.size, rfl, ⟨⟨ce, hce, hO.vm, hO.cls⟩, f1, f2⟩, [], ⟨hW, hsame.mono (by omega) (by omega)⟩, fun q hq => nomatch hq⟩
  show Steps p.tables e below (T1.setTop { method := m, pc := pc + 3, locals := ls, stack := .ref T.heap.size :: rest, locked := none }) _
  jvm_step X₁.here [X₁.here.top, hexec, d3', Value.category]
  exact X₁.ldcString hexec (own := own) (text := text) (index := is) (a := sa) hown hs1 hs2 (g := { method := m, pc := pc + 4, locals := ls, stack := .ref T.heap.size :: .ref T.heap.size :: rest, locked := none }) rfl d4' _ hsteps
end XD
end
section
/-! the words that every method may lean on, and those of nest mates -/
def okTbl : List Cond := lw_tbl.filter goodWord
def isNest : Cond → Bool
  | .fieldLinkNest .. => true
  | .methodLinkNest .. => true
  | _ => false
def nestTbl : List Cond := lw_tbl.filter isNest
def kZ (U : State) : Prop := ∀ w ∈ nestTbl, w.before #[] U = true
theorem ok_of {w : Cond} (h : w ∈ lw_tbl) (hg : goodWord w = true) : w ∈ okTbl := List.mem_filter.mpr ⟨h, hg⟩
theorem nest_of {w : Cond} (h : w ∈ lw_tbl) (hg : isNest w = true) : w ∈ nestTbl := List.mem_filter.mpr ⟨h, hg⟩
theorem ok_good {w : Cond} (h : w ∈ okTbl) : (w.onTables && w.keeps) = true ∨ ∃ ty, w = .arrayClass ty := good_of_word (List.mem_filter.mp h).2
theorem gd {c0 c1 : Cond} (h : c1 ∈ okTbl) : GoodIn (c0 :: okTbl) (c1 :: okTbl) := fun w hw => by
  rcases List.mem_cons.mp hw with rfl | hw
  · exact ⟨List.mem_cons_of_mem _ h, ok_good h⟩
  · exact ⟨List.mem_cons_of_mem _ hw, ok_good hw⟩
theorem gdL {c1 : Cond} (h : c1 ∈ okTbl) : GoodIn okTbl (c1 :: okTbl) := fun w hw => by
  rcases List.mem_cons.mp hw with rfl | hw
  · exact ⟨h, ok_good h⟩
  · exact ⟨hw, ok_good hw⟩
theorem kZ_same {u U : State} (h : u.vm = U.vm) (hz : kZ u) : kZ U := fun w hw => by
  have h2 : isNest w = true := (List.mem_filter.mp hw).2
  have h1 := hz w hw
  cases w <;> first | (simp [isNest] at h2; done) | exact va_tabs rfl h h1
theorem kZ_warm {s U : State} (hW : s.WarmedH U.vm) (hz : kZ s) : kZ U := fun w hw => by
  have h2 : isNest w = true := (List.mem_filter.mp hw).2
  have h1 := hz w hw
  cases w <;> first | (simp [isNest] at h2; done) | exact va_Nw.warmF hW h1 | exact va_Nw.warmM hW h1
/-! a contract's world at its start, and at its end -/
abbrev tyL (cI cJ cZ : ClassId) : List (ClassId × FieldType) := [(cI, .int), (cJ, .long), (cZ, .boolean)]
abbrev kR (D : va_G) (cl : List vw_C) (tys : List (ClassId × FieldType)) (ws : va_W) (U : State) : Prop := va_P D cl ws U.heap ∧ va_K D cl tys U ∧ kZ U
abbrev kB (D : va_G) (cl : List vw_C) (tys : List (ClassId × FieldType)) (sz : Nat) (ws : va_W) (U : State) : Prop := U.heap.size = sz ∧ va_P D cl ws U.heap ∧ va_K D cl tys U ∧ va_D (fun _ => True) ws ∧ kZ U
abbrev kE (D : va_G) (cl : List vw_C) (A : Nat → Prop) (ws : va_W) (t : State) : Prop := va_P D cl ws t.heap ∧ va_D A ws
theorem kB_blind {D : va_G} {cl : List vw_C} {tys : List (ClassId × FieldType)} {sz : Nat} {ws : va_W} {av : List Value} : FrameBlind (va_Pc av (kB D cl tys sz ws)) := fun a U g mk q => by
  obtain ⟨q0, q1, qP, qK, qD, qZ⟩ := q
  exact ⟨q0, q1, qP, va_K.moved (u := U) (U := U.calling g mk a) (Vm.Alike.refl U.vm) qK, qD, kZ_same (u := U) (U := U.calling g mk a) rfl qZ⟩
theorem kB_at {D : va_G} {cl : List vw_C} {tys : List (ClassId × FieldType)} {ws wc : va_W} {av : List Value} {s : State} {H : Heap} {A : Nat → Prop} (hP : va_P D cl ws H) (hD : va_D A ws) (hK : va_K D cl tys s) (hZ : kZ s) (isC : List Nat) (hC : isC.map (fun i => ws[i]?) = wc.map some) (hn : va_nd isC = true) (hf : isC.filterMap (fun i => ws[i]?) = wc) : ∀ U : State, U.heap = H → s.WarmedH U.vm → va_Pc av (kB D cl tys H.size wc) av.toArray U :=
  fun U hU hW => ⟨rfl, by rw [hU], by rw [hU]; exact hP.sub isC hf, va_K.moved hW.alike hK, (hD.sub isC hn hC).weaken (fun _ _ _ _ => trivial), kZ_warm hW hZ⟩
theorem kR_blind {D : va_G} {cl : List vw_C} {tys : List (ClassId × FieldType)} {ws : va_W} {av : List Value} : FrameBlind (va_Pc av (kR D cl tys ws)) := fun a U g mk q => by
  obtain ⟨q0, qP, qK, qZ⟩ := q
  exact ⟨q0, qP, va_K.moved (u := U) (U := U.calling g mk a) (Vm.Alike.refl U.vm) qK, kZ_same (u := U) (U := U.calling g mk a) rfl qZ⟩
theorem kR_at {D : va_G} {cl : List vw_C} {tys : List (ClassId × FieldType)} {ws wc : va_W} {av : List Value} {s : State} {H : Heap} (hP : va_P D cl ws H) (hK : va_K D cl tys s) (hZ : kZ s) (isC : List Nat) (hf : isC.filterMap (fun i => ws[i]?) = wc) : ∀ U : State, U.heap = H → s.WarmedH U.vm → va_Pc av (kR D cl tys wc) av.toArray U :=
  fun U hU hW => ⟨rfl, by rw [hU]; exact hP.sub isC hf, va_K.moved hW.alike hK, kZ_warm hW hZ⟩
abbrev kRead (l : Launch) (y : MethodName) (w : List Cond) (rm : Room) (D : va_G) (cl : List vw_C) (tys : List (ClassId × FieldType)) (ws : va_W) (av : List Value) (r : Value) : Prop := Met l y w rm (va_Pc av (kR D cl tys ws)) (k2_QcV r) 0 0 (fun _ => False)
section KC
variable {p : Program} {l : Launch} {e : Env} {R : Room} {s : State} {m : MethodId} {args : Array Value} {below : List Frame} {meth : Method} {c : Code} {H : Heap} {locs : List Loc} {cells slots mc ms : Nat} {Q : State → Prop} {pc : Nat} {ls : Array Slot} {rest st0 : List Value} {cc : ByteArray}
variable {D : va_G} {cl : List vw_C} {tys : List (ClassId × FieldType)} {ws wc wr : va_W} {A : Nat → Prop} {H0 : Heap} {av : Array Value} {S : Type} {w1 : S → va_W}
theorem kcalli {post : Int32 → S → Prop} (isC isR : List Nat) (hr : va_Run p l e R s m args below meth c H locs cells slots mc ms (F0 m pc ls st0) rest (va_Qi post (fun u t => kE D cl (va_A wc H.size) (w1 u) t) (va_A wc H.size) av) (va_A wc H.size))
    (hP : va_P D cl ws H) (hD : va_D A ws) (hS : va_S A H0 H locs) (hA : ∀ q, H0.size ≤ q → A q) (hC : isC.map (fun i => ws[i]?) = wc.map some) (hR : isR.map (fun i => ws[i]?) = wr.map some) (hn : va_nd isR = true) (hdis : ∀ i ∈ isR, i ∉ isC)
    (kk : ∀ (r : Int32) (u : S) (H1 : Heap) (locs1 : List Loc), post r u → va_P D cl (wr ++ w1 u) H1 → va_D A (wr ++ w1 u) → va_S A H0 H1 locs1 → W p l e R s m args below meth c H1 locs1 (cells + mc) (slots + ms) Q (F0 m (pc + 3) ls (.int r :: rest))) : W p l e R s m args below meth c H locs cells slots Q (F0 m pc ls st0) := by
  have hF := va_free hD hS hA isC hC
  refine va_calli hr hS (fun q _ h => hF q h) hF (fun r u t H1 locs1 ht hvm hw hB hz1 hk1 hS1 => ?_)
  obtain ⟨hP1, hD1⟩ := hB
  rw [ht] at hP1
  obtain ⟨hP2, hD2⟩ := va_join hP hD isC isR hC hR hn hdis hk1 hF hP1 hD1
  exact kk r u H1 locs1 hw hP2 hD2 hS1
theorem kcalll {post : Int64 → S → Prop} (isC isR : List Nat) (hr : va_Run p l e R s m args below meth c H locs cells slots mc ms (F0 m pc ls st0) rest (va_Ql post (fun u t => kE D cl (va_A wc H.size) (w1 u) t) (va_A wc H.size) av) (va_A wc H.size))
    (hP : va_P D cl ws H) (hD : va_D A ws) (hS : va_S A H0 H locs) (hA : ∀ q, H0.size ≤ q → A q) (hC : isC.map (fun i => ws[i]?) = wc.map some) (hR : isR.map (fun i => ws[i]?) = wr.map some) (hn : va_nd isR = true) (hdis : ∀ i ∈ isR, i ∉ isC)
    (kk : ∀ (r : Int64) (u : S) (H1 : Heap) (locs1 : List Loc), post r u → va_P D cl (wr ++ w1 u) H1 → va_D A (wr ++ w1 u) → va_S A H0 H1 locs1 → W p l e R s m args below meth c H1 locs1 (cells + mc) (slots + ms) Q (F0 m (pc + 3) ls (.long r :: rest))) : W p l e R s m args below meth c H locs cells slots Q (F0 m pc ls st0) := by
  have hF := va_free hD hS hA isC hC
  refine va_calll hr hS (fun q _ h => hF q h) hF (fun r u t H1 locs1 ht hvm hw hB hz1 hk1 hS1 => ?_)
  obtain ⟨hP1, hD1⟩ := hB
  rw [ht] at hP1
  obtain ⟨hP2, hD2⟩ := va_join hP hD isC isR hC hR hn hdis hk1 hF hP1 hD1
  exact kk r u H1 locs1 hw hP2 hD2 hS1
theorem kcallv {post : S → Prop} (isC isR : List Nat) (hr : va_Run p l e R s m args below meth c H locs cells slots mc ms (F0 m pc ls st0) rest (va_Qv post (fun u t => kE D cl (va_A wc H.size) (w1 u) t) (va_A wc H.size) av) (va_A wc H.size))
    (hP : va_P D cl ws H) (hD : va_D A ws) (hS : va_S A H0 H locs) (hA : ∀ q, H0.size ≤ q → A q) (hC : isC.map (fun i => ws[i]?) = wc.map some) (hR : isR.map (fun i => ws[i]?) = wr.map some) (hn : va_nd isR = true) (hdis : ∀ i ∈ isR, i ∉ isC)
    (kk : ∀ (u : S) (H1 : Heap) (locs1 : List Loc), post u → va_P D cl (wr ++ w1 u) H1 → va_D A (wr ++ w1 u) → va_S A H0 H1 locs1 → W p l e R s m args below meth c H1 locs1 (cells + mc) (slots + ms) Q (F0 m (pc + 3) ls rest)) : W p l e R s m args below meth c H locs cells slots Q (F0 m pc ls st0) := by
  have hF := va_free hD hS hA isC hC
  refine va_callv hr hS (fun q _ h => hF q h) hF (fun u t H1 locs1 ht hvm hw hB hz1 hk1 hS1 => ?_)
  obtain ⟨hP1, hD1⟩ := hB
  rw [ht] at hP1
  obtain ⟨hP2, hD2⟩ := va_join hP hD isC isR hC hR hn hdis hk1 hF hP1 hD1
  exact kk u H1 locs1 hw hP2 hD2 hS1
/-- the ends -/
theorem kreti {post : Int32 → S → Prop} {wb : va_W} {v : Int32} (u : S) (hexec : p.tables.exec = Jvm.exec) (hb : c.code = cc) (hr : meth.sig.returnType = some .int) (hP : va_P D cl wb H) (hD : va_D A wb) (hS : va_S A s.heap H locs) (hlocks : meth.locks = false) (hw1 : w1 u = wb) (hp : post v u) (hdg : decode cc pc = .ok (.ireturn, 1)) :
    W p l e R s m args below meth c H locs cells slots (MQ below (va_Qi post (fun u t => kE D cl A (w1 u) t) A) args s cells slots A) (F0 m pc ls [.int v]) :=
  W.iret (v := v) hexec hb hr (fun t ht hW => ⟨⟨v, u, rfl, hp, by rw [ht, hw1]; exact hP, by rw [hw1]; exact hD⟩, hS.F ht⟩) hS.2.2 hdg hlocks
theorem kretz {post : Int32 → S → Prop} {wb : va_W} {v : Int32} (u : S) (hn : narrow .boolean (.int v) = .int v) (hexec : p.tables.exec = Jvm.exec) (hb : c.code = cc) (hr : meth.sig.returnType = some .boolean) (hP : va_P D cl wb H) (hD : va_D A wb) (hS : va_S A s.heap H locs) (hlocks : meth.locks = false) (hw1 : w1 u = wb) (hp : post v u) (hdg : decode cc pc = .ok (.ireturn, 1)) :
    W p l e R s m args below meth c H locs cells slots (MQ below (va_Qi post (fun u t => kE D cl A (w1 u) t) A) args s cells slots A) (F0 m pc ls [.int v]) :=
  W.zret (v := v) hexec hb hr hn (fun t ht hW => ⟨⟨v, u, rfl, hp, by rw [ht, hw1]; exact hP, by rw [hw1]; exact hD⟩, hS.F ht⟩) hS.2.2 hdg hlocks
theorem kretl {post : Int64 → S → Prop} {wb : va_W} {v : Int64} (u : S) (hexec : p.tables.exec = Jvm.exec) (hb : c.code = cc) (hr : meth.sig.returnType = some .long) (hP : va_P D cl wb H) (hD : va_D A wb) (hS : va_S A s.heap H locs) (hlocks : meth.locks = false) (hw1 : w1 u = wb) (hp : post v u) (hdg : decode cc pc = .ok (.lreturn, 1)) :
    W p l e R s m args below meth c H locs cells slots (MQ below (va_Ql post (fun u t => kE D cl A (w1 u) t) A) args s cells slots A) (F0 m pc ls [.long v]) :=
  W.lret (v := v) hexec hb hr (fun t ht hW => ⟨⟨v, u, rfl, hp, by rw [ht, hw1]; exact hP, by rw [hw1]; exact hD⟩, hS.F ht⟩) hS.2.2 hdg hlocks
theorem kretv {post : S → Prop} {wb : va_W} (u : S) (hexec : p.tables.exec = Jvm.exec) (hb : c.code = cc) (hr : meth.sig.returnType = none) (hP : va_P D cl wb H) (hD : va_D A wb) (hS : va_S A s.heap H locs) (hlocks : meth.locks = false) (hw1 : w1 u = wb) (hp : post u) (hdg : decode cc pc = .ok (.return_, 1)) :
    W p l e R s m args below meth c H locs cells slots (MQ below (va_Qv post (fun u t => kE D cl A (w1 u) t) A) args s cells slots A) (F0 m pc ls []) :=
  W.vret hexec hb hr (fun t ht hW => ⟨⟨u, rfl, hp, by rw [ht, hw1]; exact hP, by rw [hw1]; exact hD⟩, hS.F ht⟩) hS.2.2 hdg hlocks
theorem kcallR {r : Value} (hr : va_Run p l e R s m args below meth c H locs cells slots 0 0 (F0 m pc ls st0) rest (k2_QcV r av) (fun _ => False)) (kk : W p l e R s m args below meth c H locs cells slots Q (F0 m (pc + 3) ls (r :: rest))) : W p l e R s m args below meth c H locs cells slots Q (F0 m pc ls st0) := W.callV hr.run kk
theorem krdi {v : Int32} (hexec : p.tables.exec = Jvm.exec) (hb : c.code = cc) (hr : meth.sig.returnType = some .int) (hlocks : meth.locks = false) (hdg : decode cc pc = .ok (.ireturn, 1)) : W p l e R s m args below meth c s.heap [] 0 0 (MQ below (k2_QcV (.int v)) args s 0 0 (fun _ => False)) (F0 m pc ls [.int v]) :=
  W.iret (v := v) hexec hb hr (fun t ht _ => ⟨rfl, ht⟩) (fun q h => nomatch h) hdg hlocks
theorem krdz {v : Int32} (hn : narrow .boolean (.int v) = .int v) (hexec : p.tables.exec = Jvm.exec) (hb : c.code = cc) (hr : meth.sig.returnType = some .boolean) (hlocks : meth.locks = false) (hdg : decode cc pc = .ok (.ireturn, 1)) : W p l e R s m args below meth c s.heap [] 0 0 (MQ below (k2_QcV (.int v)) args s 0 0 (fun _ => False)) (F0 m pc ls [.int v]) :=
  W.zret (v := v) hexec hb hr hn (fun t ht _ => ⟨rfl, ht⟩) (fun q h => nomatch h) hdg hlocks
theorem krdl {v : Int64} (hexec : p.tables.exec = Jvm.exec) (hb : c.code = cc) (hr : meth.sig.returnType = some .long) (hlocks : meth.locks = false) (hdg : decode cc pc = .ok (.lreturn, 1)) : W p l e R s m args below meth c s.heap [] 0 0 (MQ below (k2_QcV (.long v)) args s 0 0 (fun _ => False)) (F0 m pc ls [.long v]) :=
  W.lret (v := v) hexec hb hr (fun t ht _ => ⟨rfl, ht⟩) (fun q h => nomatch h) hdg hlocks
end KC
end
section
/-! sums over rows and columns -/
def sN (f : Nat → Nat) : Nat → Nat
  | 0 => 0
  | n + 1 => sN f n + f n
theorem sN_split (f : Nat → Nat) (a b : Nat) : sN f (a + b) = sN f a + sN (fun i => f (a + i)) b := by
  induction b with
  | zero => rfl
  | succ b ih =>
    show sN f (a + b) + f (a + b) = sN f a + (sN (fun i => f (a + i)) b + f (a + b))
    omega
theorem sN_plus (f g : Nat → Nat) (n : Nat) : sN (fun i => f i + g i) n = sN f n + sN g n := by
  induction n with
  | zero => rfl
  | succ n ih =>
    show sN (fun i => f i + g i) n + (f n + g n) = (sN f n + f n) + (sN g n + g n)
    omega
theorem sN_congr {f g : Nat → Nat} {n : Nat} (h : ∀ i, i < n → f i = g i) : sN f n = sN g n := by
  induction n with
  | zero => rfl
  | succ n ih =>
    show sN f n + f n = sN g n + g n
    rw [ih (fun i hi => h i (by omega)), h n (by omega)]
theorem sN_le {f : Nat → Nat} {n M : Nat} (h : ∀ i, i < n → f i ≤ M) : sN f n ≤ n * M := by
  induction n with
  | zero => exact Nat.zero_le _
  | succ n ih =>
    have h1 := ih (fun i hi => h i (by omega))
    have h2 := h n (by omega)
    show sN f n + f n ≤ (n + 1) * M
    rw [Nat.succ_mul]
    omega
/-- the cells left of x and above y -/
def psm (f : Nat → Nat → Nat) (x y : Nat) : Nat := sN (fun j => sN (fun i => f i j) x) y
/-- the cells of a board -/
def rcs (f : Nat → Nat → Nat) (x y ax ay : Nat) : Nat := sN (fun j => sN (fun i => f (x + i) (y + j)) ax) ay
theorem psm_x0 (f : Nat → Nat → Nat) (y : Nat) : psm f 0 y = 0 := by
  unfold psm
  induction y with
  | zero => rfl
  | succ y ih =>
    show sN (fun j => sN (fun i => f i j) 0) y + 0 = 0
    omega
theorem psm_y0 (f : Nat → Nat → Nat) (x : Nat) : psm f x 0 = 0 := rfl
theorem psm_y1 (f : Nat → Nat → Nat) (x y : Nat) : psm f x (y + 1) = psm f x y + sN (fun i => f i y) x := rfl
theorem rcs_psm (f : Nat → Nat → Nat) (x y ax ay : Nat) : rcs f x y ax ay + psm f x (y + ay) + psm f (x + ax) y = psm f (x + ax) (y + ay) + psm f x y := by
  unfold rcs psm
  rw [sN_split (fun j => sN (fun i => f i j) x) y ay, sN_split (fun j => sN (fun i => f i j) (x + ax)) y ay]
  have e : sN (fun j => sN (fun i => f i (y + j)) (x + ax)) ay = sN (fun j => sN (fun i => f i (y + j)) x) ay + sN (fun j => sN (fun i => f (x + i) (y + j)) ax) ay := by
    rw [← sN_plus]
    exact sN_congr (fun j _ => sN_split (fun i => f i (y + j)) x ax)
  rw [e]
  omega
theorem psm_le {f : Nat → Nat → Nat} {x y M : Nat} (h : ∀ i j, i < x → j < y → f i j ≤ M) : psm f x y ≤ y * (x * M) := sN_le (fun j hj => sN_le (fun i hi => h i j hi hj))
theorem rcs_le {f : Nat → Nat → Nat} {x y ax ay M : Nat} (h : ∀ i j, i < ax → j < ay → f (x + i) (y + j) ≤ M) : rcs f x y ax ay ≤ ay * (ax * M) := sN_le (fun j hj => sN_le (fun i hi => h i j hi hj))
/-- the sum over a board's cells, -1 if not all of it is on the grid -/
def sumZ (f : Nat → Nat → Nat) (side : Nat) (x y : Int) (ax ay : Nat) : Int := if 0 ≤ x ∧ 0 ≤ y ∧ x + (ax : Int) ≤ (side : Int) ∧ y + (ay : Int) ≤ (side : Int) then (rcs f x.toNat y.toNat ax ay : Int) else -1
theorem sumZ_no {f : Nat → Nat → Nat} {side : Nat} {x y : Int} {ax ay : Nat} (h : ¬ (0 ≤ x ∧ 0 ≤ y ∧ x + (ax : Int) ≤ (side : Int) ∧ y + (ay : Int) ≤ (side : Int))) : sumZ f side x y ax ay = -1 := if_neg h
theorem sumZ_in {f : Nat → Nat → Nat} {side X Y ax ay : Nat} {x y : Int} (hx : x = (X : Int)) (hy : y = (Y : Int)) (h1 : X + ax ≤ side) (h2 : Y + ay ≤ side) : sumZ f side x y ax ay = (rcs f X Y ax ay : Int) := by
  subst hx; subst hy
  unfold sumZ
  rw [if_pos (by omega), Int.toNat_natCast, Int.toNat_natCast]
theorem sumZ_lo (f : Nat → Nat → Nat) (side : Nat) (x y : Int) (ax ay : Nat) : -1 ≤ sumZ f side x y ax ay := by
  unfold sumZ
  split <;> omega
theorem sumZ_hi {f : Nat → Nat → Nat} {side : Nat} (x y : Int) (ax ay : Nat) (hs : side ≤ 20) (hf : ∀ i j, i < side → j < side → f i j ≤ 10000) : sumZ f side x y ax ay ≤ 4000000 := by
  by_cases h : 0 ≤ x ∧ 0 ≤ y ∧ x + (ax : Int) ≤ (side : Int) ∧ y + (ay : Int) ≤ (side : Int)
  · obtain ⟨h1, h2, h3, h4⟩ := h
    obtain ⟨X, rfl⟩ := Int.eq_ofNat_of_zero_le h1
    obtain ⟨Y, rfl⟩ := Int.eq_ofNat_of_zero_le h2
    rw [sumZ_in rfl rfl (by omega) (by omega)]
    have k1 : rcs f X Y ax ay ≤ ay * (ax * 10000) := rcs_le (fun i j hi hj => hf _ _ (by omega) (by omega))
    have k2 : ay * (ax * 10000) ≤ 20 * (20 * 10000) := Nat.mul_le_mul (by omega) (Nat.mul_le_mul (by omega) (Nat.le_refl _))
    omega
  · rw [sumZ_no h]; omega
theorem idxC {X Y n : Nat} (hx : X ≤ n) (hy : Y ≤ n) : Y * (n + 1) + X < (n + 1) * (n + 1) := by
  have h : Y * (n + 1) ≤ n * (n + 1) := Nat.mul_le_mul hy (Nat.le_refl _)
  have e : (n + 1) * (n + 1) = n * (n + 1) + (n + 1) := Nat.succ_mul n (n + 1)
  omega
theorem idxS {X Y n : Nat} (hx : X < n) (hy : Y < n) : Y * n + X < n * n := by
  have h : (Y + 1) * n ≤ n * n := Nat.mul_le_mul (by omega) (Nat.le_refl _)
  have e : (Y + 1) * n = Y * n + n := Nat.succ_mul Y n
  omega
theorem sq20 {n : Nat} (h : n ≤ 20) : (n + 1) * (n + 1) ≤ 441 ∧ n * n ≤ 400 := by
  have h1 := Nat.mul_le_mul (show n + 1 ≤ 21 by omega) (show n + 1 ≤ 21 by omega)
  have h2 := Nat.mul_le_mul h h
  exact ⟨h1, h2⟩
theorem idxE {e X Y n : Nat} (he : e ≤ 1) (hx : X < n) (hy : Y < n) : e * n * n + Y * n + X < 2 * n * n := by
  have h := idxS hx hy
  have e2 : 2 * n * n = n * n + n * n := by rw [Nat.mul_assoc]; omega
  rcases (show e = 0 ∨ e = 1 by omega) with rfl | rfl
  · rw [Nat.zero_mul, Nat.zero_mul]; omega
  · rw [Nat.one_mul]; omega
theorem sq2 {n : Nat} (h : n ≤ 20) : 2 * n * n ≤ 800 := by
  have h2 := Nat.mul_le_mul (Nat.mul_le_mul (Nat.le_refl 2) h) h
  exact h2
/-- 0 for wood, 1 for a cell that isn't -/
noncomputable def bareN (P : Prop) : Nat := @ite Nat P (Classical.propDecidable P) 0 1
theorem bareN_t {P : Prop} (h : P) : bareN P = 0 := by unfold bareN; exact if_pos h
theorem bareN_f {P : Prop} (h : ¬ P) : bareN P = 1 := by unfold bareN; exact if_neg h
theorem bareN_le (P : Prop) : bareN P ≤ 1 := by
  rcases Classical.em P with h | h
  · rw [bareN_t h]; omega
  · rw [bareN_f h]; omega
/-- a row's sums into the corners below it, column by column -/
def rowUp (side y : Nat) (g : Nat → Nat) (F : Nat → Nat) : Nat → Nat → Nat
  | 0 => F
  | t + 1 => va_up (rowUp side y g F t) (y * (side + 1) + t + 1 + side + 1) (rowUp side y g F t (y * (side + 1) + t + 1) + sN g (t + 1))
theorem corner_eq (side y t : Nat) : y * (side + 1) + t + 1 + side + 1 = (y + 1) * (side + 1) + (t + 1) := by
  rw [Nat.succ_mul]; omega
theorem row_apart {n X Y X' Y' : Nat} (h : X ≤ n) (h' : X' ≤ n) (e : Y * (n + 1) + X = Y' * (n + 1) + X') : Y = Y' ∧ X = X' := by
  have a : (Y * (n + 1) + X) / (n + 1) = Y := by rw [Nat.mul_comm, Nat.mul_add_div (by omega), Nat.div_eq_of_lt (by omega)]; rfl
  have b : (Y' * (n + 1) + X') / (n + 1) = Y' := by rw [Nat.mul_comm, Nat.mul_add_div (by omega), Nat.div_eq_of_lt (by omega)]; rfl
  have c : Y = Y' := by rw [← a, ← b, e]
  subst c
  exact ⟨rfl, by omega⟩
theorem rowUp_at {side y : Nat} {g F : Nat → Nat} : ∀ (t : Nat), t ≤ side → ∀ X Y, X ≤ side → rowUp side y g F t (Y * (side + 1) + X) = if Y = y + 1 ∧ 1 ≤ X ∧ X ≤ t then F (y * (side + 1) + X) + sN g X else F (Y * (side + 1) + X) := by
  intro t
  induction t with
  | zero => intro _ X Y _; rw [if_neg (by omega)]; rfl
  | succ t ih =>
    intro ht X Y hX
    show va_up (rowUp side y g F t) (y * (side + 1) + t + 1 + side + 1) _ _ = _
    by_cases h : Y = y + 1 ∧ X = t + 1
    · obtain ⟨rfl, rfl⟩ := h
      rw [corner_eq, va_up_self, if_pos (by omega)]
      have e := ih (by omega) (t + 1) y (by omega)
      rw [if_neg (by omega)] at e
      rw [← Nat.add_assoc] at e
      rw [e, Nat.add_assoc]
    · rw [va_up_ne _ _ (fun q => h (by
        rw [corner_eq] at q
        exact row_apart hX (by omega) q)), ih (by omega) X Y hX]
      by_cases h2 : Y = y + 1 ∧ 1 ≤ X ∧ X ≤ t
      · rw [if_pos h2, if_pos (by omega)]
      · rw [if_neg h2, if_neg (by omega)]
/-- all rows, one after the other -/
def allUp (side : Nat) (g : Nat → Nat → Nat) (F : Nat → Nat) : Nat → Nat → Nat
  | 0 => F
  | y + 1 => rowUp side y (fun i => g i y) (allUp side g F y) side
theorem allUp_at {side : Nat} {g : Nat → Nat → Nat} {F : Nat → Nat} (h0 : ∀ X, X ≤ side → F X = 0) (h1 : ∀ Y, Y ≤ side → F (Y * (side + 1)) = 0) : ∀ (n : Nat), n ≤ side → ∀ X Y, X ≤ side → (Y ≤ n → allUp side g F n (Y * (side + 1) + X) = psm g X Y) ∧ (n < Y → allUp side g F n (Y * (side + 1) + X) = F (Y * (side + 1) + X)) := by
  intro n
  induction n with
  | zero =>
    intro _ X Y hX
    refine ⟨fun h => ?_, fun _ => rfl⟩
    have e : Y = 0 := by omega
    subst e
    rw [Nat.zero_mul, Nat.zero_add, psm_y0]
    exact h0 X hX
  | succ n ih =>
    intro hn X Y hX
    have e : allUp side g F (n + 1) (Y * (side + 1) + X) = if Y = n + 1 ∧ 1 ≤ X ∧ X ≤ side then allUp side g F n (n * (side + 1) + X) + sN (fun i => g i n) X else allUp side g F n (Y * (side + 1) + X) := rowUp_at side (Nat.le_refl _) X Y hX
    refine ⟨fun h => ?_, fun h => ?_⟩
    · rw [e]
      by_cases hY : Y = n + 1
      · subst hY
        by_cases hX0 : 1 ≤ X
        · rw [if_pos (by omega), (ih (by omega) X n hX).1 (Nat.le_refl _), psm_y1]
        · have ex : X = 0 := by omega
          subst ex
          rw [if_neg (by omega), (ih (by omega) 0 (n + 1) hX).2 (by omega), psm_x0, Nat.add_zero]
          exact h1 _ hn
      · rw [if_neg (by omega)]
        exact (ih (by omega) X Y hX).1 (by omega)
    · rw [e, if_neg (by omega)]
      exact (ih (by omega) X Y hX).2 (by omega)
end
section
def R_SG : String := "SawGrids"
def T_SG : u_T := fun k => match k with
  | 0 => ("SawGrids", "kerf", "I", true)
  | 1 => ("SawGrids", "log", "LSawGrids$Log;", true)
  | 2 => ("SawGrids", "sizes", "LSawGrids$Sizes;", true)
  | 3 => ("SawGrids", "boards", "LSawGrids$Boards;", true)
  | 4 => ("SawGrids", "bench", "LSawGrids$Bench;", true)
  | 5 => ("SawGrids", "pattern", "LSawGrids$Pattern;", true)
  | _ => ("SawGrids", "sawn", "Z", false)
def ty_SG : Nat → FieldType := fun k => match k with
  | 0 => .int
  | 1 => .object "SawGrids$Log"
  | 2 => .object "SawGrids$Sizes"
  | 3 => .object "SawGrids$Boards"
  | 4 => .object "SawGrids$Bench"
  | 5 => .object "SawGrids$Pattern"
  | _ => .boolean
theorem nm_SG : ∀ a, a < 7 → ∀ b, b < 7 → a ≠ b → (T_SG a).2.1 ≠ (T_SG b).2.1 := by decide +kernel
theorem tyok_SG : ∀ k, k < 7 → parseFieldDescriptor (T_SG k).2.2.1 = some (ty_SG k) := by decide +kernel
theorem iw_SG : ∀ w ∈ u_ws R_SG T_SG 7, w ∈ okTbl := by decide +kernel
def R_Be : String := "SawGrids$Bench"
def T_Be : u_T := fun k => match k with
  | 0 => ("SawGrids$Bench", "boards", "LSawGrids$Boards;", true)
  | 1 => ("SawGrids$Bench", "sizes", "LSawGrids$Sizes;", true)
  | 2 => ("SawGrids$Bench", "side", "I", true)
  | 3 => ("SawGrids$Bench", "kerf", "I", true)
  | 4 => ("SawGrids$Bench", "turn", "I", false)
  | 5 => ("SawGrids$Bench", "rankFromRow", "[J", true)
  | 6 => ("SawGrids$Bench", "thickAtRow", "[I", true)
  | 7 => ("SawGrids$Bench", "rankFromColumn", "[J", true)
  | _ => ("SawGrids$Bench", "sizeAtColumn", "[I", true)
def ty_Be : Nat → FieldType := fun k => match k with
  | 0 => .object "SawGrids$Boards"
  | 1 => .object "SawGrids$Sizes"
  | 2 => .int
  | 3 => .int
  | 4 => .int
  | 5 => .array .long
  | 6 => .array .int
  | 7 => .array .long
  | _ => .array .int
theorem nm_Be : ∀ a, a < 9 → ∀ b, b < 9 → a ≠ b → (T_Be a).2.1 ≠ (T_Be b).2.1 := by decide +kernel
theorem tyok_Be : ∀ k, k < 9 → parseFieldDescriptor (T_Be k).2.2.1 = some (ty_Be k) := by decide +kernel
theorem iw_Be : ∀ w ∈ u_ws R_Be T_Be 9, w ∈ okTbl := by decide +kernel
def R_Bo : String := "SawGrids$Boards"
def T_Bo : u_T := fun k => match k with
  | 0 => ("SawGrids$Boards", "sizes", "LSawGrids$Sizes;", true)
  | _ => ("SawGrids$Boards", "log", "LSawGrids$Log;", true)
def ty_Bo : Nat → FieldType := fun k => match k with
  | 0 => .object "SawGrids$Sizes"
  | _ => .object "SawGrids$Log"
theorem nm_Bo : ∀ a, a < 2 → ∀ b, b < 2 → a ≠ b → (T_Bo a).2.1 ≠ (T_Bo b).2.1 := by decide +kernel
theorem tyok_Bo : ∀ k, k < 2 → parseFieldDescriptor (T_Bo k).2.2.1 = some (ty_Bo k) := by decide +kernel
theorem iw_Bo : ∀ w ∈ u_ws R_Bo T_Bo 2, w ∈ okTbl := by decide +kernel
def R_Lo : String := "SawGrids$Log"
def T_Lo : u_T := fun k => match k with
  | 0 => ("SawGrids$Log", "side", "I", true)
  | 1 => ("SawGrids$Log", "inAtEnd", "[Z", true)
  | 2 => ("SawGrids$Log", "lossOf", "[I", true)
  | 3 => ("SawGrids$Log", "bareBefore", "[I", true)
  | 4 => ("SawGrids$Log", "lossBefore", "[I", true)
  | _ => ("SawGrids$Log", "summed", "Z", false)
def ty_Lo : Nat → FieldType := fun k => match k with
  | 0 => .int
  | 1 => .array .boolean
  | 2 => .array .int
  | 3 => .array .int
  | 4 => .array .int
  | _ => .boolean
theorem nm_Lo : ∀ a, a < 6 → ∀ b, b < 6 → a ≠ b → (T_Lo a).2.1 ≠ (T_Lo b).2.1 := by decide +kernel
theorem tyok_Lo : ∀ k, k < 6 → parseFieldDescriptor (T_Lo k).2.2.1 = some (ty_Lo k) := by decide +kernel
theorem iw_Lo : ∀ w ∈ u_ws R_Lo T_Lo 6, w ∈ okTbl := by decide +kernel
def R_Pa : String := "SawGrids$Pattern"
def T_Pa : u_T := fun k => match k with
  | 0 => ("SawGrids$Pattern", "sizeOf", "[I", true)
  | 1 => ("SawGrids$Pattern", "xOf", "[I", true)
  | 2 => ("SawGrids$Pattern", "yOf", "[I", true)
  | 3 => ("SawGrids$Pattern", "turn", "I", false)
  | 4 => ("SawGrids$Pattern", "slabs", "I", false)
  | 5 => ("SawGrids$Pattern", "count", "I", false)
  | 6 => ("SawGrids$Pattern", "value", "I", false)
  | _ => ("SawGrids$Pattern", "cells", "I", false)
def ty_Pa : Nat → FieldType := fun k => match k with
  | 0 => .array .int
  | 1 => .array .int
  | 2 => .array .int
  | 3 => .int
  | 4 => .int
  | 5 => .int
  | 6 => .int
  | _ => .int
theorem nm_Pa : ∀ a, a < 8 → ∀ b, b < 8 → a ≠ b → (T_Pa a).2.1 ≠ (T_Pa b).2.1 := by decide +kernel
theorem tyok_Pa : ∀ k, k < 8 → parseFieldDescriptor (T_Pa k).2.2.1 = some (ty_Pa k) := by decide +kernel
theorem iw_Pa : ∀ w ∈ u_ws R_Pa T_Pa 8, w ∈ okTbl := by decide +kernel
def R_Si : String := "SawGrids$Sizes"
def T_Si : u_T := fun k => match k with
  | 0 => ("SawGrids$Sizes", "thickOf", "[I", true)
  | 1 => ("SawGrids$Sizes", "wideOf", "[I", true)
  | 2 => ("SawGrids$Sizes", "worthOf", "[I", true)
  | 3 => ("SawGrids$Sizes", "waneOf", "[I", true)
  | _ => ("SawGrids$Sizes", "count", "I", false)
def ty_Si : Nat → FieldType := fun k => match k with
  | 0 => .array .int
  | 1 => .array .int
  | 2 => .array .int
  | 3 => .array .int
  | _ => .int
theorem nm_Si : ∀ a, a < 5 → ∀ b, b < 5 → a ≠ b → (T_Si a).2.1 ≠ (T_Si b).2.1 := by decide +kernel
theorem tyok_Si : ∀ k, k < 5 → parseFieldDescriptor (T_Si k).2.2.1 = some (ty_Si k) := by decide +kernel
theorem iw_Si : ∀ w ∈ u_ws R_Si T_Si 5, w ∈ okTbl := by decide +kernel
def R_Mo : String := "SawGridsModel"
def T_Mo : u_T := fun k => match k with
  | 0 => ("SawGridsModel", "thrown", "I", false)
  | 1 => ("SawGridsModel", "side", "I", false)
  | 2 => ("SawGridsModel", "kerf", "I", false)
  | 3 => ("SawGridsModel", "ins", "[Z", true)
  | 4 => ("SawGridsModel", "knots", "[I", true)
  | 5 => ("SawGridsModel", "sizes", "I", false)
  | 6 => ("SawGridsModel", "thicks", "[I", true)
  | 7 => ("SawGridsModel", "wides", "[I", true)
  | 8 => ("SawGridsModel", "worths", "[I", true)
  | 9 => ("SawGridsModel", "wanes", "[I", true)
  | 10 => ("SawGridsModel", "bare", "[I", true)
  | 11 => ("SawGridsModel", "losses", "[I", true)
  | 12 => ("SawGridsModel", "slabWorth", "[I", true)
  | 13 => ("SawGridsModel", "slabCount", "[I", true)
  | 14 => ("SawGridsModel", "rowWorth", "[I", true)
  | 15 => ("SawGridsModel", "rowCount", "[I", true)
  | 16 => ("SawGridsModel", "sawn", "Z", false)
  | 17 => ("SawGridsModel", "turn", "I", false)
  | 18 => ("SawGridsModel", "total", "I", false)
  | 19 => ("SawGridsModel", "slabs", "I", false)
  | 20 => ("SawGridsModel", "boards", "I", false)
  | _ => ("SawGridsModel", "at", "[I", true)
def ty_Mo : Nat → FieldType := fun k => match k with
  | 0 => .int
  | 1 => .int
  | 2 => .int
  | 3 => .array .boolean
  | 4 => .array .int
  | 5 => .int
  | 6 => .array .int
  | 7 => .array .int
  | 8 => .array .int
  | 9 => .array .int
  | 10 => .array .int
  | 11 => .array .int
  | 12 => .array .int
  | 13 => .array .int
  | 14 => .array .int
  | 15 => .array .int
  | 16 => .boolean
  | 17 => .int
  | 18 => .int
  | 19 => .int
  | 20 => .int
  | _ => .array .int
theorem nm_Mo : ∀ a, a < 22 → ∀ b, b < 22 → a ≠ b → (T_Mo a).2.1 ≠ (T_Mo b).2.1 := by decide +kernel
theorem tyok_Mo : ∀ k, k < 22 → parseFieldDescriptor (T_Mo k).2.2.1 = some (ty_Mo k) := by decide +kernel
theorem iw_Mo : ∀ w ∈ u_ws R_Mo T_Mo 22, w ∈ okTbl := by decide +kernel
def R_La : String := "SawGridsLaw"
abbrev vwCl : List vw_C := [(R_SG, T_SG, 7), (R_Be, T_Be, 9), (R_Bo, T_Bo, 2), (R_Lo, T_Lo, 6), (R_Pa, T_Pa, 8), (R_Si, T_Si, 5), (R_Mo, T_Mo, 22)]
abbrev b_SG_init : ByteArray := prog_1_method_1_code
def y_SG_init : MethodName := ⟨R_SG, "<init>", "(II)V"⟩
def w_SG_init : List Cond := .code y_SG_init b_SG_init 4 none :: okTbl
theorem kc_SG_init : Cond.code y_SG_init b_SG_init 4 none ∈ okTbl := ok_of (List.mem_append_right _ (List.mem_append_left _ (List.mem_of_getElem? (i := 19) (by decide +kernel)))) (by decide +kernel)
abbrev b_SG_cell : ByteArray := prog_1_method_2_code
def y_SG_cell : MethodName := ⟨R_SG, "cell", "(IIIZ)Z"⟩
def w_SG_cell : List Cond := .code y_SG_cell b_SG_cell 5 (some (.boolean)) :: okTbl
theorem kc_SG_cell : Cond.code y_SG_cell b_SG_cell 5 (some (.boolean)) ∈ okTbl := ok_of (List.mem_append_right _ (List.mem_append_right _ (List.mem_append_left _ (List.mem_of_getElem? (i := 69) (by decide +kernel))))) (by decide +kernel)
abbrev b_SG_span : ByteArray := prog_1_method_3_code
def y_SG_span : MethodName := ⟨R_SG, "span", "(IIII)V"⟩
def w_SG_span : List Cond := .code y_SG_span b_SG_span 6 none :: okTbl
theorem kc_SG_span : Cond.code y_SG_span b_SG_span 6 none ∈ okTbl := ok_of (List.mem_append_right _ (List.mem_append_right _ (List.mem_append_left _ (List.mem_of_getElem? (i := 158) (by decide +kernel))))) (by decide +kernel)
abbrev b_SG_knot : ByteArray := prog_1_method_4_code
def y_SG_knot : MethodName := ⟨R_SG, "knot", "(III)Z"⟩
def w_SG_knot : List Cond := .code y_SG_knot b_SG_knot 4 (some (.boolean)) :: okTbl
theorem kc_SG_knot : Cond.code y_SG_knot b_SG_knot 4 (some (.boolean)) ∈ okTbl := ok_of (List.mem_append_right _ (List.mem_append_right _ (List.mem_append_left _ (List.mem_of_getElem? (i := 182) (by decide +kernel))))) (by decide +kernel)
abbrev b_SG_size : ByteArray := prog_1_method_5_code
def y_SG_size : MethodName := ⟨R_SG, "size", "(IIII)I"⟩
def w_SG_size : List Cond := .code y_SG_size b_SG_size 5 (some (.int)) :: okTbl
theorem kc_SG_size : Cond.code y_SG_size b_SG_size 5 (some (.int)) ∈ okTbl := ok_of (List.mem_append_right _ (List.mem_append_right _ (List.mem_append_left _ (List.mem_of_getElem? (i := 196) (by decide +kernel))))) (by decide +kernel)
abbrev b_SG_run : ByteArray := prog_1_method_6_code
def y_SG_run : MethodName := ⟨R_SG, "run", "()I"⟩
def w_SG_run : List Cond := .code y_SG_run b_SG_run 5 (some (.int)) :: okTbl
theorem kc_SG_run : Cond.code y_SG_run b_SG_run 5 (some (.int)) ∈ okTbl := ok_of (List.mem_append_right _ (List.mem_append_left _ (List.mem_of_getElem? (i := 203) (by decide +kernel)))) (by decide +kernel)
abbrev b_SG_board : ByteArray := prog_1_method_7_code
def y_SG_board : MethodName := ⟨R_SG, "board", "(II)I"⟩
def w_SG_board : List Cond := .code y_SG_board b_SG_board 6 (some (.int)) :: okTbl
theorem kc_SG_board : Cond.code y_SG_board b_SG_board 6 (some (.int)) ∈ okTbl := ok_of (List.mem_append_right _ (List.mem_append_right _ (List.mem_append_left _ (List.mem_of_getElem? (i := 226) (by decide +kernel))))) (by decide +kernel)
abbrev b_SG_all : ByteArray := prog_1_method_8_code
def y_SG_all : MethodName := ⟨R_SG, "all", "(I)I"⟩
def w_SG_all : List Cond := .code y_SG_all b_SG_all 2 (some (.int)) :: okTbl
theorem kc_SG_all : Cond.code y_SG_all b_SG_all 2 (some (.int)) ∈ okTbl := ok_of (List.mem_append_right _ (List.mem_append_right _ (List.mem_append_right _ (List.mem_append_left _ (List.mem_of_getElem? (i := 11) (by decide +kernel)))))) (by decide +kernel)
abbrev b_SG_worth : ByteArray := prog_1_method_9_code
def y_SG_worth : MethodName := ⟨R_SG, "worth", "(I)I"⟩
def w_SG_worth : List Cond := .code y_SG_worth b_SG_worth 2 (some (.int)) :: okTbl
theorem kc_SG_worth : Cond.code y_SG_worth b_SG_worth 2 (some (.int)) ∈ okTbl := ok_of (List.mem_append_right _ (List.mem_append_right _ (List.mem_append_right _ (List.mem_append_left _ (List.mem_of_getElem? (i := 19) (by decide +kernel)))))) (by decide +kernel)
abbrev b_SG_yields : ByteArray := prog_1_method_10_code
def y_SG_yields : MethodName := ⟨R_SG, "yields", "(I)I"⟩
def w_SG_yields : List Cond := .code y_SG_yields b_SG_yields 4 (some (.int)) :: okTbl
theorem kc_SG_yields : Cond.code y_SG_yields b_SG_yields 4 (some (.int)) ∈ okTbl := ok_of (List.mem_append_right _ (List.mem_append_right _ (List.mem_append_right _ (List.mem_append_left _ (List.mem_of_getElem? (i := 33) (by decide +kernel)))))) (by decide +kernel)
abbrev b_SG_may : ByteArray := prog_1_method_11_code
def y_SG_may : MethodName := ⟨R_SG, "may", "(IIII)Z"⟩
def w_SG_may : List Cond := .code y_SG_may b_SG_may 5 (some (.boolean)) :: okTbl
theorem kc_SG_may : Cond.code y_SG_may b_SG_may 5 (some (.boolean)) ∈ okTbl := ok_of (List.mem_append_right _ (List.mem_append_right _ (List.mem_append_right _ (List.mem_append_left _ (List.mem_of_getElem? (i := 44) (by decide +kernel)))))) (by decide +kernel)
abbrev b_SG_apart : ByteArray := prog_1_method_12_code
def y_SG_apart : MethodName := ⟨R_SG, "apart", "(II)Z"⟩
def w_SG_apart : List Cond := .code y_SG_apart b_SG_apart 5 (some (.boolean)) :: okTbl
theorem kc_SG_apart : Cond.code y_SG_apart b_SG_apart 5 (some (.boolean)) ∈ okTbl := ok_of (List.mem_append_right _ (List.mem_append_right _ (List.mem_append_right _ (List.mem_append_left _ (List.mem_of_getElem? (i := 54) (by decide +kernel)))))) (by decide +kernel)
abbrev b_SG_wood : ByteArray := prog_1_method_13_code
def y_SG_wood : MethodName := ⟨R_SG, "wood", "()I"⟩
def w_SG_wood : List Cond := .code y_SG_wood b_SG_wood 1 (some (.int)) :: okTbl
theorem kc_SG_wood : Cond.code y_SG_wood b_SG_wood 1 (some (.int)) ∈ okTbl := ok_of (List.mem_append_right _ (List.mem_append_right _ (List.mem_append_left _ (List.mem_of_getElem? (i := 53) (by decide +kernel))))) (by decide +kernel)
abbrev b_SG_refuseUnsawn : ByteArray := prog_1_method_14_code
def y_SG_refuseUnsawn : MethodName := ⟨R_SG, "refuseUnsawn", "()V"⟩
def w_SG_refuseUnsawn : List Cond := .code y_SG_refuseUnsawn b_SG_refuseUnsawn 1 none :: okTbl
theorem kc_SG_refuseUnsawn : Cond.code y_SG_refuseUnsawn b_SG_refuseUnsawn 1 none ∈ okTbl := ok_of (List.mem_append_right _ (List.mem_append_right _ (List.mem_append_left _ (List.mem_of_getElem? (i := 230) (by decide +kernel))))) (by decide +kernel)
abbrev b_SG_refuseNoBoard : ByteArray := prog_1_method_15_code
def y_SG_refuseNoBoard : MethodName := ⟨R_SG, "refuseNoBoard", "(I)V"⟩
def w_SG_refuseNoBoard : List Cond := .code y_SG_refuseNoBoard b_SG_refuseNoBoard 2 none :: okTbl
theorem kc_SG_refuseNoBoard : Cond.code y_SG_refuseNoBoard b_SG_refuseNoBoard 2 none ∈ okTbl := ok_of (List.mem_append_right _ (List.mem_append_right _ (List.mem_append_left _ (List.mem_of_getElem? (i := 235) (by decide +kernel))))) (by decide +kernel)
abbrev b_SG_areApart : ByteArray := prog_1_method_16_code
def y_SG_areApart : MethodName := ⟨R_SG, "areApart", "(IIII)Z"⟩
def w_SG_areApart : List Cond := .code y_SG_areApart b_SG_areApart 5 (some (.boolean)) :: okTbl
theorem kc_SG_areApart : Cond.code y_SG_areApart b_SG_areApart 5 (some (.boolean)) ∈ okTbl := ok_of (List.mem_append_right _ (List.mem_append_right _ (List.mem_append_right _ (List.mem_append_left _ (List.mem_of_getElem? (i := 58) (by decide +kernel)))))) (by decide +kernel)
abbrev b_SG_isWithin : ByteArray := prog_1_method_17_code
def y_SG_isWithin : MethodName := ⟨R_SG, "isWithin", "(III)Z"⟩
def w_SG_isWithin : List Cond := .code y_SG_isWithin b_SG_isWithin 3 (some (.boolean)) :: okTbl
theorem kc_SG_isWithin : Cond.code y_SG_isWithin b_SG_isWithin 3 (some (.boolean)) ∈ okTbl := ok_of (List.mem_append_right _ (List.mem_append_right _ (List.mem_append_left _ (List.mem_of_getElem? (i := 41) (by decide +kernel))))) (by decide +kernel)
abbrev b_SG_isEnd : ByteArray := prog_1_method_18_code
def y_SG_isEnd : MethodName := ⟨R_SG, "isEnd", "(I)Z"⟩
def w_SG_isEnd : List Cond := .code y_SG_isEnd b_SG_isEnd 1 (some (.boolean)) :: okTbl
theorem kc_SG_isEnd : Cond.code y_SG_isEnd b_SG_isEnd 1 (some (.boolean)) ∈ okTbl := ok_of (List.mem_append_right _ (List.mem_append_right _ (List.mem_append_left _ (List.mem_of_getElem? (i := 72) (by decide +kernel))))) (by decide +kernel)
abbrev b_SG_isTurn : ByteArray := prog_1_method_19_code
def y_SG_isTurn : MethodName := ⟨R_SG, "isTurn", "(I)Z"⟩
def w_SG_isTurn : List Cond := .code y_SG_isTurn b_SG_isTurn 1 (some (.boolean)) :: okTbl
theorem kc_SG_isTurn : Cond.code y_SG_isTurn b_SG_isTurn 1 (some (.boolean)) ∈ okTbl := ok_of (List.mem_append_right _ (List.mem_append_right _ (List.mem_append_right _ (List.mem_append_left _ (List.mem_of_getElem? (i := 22) (by decide +kernel)))))) (by decide +kernel)
abbrev b_SG_commonDivisor : ByteArray := prog_1_method_20_code
def y_SG_commonDivisor : MethodName := ⟨R_SG, "commonDivisor", "(II)I"⟩
def w_SG_commonDivisor : List Cond := .code y_SG_commonDivisor b_SG_commonDivisor 6 (some (.int)) :: okTbl
theorem kc_SG_commonDivisor : Cond.code y_SG_commonDivisor b_SG_commonDivisor 6 (some (.int)) ∈ okTbl := ok_of (List.mem_append_right _ (List.mem_append_right _ (List.mem_append_right _ (List.mem_append_left _ (List.mem_of_getElem? (i := 37) (by decide +kernel)))))) (by decide +kernel)
abbrev b_Mo_init : ByteArray := prog_8_method_1_code
def y_Mo_init : MethodName := ⟨R_Mo, "<init>", "(II)V"⟩
def w_Mo_init : List Cond := .code y_Mo_init b_Mo_init 3 none :: okTbl
theorem kc_Mo_init : Cond.code y_Mo_init b_Mo_init 3 none ∈ okTbl := ok_of (List.mem_append_right _ (List.mem_append_right _ (List.mem_append_right _ (List.mem_append_left _ (List.mem_of_getElem? (i := 63) (by decide +kernel)))))) (by decide +kernel)
abbrev b_Mo_isIn : ByteArray := prog_8_method_3_code
def y_Mo_isIn : MethodName := ⟨R_Mo, "isIn", "(III)Z"⟩
def w_Mo_isIn : List Cond := .code y_Mo_isIn b_Mo_isIn 3 (some (.boolean)) :: okTbl
theorem kc_Mo_isIn : Cond.code y_Mo_isIn b_Mo_isIn 3 (some (.boolean)) ∈ okTbl := ok_of (List.mem_append_right _ (List.mem_append_right _ (List.mem_append_right _ (List.mem_append_left _ (List.mem_of_getElem? (i := 138) (by decide +kernel)))))) (by decide +kernel)
abbrev b_Mo_isCell : ByteArray := prog_8_method_4_code
def y_Mo_isCell : MethodName := ⟨R_Mo, "isCell", "(II)Z"⟩
def w_Mo_isCell : List Cond := .code y_Mo_isCell b_Mo_isCell 3 (some (.boolean)) :: okTbl
theorem kc_Mo_isCell : Cond.code y_Mo_isCell b_Mo_isCell 3 (some (.boolean)) ∈ okTbl := ok_of (List.mem_append_right _ (List.mem_append_right _ (List.mem_append_right _ (List.mem_append_left _ (List.mem_of_getElem? (i := 142) (by decide +kernel)))))) (by decide +kernel)
abbrev b_Mo_cell1 : ByteArray := prog_8_method_5_code
def y_Mo_cell1 : MethodName := ⟨R_Mo, "cell", "(IIIZ)Z"⟩
def w_Mo_cell1 : List Cond := .code y_Mo_cell1 b_Mo_cell1 7 (some (.boolean)) :: okTbl
theorem kc_Mo_cell1 : Cond.code y_Mo_cell1 b_Mo_cell1 7 (some (.boolean)) ∈ okTbl := ok_of (List.mem_append_right _ (List.mem_append_right _ (List.mem_append_right _ (List.mem_append_left _ (List.mem_of_getElem? (i := 135) (by decide +kernel)))))) (by decide +kernel)
abbrev b_Mo_span : ByteArray := prog_8_method_6_code
def y_Mo_span : MethodName := ⟨R_Mo, "span", "(IIII)V"⟩
def w_Mo_span : List Cond := .code y_Mo_span b_Mo_span 6 none :: okTbl
theorem kc_Mo_span : Cond.code y_Mo_span b_Mo_span 6 none ∈ okTbl := ok_of (List.mem_append_right _ (List.mem_append_right _ (List.mem_append_right _ (List.mem_append_left _ (List.mem_of_getElem? (i := 146) (by decide +kernel)))))) (by decide +kernel)
abbrev b_Mo_knot : ByteArray := prog_8_method_7_code
def y_Mo_knot : MethodName := ⟨R_Mo, "knot", "(III)Z"⟩
def w_Mo_knot : List Cond := .code y_Mo_knot b_Mo_knot 5 (some (.boolean)) :: okTbl
theorem kc_Mo_knot : Cond.code y_Mo_knot b_Mo_knot 5 (some (.boolean)) ∈ okTbl := ok_of (List.mem_append_right _ (List.mem_append_right _ (List.mem_append_right _ (List.mem_append_left _ (List.mem_of_getElem? (i := 150) (by decide +kernel)))))) (by decide +kernel)
abbrev b_Mo_size : ByteArray := prog_8_method_8_code
def y_Mo_size : MethodName := ⟨R_Mo, "size", "(IIII)I"⟩
def w_Mo_size : List Cond := .code y_Mo_size b_Mo_size 6 (some (.int)) :: okTbl
theorem kc_Mo_size : Cond.code y_Mo_size b_Mo_size 6 (some (.int)) ∈ okTbl := ok_of (List.mem_append_right _ (List.mem_append_right _ (List.mem_append_right _ (List.mem_append_left _ (List.mem_of_getElem? (i := 154) (by decide +kernel)))))) (by decide +kernel)
abbrev b_Mo_isWood : ByteArray := prog_8_method_9_code
def y_Mo_isWood : MethodName := ⟨R_Mo, "isWood", "(II)Z"⟩
def w_Mo_isWood : List Cond := .code y_Mo_isWood b_Mo_isWood 3 (some (.boolean)) :: okTbl
theorem kc_Mo_isWood : Cond.code y_Mo_isWood b_Mo_isWood 3 (some (.boolean)) ∈ okTbl := ok_of (List.mem_append_right _ (List.mem_append_right _ (List.mem_append_right _ (List.mem_append_left _ (List.mem_of_getElem? (i := 171) (by decide +kernel)))))) (by decide +kernel)
abbrev b_Mo_sums : ByteArray := prog_8_method_10_code
def y_Mo_sums : MethodName := ⟨R_Mo, "sums", "()V"⟩
def w_Mo_sums : List Cond := .code y_Mo_sums b_Mo_sums 4 none :: okTbl
theorem kc_Mo_sums : Cond.code y_Mo_sums b_Mo_sums 4 none ∈ okTbl := ok_of (List.mem_append_right _ (List.mem_append_right _ (List.mem_append_right _ (List.mem_append_left _ (List.mem_of_getElem? (i := 167) (by decide +kernel)))))) (by decide +kernel)
abbrev b_Mo_over : ByteArray := prog_8_method_11_code
def y_Mo_over : MethodName := ⟨R_Mo, "over", "(ZIIII)I"⟩
def w_Mo_over : List Cond := .code y_Mo_over b_Mo_over 8 (some (.int)) :: okTbl
theorem kc_Mo_over : Cond.code y_Mo_over b_Mo_over 8 (some (.int)) ∈ okTbl := ok_of (List.mem_append_right _ (List.mem_append_right _ (List.mem_append_right _ (List.mem_append_left _ (List.mem_of_getElem? (i := 202) (by decide +kernel)))))) (by decide +kernel)
abbrev b_Mo_alongX : ByteArray := prog_8_method_12_code
def y_Mo_alongX : MethodName := ⟨R_Mo, "alongX", "(II)I"⟩
def w_Mo_alongX : List Cond := .code y_Mo_alongX b_Mo_alongX 3 (some (.int)) :: okTbl
theorem kc_Mo_alongX : Cond.code y_Mo_alongX b_Mo_alongX 3 (some (.int)) ∈ okTbl := ok_of (List.mem_append_right _ (List.mem_append_right _ (List.mem_append_right _ (List.mem_append_left _ (List.mem_of_getElem? (i := 194) (by decide +kernel)))))) (by decide +kernel)
abbrev b_Mo_alongY : ByteArray := prog_8_method_13_code
def y_Mo_alongY : MethodName := ⟨R_Mo, "alongY", "(II)I"⟩
def w_Mo_alongY : List Cond := .code y_Mo_alongY b_Mo_alongY 3 (some (.int)) :: okTbl
theorem kc_Mo_alongY : Cond.code y_Mo_alongY b_Mo_alongY 3 (some (.int)) ∈ okTbl := ok_of (List.mem_append_right _ (List.mem_append_right _ (List.mem_append_right _ (List.mem_append_left _ (List.mem_of_getElem? (i := 198) (by decide +kernel)))))) (by decide +kernel)
abbrev b_Mo_fits : ByteArray := prog_8_method_14_code
def y_Mo_fits : MethodName := ⟨R_Mo, "fits", "(IIII)Z"⟩
def w_Mo_fits : List Cond := .code y_Mo_fits b_Mo_fits 7 (some (.boolean)) :: okTbl
theorem kc_Mo_fits : Cond.code y_Mo_fits b_Mo_fits 7 (some (.boolean)) ∈ okTbl := ok_of (List.mem_append_right _ (List.mem_append_right _ (List.mem_append_right _ (List.mem_append_left _ (List.mem_of_getElem? (i := 190) (by decide +kernel)))))) (by decide +kernel)
abbrev b_Mo_brings : ByteArray := prog_8_method_15_code
def y_Mo_brings : MethodName := ⟨R_Mo, "brings", "(IIII)I"⟩
def w_Mo_brings : List Cond := .code y_Mo_brings b_Mo_brings 6 (some (.int)) :: okTbl
theorem kc_Mo_brings : Cond.code y_Mo_brings b_Mo_brings 6 (some (.int)) ∈ okTbl := ok_of (List.mem_append_right _ (List.mem_append_right _ (List.mem_append_right _ (List.mem_append_left _ (List.mem_of_getElem? (i := 210) (by decide +kernel)))))) (by decide +kernel)
abbrev b_Mo_cell2 : ByteArray := prog_8_method_16_code
def y_Mo_cell2 : MethodName := ⟨R_Mo, "cell", "(III)I"⟩
def w_Mo_cell2 : List Cond := .code y_Mo_cell2 b_Mo_cell2 3 (some (.int)) :: okTbl
theorem kc_Mo_cell2 : Cond.code y_Mo_cell2 b_Mo_cell2 3 (some (.int)) ∈ okTbl := ok_of (List.mem_append_right _ (List.mem_append_right _ (List.mem_append_right _ (List.mem_append_left _ (List.mem_of_getElem? (i := 182) (by decide +kernel)))))) (by decide +kernel)
abbrev b_Mo_behind : ByteArray := prog_8_method_17_code
def y_Mo_behind : MethodName := ⟨R_Mo, "behind", "(II)I"⟩
def w_Mo_behind : List Cond := .code y_Mo_behind b_Mo_behind 4 (some (.int)) :: okTbl
theorem kc_Mo_behind : Cond.code y_Mo_behind b_Mo_behind 4 (some (.int)) ∈ okTbl := ok_of (List.mem_append_right _ (List.mem_append_right _ (List.mem_append_right _ (List.mem_append_left _ (List.mem_of_getElem? (i := 214) (by decide +kernel)))))) (by decide +kernel)
abbrev b_Mo_mayIn : ByteArray := prog_8_method_18_code
def y_Mo_mayIn : MethodName := ⟨R_Mo, "mayIn", "(IIIII)Z"⟩
def w_Mo_mayIn : List Cond := .code y_Mo_mayIn b_Mo_mayIn 6 (some (.boolean)) :: okTbl
theorem kc_Mo_mayIn : Cond.code y_Mo_mayIn b_Mo_mayIn 6 (some (.boolean)) ∈ okTbl := ok_of (List.mem_append_right _ (List.mem_append_right _ (List.mem_append_right _ (List.mem_append_left _ (List.mem_of_getElem? (i := 186) (by decide +kernel)))))) (by decide +kernel)
abbrev b_Mo_worthWith : ByteArray := prog_8_method_19_code
def y_Mo_worthWith : MethodName := ⟨R_Mo, "worthWith", "(IIIII)I"⟩
def w_Mo_worthWith : List Cond := .code y_Mo_worthWith b_Mo_worthWith 7 (some (.int)) :: okTbl
theorem kc_Mo_worthWith : Cond.code y_Mo_worthWith b_Mo_worthWith 7 (some (.int)) ∈ okTbl := ok_of (List.mem_append_right _ (List.mem_append_right _ (List.mem_append_right _ (List.mem_append_left _ (List.mem_of_getElem? (i := 206) (by decide +kernel)))))) (by decide +kernel)
abbrev b_Mo_countWith : ByteArray := prog_8_method_20_code
def y_Mo_countWith : MethodName := ⟨R_Mo, "countWith", "(IIII)I"⟩
def w_Mo_countWith : List Cond := .code y_Mo_countWith b_Mo_countWith 5 (some (.int)) :: okTbl
theorem kc_Mo_countWith : Cond.code y_Mo_countWith b_Mo_countWith 5 (some (.int)) ∈ okTbl := ok_of (List.mem_append_right _ (List.mem_append_right _ (List.mem_append_right _ (List.mem_append_left _ (List.mem_of_getElem? (i := 218) (by decide +kernel)))))) (by decide +kernel)
abbrev b_Mo_isBetter : ByteArray := prog_8_method_21_code
def y_Mo_isBetter : MethodName := ⟨R_Mo, "isBetter", "(IIII)Z"⟩
def w_Mo_isBetter : List Cond := .code y_Mo_isBetter b_Mo_isBetter 4 (some (.boolean)) :: okTbl
theorem kc_Mo_isBetter : Cond.code y_Mo_isBetter b_Mo_isBetter 4 (some (.boolean)) ∈ okTbl := ok_of (List.mem_append_right _ (List.mem_append_right _ (List.mem_append_right _ (List.mem_append_left _ (List.mem_of_getElem? (i := 221) (by decide +kernel)))))) (by decide +kernel)
abbrev b_Mo_slab : ByteArray := prog_8_method_22_code
def y_Mo_slab : MethodName := ⟨R_Mo, "slab", "(III)V"⟩
def w_Mo_slab : List Cond := .code y_Mo_slab b_Mo_slab 10 none :: okTbl
theorem kc_Mo_slab : Cond.code y_Mo_slab b_Mo_slab 10 none ∈ okTbl := ok_of (List.mem_append_right _ (List.mem_append_right _ (List.mem_append_right _ (List.mem_append_left _ (List.mem_of_getElem? (i := 179) (by decide +kernel)))))) (by decide +kernel)
abbrev b_Mo_isThick : ByteArray := prog_8_method_23_code
def y_Mo_isThick : MethodName := ⟨R_Mo, "isThick", "(I)Z"⟩
def w_Mo_isThick : List Cond := .code y_Mo_isThick b_Mo_isThick 4 (some (.boolean)) :: okTbl
theorem kc_Mo_isThick : Cond.code y_Mo_isThick b_Mo_isThick 4 (some (.boolean)) ∈ okTbl := ok_of (List.mem_append_right _ (List.mem_append_right _ (List.mem_append_right _ (List.mem_append_left _ (List.mem_of_getElem? (i := 175) (by decide +kernel)))))) (by decide +kernel)
abbrev b_Mo_hasSlab : ByteArray := prog_8_method_24_code
def y_Mo_hasSlab : MethodName := ⟨R_Mo, "hasSlab", "(II)Z"⟩
def w_Mo_hasSlab : List Cond := .code y_Mo_hasSlab b_Mo_hasSlab 3 (some (.boolean)) :: okTbl
theorem kc_Mo_hasSlab : Cond.code y_Mo_hasSlab b_Mo_hasSlab 3 (some (.boolean)) ∈ okTbl := ok_of (List.mem_append_right _ (List.mem_append_right _ (List.mem_append_right _ (List.mem_append_left _ (List.mem_of_getElem? (i := 225) (by decide +kernel)))))) (by decide +kernel)
abbrev b_Mo_fill : ByteArray := prog_8_method_25_code
def y_Mo_fill : MethodName := ⟨R_Mo, "fill", "(I)V"⟩
def w_Mo_fill : List Cond := .code y_Mo_fill b_Mo_fill 7 none :: okTbl
theorem kc_Mo_fill : Cond.code y_Mo_fill b_Mo_fill 7 none ∈ okTbl := ok_of (List.mem_append_right _ (List.mem_append_right _ (List.mem_append_right _ (List.mem_append_left _ (List.mem_of_getElem? (i := 163) (by decide +kernel)))))) (by decide +kernel)
abbrev b_Mo_add : ByteArray := prog_8_method_26_code
def y_Mo_add : MethodName := ⟨R_Mo, "add", "(IIII)V"⟩
def w_Mo_add : List Cond := .code y_Mo_add b_Mo_add 8 none :: okTbl
theorem kc_Mo_add : Cond.code y_Mo_add b_Mo_add 8 none ∈ okTbl := ok_of (List.mem_append_right _ (List.mem_append_right _ (List.mem_append_right _ (List.mem_append_left _ (List.mem_of_getElem? (i := 237) (by decide +kernel)))))) (by decide +kernel)
abbrev b_Mo_walkSlab : ByteArray := prog_8_method_27_code
def y_Mo_walkSlab : MethodName := ⟨R_Mo, "walkSlab", "(III)V"⟩
def w_Mo_walkSlab : List Cond := .code y_Mo_walkSlab b_Mo_walkSlab 7 none :: okTbl
theorem kc_Mo_walkSlab : Cond.code y_Mo_walkSlab b_Mo_walkSlab 7 none ∈ okTbl := ok_of (List.mem_append_right _ (List.mem_append_right _ (List.mem_append_right _ (List.mem_append_left _ (List.mem_of_getElem? (i := 233) (by decide +kernel)))))) (by decide +kernel)
abbrev b_Mo_walk : ByteArray := prog_8_method_28_code
def y_Mo_walk : MethodName := ⟨R_Mo, "walk", "(I)V"⟩
def w_Mo_walk : List Cond := .code y_Mo_walk b_Mo_walk 4 none :: okTbl
theorem kc_Mo_walk : Cond.code y_Mo_walk b_Mo_walk 4 none ∈ okTbl := ok_of (List.mem_append_right _ (List.mem_append_right _ (List.mem_append_right _ (List.mem_append_left _ (List.mem_of_getElem? (i := 229) (by decide +kernel)))))) (by decide +kernel)
abbrev b_Mo_run : ByteArray := prog_8_method_29_code
def y_Mo_run : MethodName := ⟨R_Mo, "run", "()I"⟩
def w_Mo_run : List Cond := .code y_Mo_run b_Mo_run 3 (some (.int)) :: okTbl
theorem kc_Mo_run : Cond.code y_Mo_run b_Mo_run 3 (some (.int)) ∈ okTbl := ok_of (List.mem_append_right _ (List.mem_append_right _ (List.mem_append_right _ (List.mem_append_left _ (List.mem_of_getElem? (i := 159) (by decide +kernel)))))) (by decide +kernel)
abbrev b_Mo_bareOf : ByteArray := prog_8_method_30_code
def y_Mo_bareOf : MethodName := ⟨R_Mo, "bareOf", "(I)I"⟩
def w_Mo_bareOf : List Cond := .code y_Mo_bareOf b_Mo_bareOf 2 (some (.int)) :: okTbl
theorem kc_Mo_bareOf : Cond.code y_Mo_bareOf b_Mo_bareOf 2 (some (.int)) ∈ okTbl := ok_of (List.mem_append_right _ (List.mem_append_right _ (List.mem_append_right _ (List.mem_append_right _ (List.mem_of_getElem? (i := 5) (by decide +kernel)))))) (by decide +kernel)
abbrev b_Mo_board : ByteArray := prog_8_method_31_code
def y_Mo_board : MethodName := ⟨R_Mo, "board", "(II)I"⟩
def w_Mo_board : List Cond := .code y_Mo_board b_Mo_board 3 (some (.int)) :: okTbl
theorem kc_Mo_board : Cond.code y_Mo_board b_Mo_board 3 (some (.int)) ∈ okTbl := ok_of (List.mem_append_right _ (List.mem_append_right _ (List.mem_append_right _ (List.mem_append_right _ (List.mem_of_getElem? (i := 1) (by decide +kernel)))))) (by decide +kernel)
abbrev b_Mo_all : ByteArray := prog_8_method_32_code
def y_Mo_all : MethodName := ⟨R_Mo, "all", "(I)I"⟩
def w_Mo_all : List Cond := .code y_Mo_all b_Mo_all 2 (some (.int)) :: okTbl
theorem kc_Mo_all : Cond.code y_Mo_all b_Mo_all 2 (some (.int)) ∈ okTbl := ok_of (List.mem_append_right _ (List.mem_append_right _ (List.mem_append_right _ (List.mem_append_right _ (List.mem_of_getElem? (i := 9) (by decide +kernel)))))) (by decide +kernel)
abbrev b_Mo_worth : ByteArray := prog_8_method_33_code
def y_Mo_worth : MethodName := ⟨R_Mo, "worth", "(I)I"⟩
def w_Mo_worth : List Cond := .code y_Mo_worth b_Mo_worth 2 (some (.int)) :: okTbl
theorem kc_Mo_worth : Cond.code y_Mo_worth b_Mo_worth 2 (some (.int)) ∈ okTbl := ok_of (List.mem_append_right _ (List.mem_append_right _ (List.mem_append_right _ (List.mem_append_right _ (List.mem_of_getElem? (i := 13) (by decide +kernel)))))) (by decide +kernel)
abbrev b_Mo_woodCells : ByteArray := prog_8_method_34_code
def y_Mo_woodCells : MethodName := ⟨R_Mo, "woodCells", "()I"⟩
def w_Mo_woodCells : List Cond := .code y_Mo_woodCells b_Mo_woodCells 4 (some (.int)) :: okTbl
theorem kc_Mo_woodCells : Cond.code y_Mo_woodCells b_Mo_woodCells 4 (some (.int)) ∈ okTbl := ok_of (List.mem_append_right _ (List.mem_append_right _ (List.mem_append_right _ (List.mem_append_right _ (List.mem_of_getElem? (i := 21) (by decide +kernel)))))) (by decide +kernel)
abbrev b_Mo_yields : ByteArray := prog_8_method_35_code
def y_Mo_yields : MethodName := ⟨R_Mo, "yields", "(I)I"⟩
def w_Mo_yields : List Cond := .code y_Mo_yields b_Mo_yields 7 (some (.int)) :: okTbl
theorem kc_Mo_yields : Cond.code y_Mo_yields b_Mo_yields 7 (some (.int)) ∈ okTbl := ok_of (List.mem_append_right _ (List.mem_append_right _ (List.mem_append_right _ (List.mem_append_right _ (List.mem_of_getElem? (i := 17) (by decide +kernel)))))) (by decide +kernel)
abbrev b_Mo_may : ByteArray := prog_8_method_36_code
def y_Mo_may : MethodName := ⟨R_Mo, "may", "(IIII)Z"⟩
def w_Mo_may : List Cond := .code y_Mo_may b_Mo_may 5 (some (.boolean)) :: okTbl
theorem kc_Mo_may : Cond.code y_Mo_may b_Mo_may 5 (some (.boolean)) ∈ okTbl := ok_of (List.mem_append_right _ (List.mem_append_right _ (List.mem_append_right _ (List.mem_append_right _ (List.mem_of_getElem? (i := 25) (by decide +kernel)))))) (by decide +kernel)
abbrev b_Mo_isApart : ByteArray := prog_8_method_37_code
def y_Mo_isApart : MethodName := ⟨R_Mo, "isApart", "(III)Z"⟩
def w_Mo_isApart : List Cond := .code y_Mo_isApart b_Mo_isApart 6 (some (.boolean)) :: okTbl
theorem kc_Mo_isApart : Cond.code y_Mo_isApart b_Mo_isApart 6 (some (.boolean)) ∈ okTbl := ok_of (List.mem_append_right _ (List.mem_append_right _ (List.mem_append_right _ (List.mem_append_right _ (List.mem_of_getElem? (i := 33) (by decide +kernel)))))) (by decide +kernel)
abbrev b_Mo_apart : ByteArray := prog_8_method_38_code
def y_Mo_apart : MethodName := ⟨R_Mo, "apart", "(II)Z"⟩
def w_Mo_apart : List Cond := .code y_Mo_apart b_Mo_apart 3 (some (.boolean)) :: okTbl
theorem kc_Mo_apart : Cond.code y_Mo_apart b_Mo_apart 3 (some (.boolean)) ∈ okTbl := ok_of (List.mem_append_right _ (List.mem_append_right _ (List.mem_append_right _ (List.mem_append_right _ (List.mem_of_getElem? (i := 29) (by decide +kernel)))))) (by decide +kernel)
abbrev b_Mo_wood : ByteArray := prog_8_method_39_code
def y_Mo_wood : MethodName := ⟨R_Mo, "wood", "()I"⟩
def w_Mo_wood : List Cond := .code y_Mo_wood b_Mo_wood 1 (some (.int)) :: okTbl
theorem kc_Mo_wood : Cond.code y_Mo_wood b_Mo_wood 1 (some (.int)) ∈ okTbl := ok_of (List.mem_append_right _ (List.mem_append_right _ (List.mem_append_right _ (List.mem_append_right _ (List.mem_of_getElem? (i := 37) (by decide +kernel)))))) (by decide +kernel)
abbrev b_Be_init : ByteArray := prog_2_method_1_code
def y_Be_init : MethodName := ⟨R_Be, "<init>", "(LSawGrids$Boards;II)V"⟩
def w_Be_init : List Cond := .code y_Be_init b_Be_init 4 none :: okTbl
theorem kc_Be_init : Cond.code y_Be_init b_Be_init 4 none ∈ okTbl := ok_of (List.mem_append_right _ (List.mem_append_left _ (List.mem_of_getElem? (i := 105) (by decide +kernel)))) (by decide +kernel)
abbrev b_Be_valueOf : ByteArray := prog_2_method_2_code
def y_Be_valueOf : MethodName := ⟨R_Be, "valueOf", "(J)I"⟩
def w_Be_valueOf : List Cond := .code y_Be_valueOf b_Be_valueOf 2 (some (.int)) :: okTbl
theorem kc_Be_valueOf : Cond.code y_Be_valueOf b_Be_valueOf 2 (some (.int)) ∈ okTbl := ok_of (List.mem_append_right _ (List.mem_append_right _ (List.mem_append_right _ (List.mem_append_left _ (List.mem_of_getElem? (i := 26) (by decide +kernel)))))) (by decide +kernel)
abbrev b_Be_plan : ByteArray := prog_2_method_3_code
def y_Be_plan : MethodName := ⟨R_Be, "plan", "(I)J"⟩
def w_Be_plan : List Cond := .code y_Be_plan b_Be_plan 3 (some (.long)) :: okTbl
theorem kc_Be_plan : Cond.code y_Be_plan b_Be_plan 3 (some (.long)) ∈ okTbl := ok_of (List.mem_append_right _ (List.mem_append_left _ (List.mem_of_getElem? (i := 215) (by decide +kernel)))) (by decide +kernel)
abbrev b_Be_planRow : ByteArray := prog_2_method_4_code
def y_Be_planRow : MethodName := ⟨R_Be, "planRow", "(I)V"⟩
def w_Be_planRow : List Cond := .code y_Be_planRow b_Be_planRow 10 none :: okTbl
theorem kc_Be_planRow : Cond.code y_Be_planRow b_Be_planRow 10 none ∈ okTbl := ok_of (List.mem_append_right _ (List.mem_append_left _ (List.mem_of_getElem? (i := 219) (by decide +kernel)))) (by decide +kernel)
abbrev b_Be_planSlab : ByteArray := prog_2_method_5_code
def y_Be_planSlab : MethodName := ⟨R_Be, "planSlab", "(II)J"⟩
def w_Be_planSlab : List Cond := .code y_Be_planSlab b_Be_planSlab 4 (some (.long)) :: okTbl
theorem kc_Be_planSlab : Cond.code y_Be_planSlab b_Be_planSlab 4 (some (.long)) ∈ okTbl := ok_of (List.mem_append_right _ (List.mem_append_left _ (List.mem_of_getElem? (i := 227) (by decide +kernel)))) (by decide +kernel)
abbrev b_Be_planColumn : ByteArray := prog_2_method_6_code
def y_Be_planColumn : MethodName := ⟨R_Be, "planColumn", "(III)V"⟩
def w_Be_planColumn : List Cond := .code y_Be_planColumn b_Be_planColumn 10 none :: okTbl
theorem kc_Be_planColumn : Cond.code y_Be_planColumn b_Be_planColumn 10 none ∈ okTbl := ok_of (List.mem_append_right _ (List.mem_append_left _ (List.mem_of_getElem? (i := 231) (by decide +kernel)))) (by decide +kernel)
abbrev b_Be_xAt : ByteArray := prog_2_method_7_code
def y_Be_xAt : MethodName := ⟨R_Be, "xAt", "(II)I"⟩
def w_Be_xAt : List Cond := .code y_Be_xAt b_Be_xAt 3 (some (.int)) :: okTbl
theorem kc_Be_xAt : Cond.code y_Be_xAt b_Be_xAt 3 (some (.int)) ∈ okTbl := ok_of (List.mem_append_right _ (List.mem_append_left _ (List.mem_of_getElem? (i := 235) (by decide +kernel)))) (by decide +kernel)
abbrev b_Be_yAt : ByteArray := prog_2_method_8_code
def y_Be_yAt : MethodName := ⟨R_Be, "yAt", "(II)I"⟩
def w_Be_yAt : List Cond := .code y_Be_yAt b_Be_yAt 3 (some (.int)) :: okTbl
theorem kc_Be_yAt : Cond.code y_Be_yAt b_Be_yAt 3 (some (.int)) ∈ okTbl := ok_of (List.mem_append_right _ (List.mem_append_left _ (List.mem_of_getElem? (i := 239) (by decide +kernel)))) (by decide +kernel)
abbrev b_Be_layOut : ByteArray := prog_2_method_9_code
def y_Be_layOut : MethodName := ⟨R_Be, "layOut", "(LSawGrids$Pattern;)V"⟩
def w_Be_layOut : List Cond := .code y_Be_layOut b_Be_layOut 5 none :: okTbl
theorem kc_Be_layOut : Cond.code y_Be_layOut b_Be_layOut 5 none ∈ okTbl := ok_of (List.mem_append_right _ (List.mem_append_right _ (List.mem_append_left _ (List.mem_of_getElem? (i := 26) (by decide +kernel))))) (by decide +kernel)
abbrev b_Be_layOutSlab : ByteArray := prog_2_method_10_code
def y_Be_layOutSlab : MethodName := ⟨R_Be, "layOutSlab", "(LSawGrids$Pattern;II)V"⟩
def w_Be_layOutSlab : List Cond := .code y_Be_layOutSlab b_Be_layOutSlab 7 none :: okTbl
theorem kc_Be_layOutSlab : Cond.code y_Be_layOutSlab b_Be_layOutSlab 7 none ∈ okTbl := ok_of (List.mem_append_right _ (List.mem_append_right _ (List.mem_append_left _ (List.mem_of_getElem? (i := 34) (by decide +kernel))))) (by decide +kernel)
abbrev b_Be_layOutBoard : ByteArray := prog_2_method_11_code
def y_Be_layOutBoard : MethodName := ⟨R_Be, "layOutBoard", "(LSawGrids$Pattern;III)V"⟩
def w_Be_layOutBoard : List Cond := .code y_Be_layOutBoard b_Be_layOutBoard 5 none :: okTbl
theorem kc_Be_layOutBoard : Cond.code y_Be_layOutBoard b_Be_layOutBoard 5 none ∈ okTbl := ok_of (List.mem_append_right _ (List.mem_append_right _ (List.mem_append_left _ (List.mem_of_getElem? (i := 45) (by decide +kernel))))) (by decide +kernel)
abbrev b_Bo_init : ByteArray := prog_3_method_1_code
def y_Bo_init : MethodName := ⟨R_Bo, "<init>", "(LSawGrids$Log;LSawGrids$Sizes;)V"⟩
def w_Bo_init : List Cond := .code y_Bo_init b_Bo_init 3 none :: okTbl
theorem kc_Bo_init : Cond.code y_Bo_init b_Bo_init 3 none ∈ okTbl := ok_of (List.mem_append_right _ (List.mem_append_left _ (List.mem_of_getElem? (i := 91) (by decide +kernel)))) (by decide +kernel)
abbrev b_Bo_fits : ByteArray := prog_3_method_2_code
def y_Bo_fits : MethodName := ⟨R_Bo, "fits", "(IIII)Z"⟩
def w_Bo_fits : List Cond := .code y_Bo_fits b_Bo_fits 6 (some (.boolean)) :: okTbl
theorem kc_Bo_fits : Cond.code y_Bo_fits b_Bo_fits 6 (some (.boolean)) ∈ okTbl := ok_of (List.mem_append_right _ (List.mem_append_right _ (List.mem_append_left _ (List.mem_of_getElem? (i := 3) (by decide +kernel))))) (by decide +kernel)
abbrev b_Bo_bareAt : ByteArray := prog_3_method_3_code
def y_Bo_bareAt : MethodName := ⟨R_Bo, "bareAt", "(IIII)I"⟩
def w_Bo_bareAt : List Cond := .code y_Bo_bareAt b_Bo_bareAt 5 (some (.int)) :: okTbl
theorem kc_Bo_bareAt : Cond.code y_Bo_bareAt b_Bo_bareAt 5 (some (.int)) ∈ okTbl := ok_of (List.mem_append_right _ (List.mem_append_right _ (List.mem_append_right _ (List.mem_append_left _ (List.mem_of_getElem? (i := 3) (by decide +kernel)))))) (by decide +kernel)
abbrev b_Bo_valueAt : ByteArray := prog_3_method_4_code
def y_Bo_valueAt : MethodName := ⟨R_Bo, "valueAt", "(IIII)I"⟩
def w_Bo_valueAt : List Cond := .code y_Bo_valueAt b_Bo_valueAt 6 (some (.int)) :: okTbl
theorem kc_Bo_valueAt : Cond.code y_Bo_valueAt b_Bo_valueAt 6 (some (.int)) ∈ okTbl := ok_of (List.mem_append_right _ (List.mem_append_right _ (List.mem_append_left _ (List.mem_of_getElem? (i := 19) (by decide +kernel))))) (by decide +kernel)
abbrev b_Lo_init : ByteArray := prog_4_method_1_code
def y_Lo_init : MethodName := ⟨R_Lo, "<init>", "(I)V"⟩
def w_Lo_init : List Cond := .code y_Lo_init b_Lo_init 2 none :: okTbl
theorem kc_Lo_init : Cond.code y_Lo_init b_Lo_init 2 none ∈ okTbl := ok_of (List.mem_append_right _ (List.mem_append_left _ (List.mem_of_getElem? (i := 33) (by decide +kernel)))) (by decide +kernel)
abbrev b_Lo_isCell : ByteArray := prog_4_method_2_code
def y_Lo_isCell : MethodName := ⟨R_Lo, "isCell", "(II)Z"⟩
def w_Lo_isCell : List Cond := .code y_Lo_isCell b_Lo_isCell 3 (some (.boolean)) :: okTbl
theorem kc_Lo_isCell : Cond.code y_Lo_isCell b_Lo_isCell 3 (some (.boolean)) ∈ okTbl := ok_of (List.mem_append_right _ (List.mem_append_right _ (List.mem_append_left _ (List.mem_of_getElem? (i := 77) (by decide +kernel))))) (by decide +kernel)
abbrev b_Lo_mark : ByteArray := prog_4_method_3_code
def y_Lo_mark : MethodName := ⟨R_Lo, "mark", "(IIIZ)Z"⟩
def w_Lo_mark : List Cond := .code y_Lo_mark b_Lo_mark 7 (some (.boolean)) :: okTbl
theorem kc_Lo_mark : Cond.code y_Lo_mark b_Lo_mark 7 (some (.boolean)) ∈ okTbl := ok_of (List.mem_append_right _ (List.mem_append_right _ (List.mem_append_left _ (List.mem_of_getElem? (i := 150) (by decide +kernel))))) (by decide +kernel)
abbrev b_Lo_tie : ByteArray := prog_4_method_4_code
def y_Lo_tie : MethodName := ⟨R_Lo, "tie", "(III)Z"⟩
def w_Lo_tie : List Cond := .code y_Lo_tie b_Lo_tie 6 (some (.boolean)) :: okTbl
theorem kc_Lo_tie : Cond.code y_Lo_tie b_Lo_tie 6 (some (.boolean)) ∈ okTbl := ok_of (List.mem_append_right _ (List.mem_append_right _ (List.mem_append_left _ (List.mem_of_getElem? (i := 188) (by decide +kernel))))) (by decide +kernel)
abbrev b_Lo_woodCells : ByteArray := prog_4_method_5_code
def y_Lo_woodCells : MethodName := ⟨R_Lo, "woodCells", "()I"⟩
def w_Lo_woodCells : List Cond := .code y_Lo_woodCells b_Lo_woodCells 1 (some (.int)) :: okTbl
theorem kc_Lo_woodCells : Cond.code y_Lo_woodCells b_Lo_woodCells 1 (some (.int)) ∈ okTbl := ok_of (List.mem_append_right _ (List.mem_append_right _ (List.mem_append_left _ (List.mem_of_getElem? (i := 57) (by decide +kernel))))) (by decide +kernel)
abbrev b_Lo_sumIn : ByteArray := prog_4_method_6_code
def y_Lo_sumIn : MethodName := ⟨R_Lo, "sumIn", "([IIIII)I"⟩
def w_Lo_sumIn : List Cond := .code y_Lo_sumIn b_Lo_sumIn 8 (some (.int)) :: okTbl
theorem kc_Lo_sumIn : Cond.code y_Lo_sumIn b_Lo_sumIn 8 (some (.int)) ∈ okTbl := ok_of (List.mem_append_right _ (List.mem_append_right _ (List.mem_append_left _ (List.mem_of_getElem? (i := 15) (by decide +kernel))))) (by decide +kernel)
abbrev b_Lo_sumUp : ByteArray := prog_4_method_7_code
def y_Lo_sumUp : MethodName := ⟨R_Lo, "sumUp", "()V"⟩
def w_Lo_sumUp : List Cond := .code y_Lo_sumUp b_Lo_sumUp 2 none :: okTbl
theorem kc_Lo_sumUp : Cond.code y_Lo_sumUp b_Lo_sumUp 2 none ∈ okTbl := ok_of (List.mem_append_right _ (List.mem_append_left _ (List.mem_of_getElem? (i := 207) (by decide +kernel)))) (by decide +kernel)
abbrev b_Lo_sumUpRow : ByteArray := prog_4_method_8_code
def y_Lo_sumUpRow : MethodName := ⟨R_Lo, "sumUpRow", "(I)V"⟩
def w_Lo_sumUpRow : List Cond := .code y_Lo_sumUpRow b_Lo_sumUpRow 8 none :: okTbl
theorem kc_Lo_sumUpRow : Cond.code y_Lo_sumUpRow b_Lo_sumUpRow 8 none ∈ okTbl := ok_of (List.mem_append_right _ (List.mem_append_left _ (List.mem_of_getElem? (i := 211) (by decide +kernel)))) (by decide +kernel)
abbrev b_Pa_init : ByteArray := prog_5_method_1_code
def y_Pa_init : MethodName := ⟨R_Pa, "<init>", "(I)V"⟩
def w_Pa_init : List Cond := .code y_Pa_init b_Pa_init 2 none :: okTbl
theorem kc_Pa_init : Cond.code y_Pa_init b_Pa_init 2 none ∈ okTbl := ok_of (List.mem_append_right _ (List.mem_append_left _ (List.mem_of_getElem? (i := 140) (by decide +kernel)))) (by decide +kernel)
abbrev b_Pa_clear : ByteArray := prog_5_method_2_code
def y_Pa_clear : MethodName := ⟨R_Pa, "clear", "(I)V"⟩
def w_Pa_clear : List Cond := .code y_Pa_clear b_Pa_clear 2 none :: okTbl
theorem kc_Pa_clear : Cond.code y_Pa_clear b_Pa_clear 2 none ∈ okTbl := ok_of (List.mem_append_right _ (List.mem_append_right _ (List.mem_append_left _ (List.mem_of_getElem? (i := 30) (by decide +kernel))))) (by decide +kernel)
abbrev b_Pa_add : ByteArray := prog_5_method_3_code
def y_Pa_add : MethodName := ⟨R_Pa, "add", "(III)V"⟩
def w_Pa_add : List Cond := .code y_Pa_add b_Pa_add 4 none :: okTbl
theorem kc_Pa_add : Cond.code y_Pa_add b_Pa_add 4 none ∈ okTbl := ok_of (List.mem_append_right _ (List.mem_append_right _ (List.mem_append_left _ (List.mem_of_getElem? (i := 49) (by decide +kernel))))) (by decide +kernel)
abbrev b_Si_init : ByteArray := prog_6_method_1_code
def y_Si_init : MethodName := ⟨R_Si, "<init>", "()V"⟩
def w_Si_init : List Cond := .code y_Si_init b_Si_init 1 none :: okTbl
theorem kc_Si_init : Cond.code y_Si_init b_Si_init 1 none ∈ okTbl := ok_of (List.mem_append_right _ (List.mem_append_left _ (List.mem_of_getElem? (i := 63) (by decide +kernel)))) (by decide +kernel)
abbrev b_Si_has : ByteArray := prog_6_method_2_code
def y_Si_has : MethodName := ⟨R_Si, "has", "(I)Z"⟩
def w_Si_has : List Cond := .code y_Si_has b_Si_has 2 (some (.boolean)) :: okTbl
theorem kc_Si_has : Cond.code y_Si_has b_Si_has 2 (some (.boolean)) ∈ okTbl := ok_of (List.mem_append_right _ (List.mem_append_right _ (List.mem_append_left _ (List.mem_of_getElem? (i := 38) (by decide +kernel))))) (by decide +kernel)
abbrev b_Si_haveThickness : ByteArray := prog_6_method_3_code
def y_Si_haveThickness : MethodName := ⟨R_Si, "haveThickness", "(I)Z"⟩
def w_Si_haveThickness : List Cond := .code y_Si_haveThickness b_Si_haveThickness 3 (some (.boolean)) :: okTbl
theorem kc_Si_haveThickness : Cond.code y_Si_haveThickness b_Si_haveThickness 3 (some (.boolean)) ∈ okTbl := ok_of (List.mem_append_right _ (List.mem_append_left _ (List.mem_of_getElem? (i := 223) (by decide +kernel)))) (by decide +kernel)
abbrev b_Si_add : ByteArray := prog_6_method_4_code
def y_Si_add : MethodName := ⟨R_Si, "add", "(IIII)I"⟩
def w_Si_add : List Cond := .code y_Si_add b_Si_add 5 (some (.int)) :: okTbl
theorem kc_Si_add : Cond.code y_Si_add b_Si_add 5 (some (.int)) ∈ okTbl := ok_of (List.mem_append_right _ (List.mem_append_right _ (List.mem_append_left _ (List.mem_of_getElem? (i := 219) (by decide +kernel))))) (by decide +kernel)
abbrev b_Si_alongX : ByteArray := prog_6_method_5_code
def y_Si_alongX : MethodName := ⟨R_Si, "alongX", "(II)I"⟩
def w_Si_alongX : List Cond := .code y_Si_alongX b_Si_alongX 3 (some (.int)) :: okTbl
theorem kc_Si_alongX : Cond.code y_Si_alongX b_Si_alongX 3 (some (.int)) ∈ okTbl := ok_of (List.mem_append_right _ (List.mem_append_right _ (List.mem_append_left _ (List.mem_of_getElem? (i := 7) (by decide +kernel))))) (by decide +kernel)
abbrev b_Si_alongY : ByteArray := prog_6_method_6_code
def y_Si_alongY : MethodName := ⟨R_Si, "alongY", "(II)I"⟩
def w_Si_alongY : List Cond := .code y_Si_alongY b_Si_alongY 3 (some (.int)) :: okTbl
theorem kc_Si_alongY : Cond.code y_Si_alongY b_Si_alongY 3 (some (.int)) ∈ okTbl := ok_of (List.mem_append_right _ (List.mem_append_right _ (List.mem_append_left _ (List.mem_of_getElem? (i := 11) (by decide +kernel))))) (by decide +kernel)
abbrev b_La_cell1 : ByteArray := method_2_code
def y_La_cell1 : MethodName := ⟨R_La, "cell", "([II)I"⟩
def w_La_cell1 : List Cond := .code y_La_cell1 b_La_cell1 2 (some (.int)) :: okTbl
theorem kc_La_cell1 : Cond.code y_La_cell1 b_La_cell1 2 (some (.int)) ∈ okTbl := ok_of (List.mem_append_right _ (List.mem_append_right _ (List.mem_append_left _ (List.mem_of_getElem? (i := 61) (by decide +kernel))))) (by decide +kernel)
abbrev b_La_cell2 : ByteArray := method_3_code
def y_La_cell2 : MethodName := ⟨R_La, "cell", "(LSawGrids;IIIZ[J)I"⟩
def w_La_cell2 : List Cond := .codeWith y_La_cell2 b_La_cell2 7 (some (.int)) [(0, 21, 24, 13)] :: okTbl
theorem kc_La_cell2 : Cond.codeWith y_La_cell2 b_La_cell2 7 (some (.int)) [(0, 21, 24, 13)] ∈ okTbl := ok_of (List.mem_append_right _ (List.mem_append_right _ (List.mem_append_left _ (List.mem_of_getElem? (i := 64) (by decide +kernel))))) (by decide +kernel)
abbrev b_La_span : ByteArray := method_4_code
def y_La_span : MethodName := ⟨R_La, "span", "(LSawGrids;IIII)I"⟩
def w_La_span : List Cond := .codeWith y_La_span b_La_span 6 (some (.int)) [(0, 9, 12, 13), (0, 9, 16, 19)] :: okTbl
theorem kc_La_span : Cond.codeWith y_La_span b_La_span 6 (some (.int)) [(0, 9, 12, 13), (0, 9, 16, 19)] ∈ okTbl := ok_of (List.mem_append_right _ (List.mem_append_right _ (List.mem_append_left _ (List.mem_of_getElem? (i := 153) (by decide +kernel))))) (by decide +kernel)
abbrev b_La_knot : ByteArray := method_5_code
def y_La_knot : MethodName := ⟨R_La, "knot", "(LSawGrids;III[J)I"⟩
def w_La_knot : List Cond := .codeWith y_La_knot b_La_knot 6 (some (.int)) [(0, 19, 22, 13), (0, 19, 26, 19)] :: okTbl
theorem kc_La_knot : Cond.codeWith y_La_knot b_La_knot 6 (some (.int)) [(0, 19, 22, 13), (0, 19, 26, 19)] ∈ okTbl := ok_of (List.mem_append_right _ (List.mem_append_right _ (List.mem_append_left _ (List.mem_of_getElem? (i := 178) (by decide +kernel))))) (by decide +kernel)
abbrev b_La_size : ByteArray := method_6_code
def y_La_size : MethodName := ⟨R_La, "size", "(LSawGrids;IIII[J)I"⟩
def w_La_size : List Cond := .codeWith y_La_size b_La_size 7 (some (.int)) [(0, 14, 17, 19), (0, 14, 21, 29)] :: okTbl
theorem kc_La_size : Cond.codeWith y_La_size b_La_size 7 (some (.int)) [(0, 14, 17, 19), (0, 14, 21, 29)] ∈ okTbl := ok_of (List.mem_append_right _ (List.mem_append_right _ (List.mem_append_left _ (List.mem_of_getElem? (i := 191) (by decide +kernel))))) (by decide +kernel)
abbrev b_La_board : ByteArray := method_7_code
def y_La_board : MethodName := ⟨R_La, "board", "(LSawGrids;II[J)I"⟩
def w_La_board : List Cond := .codeWith y_La_board b_La_board 5 (some (.int)) [(0, 10, 13, 29), (0, 10, 17, 13)] :: okTbl
theorem kc_La_board : Cond.codeWith y_La_board b_La_board 5 (some (.int)) [(0, 10, 13, 29), (0, 10, 17, 13)] ∈ okTbl := ok_of (List.mem_append_right _ (List.mem_append_right _ (List.mem_append_left _ (List.mem_of_getElem? (i := 222) (by decide +kernel))))) (by decide +kernel)
abbrev b_La_all : ByteArray := method_8_code
def y_La_all : MethodName := ⟨R_La, "all", "(LSawGrids;I[J)I"⟩
def w_La_all : List Cond := .codeWith y_La_all b_La_all 4 (some (.int)) [(0, 9, 12, 29), (0, 9, 15, 13)] :: okTbl
theorem kc_La_all : Cond.codeWith y_La_all b_La_all 4 (some (.int)) [(0, 9, 12, 29), (0, 9, 15, 13)] ∈ okTbl := ok_of (List.mem_append_right _ (List.mem_append_right _ (List.mem_append_right _ (List.mem_append_left _ (List.mem_of_getElem? (i := 7) (by decide +kernel)))))) (by decide +kernel)
abbrev b_La_worth : ByteArray := method_9_code
def y_La_worth : MethodName := ⟨R_La, "worth", "(LSawGrids;I[J)I"⟩
def w_La_worth : List Cond := .codeWith y_La_worth b_La_worth 4 (some (.int)) [(0, 9, 12, 13)] :: okTbl
theorem kc_La_worth : Cond.codeWith y_La_worth b_La_worth 4 (some (.int)) [(0, 9, 12, 13)] ∈ okTbl := ok_of (List.mem_append_right _ (List.mem_append_right _ (List.mem_append_right _ (List.mem_append_left _ (List.mem_of_getElem? (i := 15) (by decide +kernel)))))) (by decide +kernel)
abbrev b_La_yields : ByteArray := method_10_code
def y_La_yields : MethodName := ⟨R_La, "yields", "(LSawGrids;I[J)I"⟩
def w_La_yields : List Cond := .codeWith y_La_yields b_La_yields 4 (some (.int)) [(0, 9, 12, 29), (0, 9, 15, 13)] :: okTbl
theorem kc_La_yields : Cond.codeWith y_La_yields b_La_yields 4 (some (.int)) [(0, 9, 12, 29), (0, 9, 15, 13)] ∈ okTbl := ok_of (List.mem_append_right _ (List.mem_append_right _ (List.mem_append_right _ (List.mem_append_left _ (List.mem_of_getElem? (i := 29) (by decide +kernel)))))) (by decide +kernel)
abbrev b_La_may : ByteArray := method_11_code
def y_La_may : MethodName := ⟨R_La, "may", "(LSawGrids;IIII[J)I"⟩
def w_La_may : List Cond := .codeWith y_La_may b_La_may 7 (some (.int)) [(0, 21, 24, 13)] :: okTbl
theorem kc_La_may : Cond.codeWith y_La_may b_La_may 7 (some (.int)) [(0, 21, 24, 13)] ∈ okTbl := ok_of (List.mem_append_right _ (List.mem_append_right _ (List.mem_append_right _ (List.mem_append_left _ (List.mem_of_getElem? (i := 40) (by decide +kernel)))))) (by decide +kernel)
abbrev b_La_apart : ByteArray := method_12_code
def y_La_apart : MethodName := ⟨R_La, "apart", "(LSawGrids;II[J)I"⟩
def w_La_apart : List Cond := .codeWith y_La_apart b_La_apart 5 (some (.int)) [(0, 17, 20, 29), (0, 17, 24, 13)] :: okTbl
theorem kc_La_apart : Cond.codeWith y_La_apart b_La_apart 5 (some (.int)) [(0, 17, 20, 29), (0, 17, 24, 13)] ∈ okTbl := ok_of (List.mem_append_right _ (List.mem_append_right _ (List.mem_append_right _ (List.mem_append_left _ (List.mem_of_getElem? (i := 50) (by decide +kernel)))))) (by decide +kernel)
end
section
theorem k_0 : (Cond.initialized "SawGridsLaw") ∈ okTbl := ok_of (List.mem_append_right _ (List.mem_append_left _ (List.mem_of_getElem? (i := 0) (by decide +kernel)))) (by decide +kernel)
theorem k_1 : (Cond.initialized "SawGrids") ∈ okTbl := ok_of (List.mem_append_right _ (List.mem_append_left _ (List.mem_of_getElem? (i := 1) (by decide +kernel)))) (by decide +kernel)
theorem k_2 : (Cond.initialized "java/lang/Math") ∈ okTbl := ok_of (List.mem_append_right _ (List.mem_append_left _ (List.mem_of_getElem? (i := 2) (by decide +kernel)))) (by decide +kernel)
theorem k_3 : (Cond.initialized "SawGrids$Log") ∈ okTbl := ok_of (List.mem_append_right _ (List.mem_append_left _ (List.mem_of_getElem? (i := 3) (by decide +kernel)))) (by decide +kernel)
theorem k_4 : (Cond.initialized "SawGrids$Sizes") ∈ okTbl := ok_of (List.mem_append_right _ (List.mem_append_left _ (List.mem_of_getElem? (i := 4) (by decide +kernel)))) (by decide +kernel)
theorem k_5 : (Cond.initialized "SawGrids$Boards") ∈ okTbl := ok_of (List.mem_append_right _ (List.mem_append_left _ (List.mem_of_getElem? (i := 5) (by decide +kernel)))) (by decide +kernel)
theorem k_6 : (Cond.initialized "SawGrids$Bench") ∈ okTbl := ok_of (List.mem_append_right _ (List.mem_append_left _ (List.mem_of_getElem? (i := 6) (by decide +kernel)))) (by decide +kernel)
theorem k_7 : (Cond.initialized "SawGrids$Pattern") ∈ okTbl := ok_of (List.mem_append_right _ (List.mem_append_left _ (List.mem_of_getElem? (i := 7) (by decide +kernel)))) (by decide +kernel)
theorem k_8 : (Cond.initialized "SawGridsModel") ∈ okTbl := ok_of (List.mem_append_right _ (List.mem_append_left _ (List.mem_of_getElem? (i := 8) (by decide +kernel)))) (by decide +kernel)
theorem k_9 : (Cond.initialized "java/lang/Throwable") ∈ okTbl := ok_of (List.mem_append_right _ (List.mem_append_left _ (List.mem_of_getElem? (i := 9) (by decide +kernel)))) (by decide +kernel)
theorem k_10 : (Cond.initialized "java/lang/Exception") ∈ okTbl := ok_of (List.mem_append_right _ (List.mem_append_left _ (List.mem_of_getElem? (i := 10) (by decide +kernel)))) (by decide +kernel)
theorem k_11 : (Cond.initialized "java/lang/RuntimeException") ∈ okTbl := ok_of (List.mem_append_right _ (List.mem_append_left _ (List.mem_of_getElem? (i := 11) (by decide +kernel)))) (by decide +kernel)
theorem k_12 : (Cond.initialized "java/lang/IndexOutOfBoundsException") ∈ okTbl := ok_of (List.mem_append_right _ (List.mem_append_left _ (List.mem_of_getElem? (i := 12) (by decide +kernel)))) (by decide +kernel)
theorem k_13 : (Cond.initialized "java/lang/IllegalArgumentException") ∈ okTbl := ok_of (List.mem_append_right _ (List.mem_append_left _ (List.mem_of_getElem? (i := 13) (by decide +kernel)))) (by decide +kernel)
theorem k_14 : (Cond.initialized "java/lang/IllegalStateException") ∈ okTbl := ok_of (List.mem_append_right _ (List.mem_append_left _ (List.mem_of_getElem? (i := 14) (by decide +kernel)))) (by decide +kernel)
theorem k_15 : (Cond.classLink "SawGridsLaw" (8 : Nat) "SawGrids") ∈ okTbl := ok_of (List.mem_append_right _ (List.mem_append_left _ (List.mem_of_getElem? (i := 15) (by decide +kernel)))) (by decide +kernel)
theorem k_16 : (Cond.instantiable "SawGrids" (7 : Nat)) ∈ okTbl := ok_of (List.mem_append_right _ (List.mem_append_left _ (List.mem_of_getElem? (i := 16) (by decide +kernel)))) (by decide +kernel)
theorem k_17 : (Cond.methodLink "SawGridsLaw" (58 : Nat) ({ cls := "SawGrids", name := "<init>", desc := "(II)V" } : MethodName)) ∈ okTbl := ok_of (List.mem_append_right _ (List.mem_append_left _ (List.mem_of_getElem? (i := 17) (by decide +kernel)))) (by decide +kernel)
theorem k_18 : (Cond.instanceMethod ({ cls := "SawGrids", name := "<init>", desc := "(II)V" } : MethodName)) ∈ okTbl := ok_of (List.mem_append_right _ (List.mem_append_left _ (List.mem_of_getElem? (i := 18) (by decide +kernel)))) (by decide +kernel)
theorem k_20 : (Cond.methodLink "SawGrids" (1 : Nat) ({ cls := "java/lang/Object", name := "<init>", desc := "()V" } : MethodName)) ∈ okTbl := ok_of (List.mem_append_right _ (List.mem_append_left _ (List.mem_of_getElem? (i := 20) (by decide +kernel)))) (by decide +kernel)
theorem k_21 : (Cond.instanceMethod ({ cls := "java/lang/Object", name := "<init>", desc := "()V" } : MethodName)) ∈ okTbl := ok_of (List.mem_append_right _ (List.mem_append_left _ (List.mem_of_getElem? (i := 21) (by decide +kernel)))) (by decide +kernel)
theorem k_23 : (Cond.methodLink "SawGrids" (9 : Nat) ({ cls := "java/lang/Math", name := "min", desc := "(II)I" } : MethodName)) ∈ okTbl := ok_of (List.mem_append_right _ (List.mem_append_left _ (List.mem_of_getElem? (i := 23) (by decide +kernel)))) (by decide +kernel)
theorem k_24 : (Cond.static ({ cls := "java/lang/Math", name := "min", desc := "(II)I" } : MethodName)) ∈ okTbl := ok_of (List.mem_append_right _ (List.mem_append_left _ (List.mem_of_getElem? (i := 24) (by decide +kernel)))) (by decide +kernel)
theorem k_25 : (Cond.code ({ cls := "java/lang/Math", name := "min", desc := "(II)I" } : MethodName) prog_13_method_69_code (2 : Nat) (Option.some FieldType.int)) ∈ okTbl := ok_of (List.mem_append_right _ (List.mem_append_left _ (List.mem_of_getElem? (i := 25) (by decide +kernel)))) (by decide +kernel)
theorem k_26 : (Cond.methodLink "SawGrids" (15 : Nat) ({ cls := "java/lang/Math", name := "max", desc := "(II)I" } : MethodName)) ∈ okTbl := ok_of (List.mem_append_right _ (List.mem_append_left _ (List.mem_of_getElem? (i := 26) (by decide +kernel)))) (by decide +kernel)
theorem k_27 : (Cond.static ({ cls := "java/lang/Math", name := "max", desc := "(II)I" } : MethodName)) ∈ okTbl := ok_of (List.mem_append_right _ (List.mem_append_left _ (List.mem_of_getElem? (i := 27) (by decide +kernel)))) (by decide +kernel)
theorem k_28 : (Cond.code ({ cls := "java/lang/Math", name := "max", desc := "(II)I" } : MethodName) prog_13_method_65_code (2 : Nat) (Option.some FieldType.int)) ∈ okTbl := ok_of (List.mem_append_right _ (List.mem_append_left _ (List.mem_of_getElem? (i := 28) (by decide +kernel)))) (by decide +kernel)
theorem k_29 : (Cond.classLink "SawGrids" (22 : Nat) "SawGrids$Log") ∈ okTbl := ok_of (List.mem_append_right _ (List.mem_append_left _ (List.mem_of_getElem? (i := 29) (by decide +kernel)))) (by decide +kernel)
theorem k_30 : (Cond.instantiable "SawGrids$Log" (6 : Nat)) ∈ okTbl := ok_of (List.mem_append_right _ (List.mem_append_left _ (List.mem_of_getElem? (i := 30) (by decide +kernel)))) (by decide +kernel)
theorem k_31 : (Cond.methodLink "SawGrids" (24 : Nat) ({ cls := "SawGrids$Log", name := "<init>", desc := "(I)V" } : MethodName)) ∈ okTbl := ok_of (List.mem_append_right _ (List.mem_append_left _ (List.mem_of_getElem? (i := 31) (by decide +kernel)))) (by decide +kernel)
theorem k_32 : (Cond.instanceMethod ({ cls := "SawGrids$Log", name := "<init>", desc := "(I)V" } : MethodName)) ∈ okTbl := ok_of (List.mem_append_right _ (List.mem_append_left _ (List.mem_of_getElem? (i := 32) (by decide +kernel)))) (by decide +kernel)
theorem k_34 : (Cond.methodLink "SawGrids$Log" (3 : Nat) ({ cls := "java/lang/Object", name := "<init>", desc := "()V" } : MethodName)) ∈ okTbl := ok_of (List.mem_append_right _ (List.mem_append_left _ (List.mem_of_getElem? (i := 34) (by decide +kernel)))) (by decide +kernel)
theorem k_35 : (Cond.fieldLink "SawGrids$Log" (9 : Nat) "SawGrids$Log" "side" "I") ∈ okTbl := ok_of (List.mem_append_right _ (List.mem_append_left _ (List.mem_of_getElem? (i := 35) (by decide +kernel)))) (by decide +kernel)
theorem k_36 : (Cond.fieldLink "SawGrids" (88 : Nat) "SawGrids$Log" "side" "I") ∈ okTbl := ok_of (List.mem_append_right _ (List.mem_append_left _ (List.mem_of_getElem? (i := 36) (by decide +kernel)))) (by decide +kernel)
theorem k_37 : (Cond.fieldLink "SawGrids$Log" (15 : Nat) "SawGrids$Log" "inAtEnd" "[Z") ∈ okTbl := ok_of (List.mem_append_right _ (List.mem_append_left _ (List.mem_of_getElem? (i := 37) (by decide +kernel)))) (by decide +kernel)
theorem k_38 : (Cond.fieldLink "SawGrids$Log" (19 : Nat) "SawGrids$Log" "lossOf" "[I") ∈ okTbl := ok_of (List.mem_append_right _ (List.mem_append_left _ (List.mem_of_getElem? (i := 38) (by decide +kernel)))) (by decide +kernel)
theorem k_39 : (Cond.fieldLink "SawGrids$Log" (23 : Nat) "SawGrids$Log" "bareBefore" "[I") ∈ okTbl := ok_of (List.mem_append_right _ (List.mem_append_left _ (List.mem_of_getElem? (i := 39) (by decide +kernel)))) (by decide +kernel)
theorem k_40 : (Cond.fieldLink "SawGrids$Boards" (19 : Nat) "SawGrids$Log" "bareBefore" "[I") ∈ okTbl := ok_of (List.mem_append_right _ (List.mem_append_left _ (List.mem_of_getElem? (i := 40) (by decide +kernel)))) (by decide +kernel)
theorem k_41 : (Cond.fieldLink "SawGrids$Log" (26 : Nat) "SawGrids$Log" "lossBefore" "[I") ∈ okTbl := ok_of (List.mem_append_right _ (List.mem_append_left _ (List.mem_of_getElem? (i := 41) (by decide +kernel)))) (by decide +kernel)
theorem k_42 : (Cond.fieldLink "SawGrids$Boards" (41 : Nat) "SawGrids$Log" "lossBefore" "[I") ∈ okTbl := ok_of (List.mem_append_right _ (List.mem_append_left _ (List.mem_of_getElem? (i := 42) (by decide +kernel)))) (by decide +kernel)
theorem k_43 : (Cond.fieldLink "SawGrids$Log" (33 : Nat) "SawGrids$Log" "summed" "Z") ∈ okTbl := ok_of (List.mem_append_right _ (List.mem_append_left _ (List.mem_of_getElem? (i := 43) (by decide +kernel)))) (by decide +kernel)
theorem k_57 : (Cond.arrayClass FieldType.boolean) ∈ okTbl := ok_of (List.mem_append_right _ (List.mem_append_left _ (List.mem_of_getElem? (i := 57) (by decide +kernel)))) (by decide +kernel)
theorem k_58 : (Cond.arrayClass FieldType.int) ∈ okTbl := ok_of (List.mem_append_right _ (List.mem_append_left _ (List.mem_of_getElem? (i := 58) (by decide +kernel)))) (by decide +kernel)
theorem k_59 : (Cond.classLink "SawGrids" (31 : Nat) "SawGrids$Sizes") ∈ okTbl := ok_of (List.mem_append_right _ (List.mem_append_left _ (List.mem_of_getElem? (i := 59) (by decide +kernel)))) (by decide +kernel)
theorem k_60 : (Cond.instantiable "SawGrids$Sizes" (5 : Nat)) ∈ okTbl := ok_of (List.mem_append_right _ (List.mem_append_left _ (List.mem_of_getElem? (i := 60) (by decide +kernel)))) (by decide +kernel)
theorem kn_61 : (Cond.methodLinkNest "SawGrids" (33 : Nat) ({ cls := "SawGrids$Sizes", name := "<init>", desc := "()V" } : MethodName) "SawGrids") ∈ nestTbl := nest_of (List.mem_append_right _ (List.mem_append_left _ (List.mem_of_getElem? (i := 61) (by decide +kernel)))) rfl
theorem k_62 : (Cond.instanceMethod ({ cls := "SawGrids$Sizes", name := "<init>", desc := "()V" } : MethodName)) ∈ okTbl := ok_of (List.mem_append_right _ (List.mem_append_left _ (List.mem_of_getElem? (i := 62) (by decide +kernel)))) (by decide +kernel)
theorem k_64 : (Cond.methodLink "SawGrids$Sizes" (3 : Nat) ({ cls := "java/lang/Object", name := "<init>", desc := "()V" } : MethodName)) ∈ okTbl := ok_of (List.mem_append_right _ (List.mem_append_left _ (List.mem_of_getElem? (i := 64) (by decide +kernel)))) (by decide +kernel)
theorem k_65 : (Cond.fieldLink "SawGrids$Sizes" (9 : Nat) "SawGrids$Sizes" "thickOf" "[I") ∈ okTbl := ok_of (List.mem_append_right _ (List.mem_append_left _ (List.mem_of_getElem? (i := 65) (by decide +kernel)))) (by decide +kernel)
theorem k_66 : (Cond.fieldLink "SawGrids$Bench" (75 : Nat) "SawGrids$Sizes" "thickOf" "[I") ∈ okTbl := ok_of (List.mem_append_right _ (List.mem_append_left _ (List.mem_of_getElem? (i := 66) (by decide +kernel)))) (by decide +kernel)
theorem k_67 : (Cond.fieldLink "SawGrids$Sizes" (15 : Nat) "SawGrids$Sizes" "wideOf" "[I") ∈ okTbl := ok_of (List.mem_append_right _ (List.mem_append_left _ (List.mem_of_getElem? (i := 67) (by decide +kernel)))) (by decide +kernel)
theorem k_68 : (Cond.fieldLink "SawGrids$Bench" (92 : Nat) "SawGrids$Sizes" "wideOf" "[I") ∈ okTbl := ok_of (List.mem_append_right _ (List.mem_append_left _ (List.mem_of_getElem? (i := 68) (by decide +kernel)))) (by decide +kernel)
theorem k_69 : (Cond.fieldLink "SawGrids$Sizes" (18 : Nat) "SawGrids$Sizes" "worthOf" "[I") ∈ okTbl := ok_of (List.mem_append_right _ (List.mem_append_left _ (List.mem_of_getElem? (i := 69) (by decide +kernel)))) (by decide +kernel)
theorem k_70 : (Cond.fieldLink "SawGrids$Boards" (44 : Nat) "SawGrids$Sizes" "worthOf" "[I") ∈ okTbl := ok_of (List.mem_append_right _ (List.mem_append_left _ (List.mem_of_getElem? (i := 70) (by decide +kernel)))) (by decide +kernel)
theorem k_71 : (Cond.fieldLink "SawGrids$Sizes" (21 : Nat) "SawGrids$Sizes" "waneOf" "[I") ∈ okTbl := ok_of (List.mem_append_right _ (List.mem_append_left _ (List.mem_of_getElem? (i := 71) (by decide +kernel)))) (by decide +kernel)
theorem k_72 : (Cond.fieldLink "SawGrids$Boards" (38 : Nat) "SawGrids$Sizes" "waneOf" "[I") ∈ okTbl := ok_of (List.mem_append_right _ (List.mem_append_left _ (List.mem_of_getElem? (i := 72) (by decide +kernel)))) (by decide +kernel)
theorem k_73 : (Cond.fieldLink "SawGrids$Sizes" (24 : Nat) "SawGrids$Sizes" "count" "I") ∈ okTbl := ok_of (List.mem_append_right _ (List.mem_append_left _ (List.mem_of_getElem? (i := 73) (by decide +kernel)))) (by decide +kernel)
theorem k_74 : (Cond.fieldLink "SawGrids" (112 : Nat) "SawGrids$Sizes" "count" "I") ∈ okTbl := ok_of (List.mem_append_right _ (List.mem_append_left _ (List.mem_of_getElem? (i := 74) (by decide +kernel)))) (by decide +kernel)
theorem k_75 : (Cond.fieldLink "SawGrids$Bench" (72 : Nat) "SawGrids$Sizes" "count" "I") ∈ okTbl := ok_of (List.mem_append_right _ (List.mem_append_left _ (List.mem_of_getElem? (i := 75) (by decide +kernel)))) (by decide +kernel)
theorem k_87 : (Cond.classLink "SawGrids" (38 : Nat) "SawGrids$Boards") ∈ okTbl := ok_of (List.mem_append_right _ (List.mem_append_left _ (List.mem_of_getElem? (i := 87) (by decide +kernel)))) (by decide +kernel)
theorem k_88 : (Cond.instantiable "SawGrids$Boards" (2 : Nat)) ∈ okTbl := ok_of (List.mem_append_right _ (List.mem_append_left _ (List.mem_of_getElem? (i := 88) (by decide +kernel)))) (by decide +kernel)
theorem k_89 : (Cond.methodLink "SawGrids" (40 : Nat) ({ cls := "SawGrids$Boards", name := "<init>", desc := "(LSawGrids$Log;LSawGrids$Sizes;)V" } : MethodName)) ∈ okTbl := ok_of (List.mem_append_right _ (List.mem_append_left _ (List.mem_of_getElem? (i := 89) (by decide +kernel)))) (by decide +kernel)
theorem k_90 : (Cond.instanceMethod ({ cls := "SawGrids$Boards", name := "<init>", desc := "(LSawGrids$Log;LSawGrids$Sizes;)V" } : MethodName)) ∈ okTbl := ok_of (List.mem_append_right _ (List.mem_append_left _ (List.mem_of_getElem? (i := 90) (by decide +kernel)))) (by decide +kernel)
theorem k_92 : (Cond.methodLink "SawGrids$Boards" (3 : Nat) ({ cls := "java/lang/Object", name := "<init>", desc := "()V" } : MethodName)) ∈ okTbl := ok_of (List.mem_append_right _ (List.mem_append_left _ (List.mem_of_getElem? (i := 92) (by decide +kernel)))) (by decide +kernel)
theorem k_93 : (Cond.fieldLink "SawGrids$Boards" (15 : Nat) "SawGrids$Boards" "sizes" "LSawGrids$Sizes;") ∈ okTbl := ok_of (List.mem_append_right _ (List.mem_append_left _ (List.mem_of_getElem? (i := 93) (by decide +kernel)))) (by decide +kernel)
theorem k_94 : (Cond.fieldLink "SawGrids$Bench" (15 : Nat) "SawGrids$Boards" "sizes" "LSawGrids$Sizes;") ∈ okTbl := ok_of (List.mem_append_right _ (List.mem_append_left _ (List.mem_of_getElem? (i := 94) (by decide +kernel)))) (by decide +kernel)
theorem k_95 : (Cond.fieldLink "SawGrids$Boards" (9 : Nat) "SawGrids$Boards" "log" "LSawGrids$Log;") ∈ okTbl := ok_of (List.mem_append_right _ (List.mem_append_left _ (List.mem_of_getElem? (i := 95) (by decide +kernel)))) (by decide +kernel)
theorem k_101 : (Cond.classLink "SawGrids" (47 : Nat) "SawGrids$Bench") ∈ okTbl := ok_of (List.mem_append_right _ (List.mem_append_left _ (List.mem_of_getElem? (i := 101) (by decide +kernel)))) (by decide +kernel)
theorem k_102 : (Cond.instantiable "SawGrids$Bench" (9 : Nat)) ∈ okTbl := ok_of (List.mem_append_right _ (List.mem_append_left _ (List.mem_of_getElem? (i := 102) (by decide +kernel)))) (by decide +kernel)
theorem k_103 : (Cond.methodLink "SawGrids" (49 : Nat) ({ cls := "SawGrids$Bench", name := "<init>", desc := "(LSawGrids$Boards;II)V" } : MethodName)) ∈ okTbl := ok_of (List.mem_append_right _ (List.mem_append_left _ (List.mem_of_getElem? (i := 103) (by decide +kernel)))) (by decide +kernel)
theorem k_104 : (Cond.instanceMethod ({ cls := "SawGrids$Bench", name := "<init>", desc := "(LSawGrids$Boards;II)V" } : MethodName)) ∈ okTbl := ok_of (List.mem_append_right _ (List.mem_append_left _ (List.mem_of_getElem? (i := 104) (by decide +kernel)))) (by decide +kernel)
theorem k_106 : (Cond.methodLink "SawGrids$Bench" (3 : Nat) ({ cls := "java/lang/Object", name := "<init>", desc := "()V" } : MethodName)) ∈ okTbl := ok_of (List.mem_append_right _ (List.mem_append_left _ (List.mem_of_getElem? (i := 106) (by decide +kernel)))) (by decide +kernel)
theorem k_107 : (Cond.fieldLink "SawGrids$Bench" (9 : Nat) "SawGrids$Bench" "boards" "LSawGrids$Boards;") ∈ okTbl := ok_of (List.mem_append_right _ (List.mem_append_left _ (List.mem_of_getElem? (i := 107) (by decide +kernel)))) (by decide +kernel)
theorem k_108 : (Cond.fieldLink "SawGrids$Bench" (21 : Nat) "SawGrids$Bench" "sizes" "LSawGrids$Sizes;") ∈ okTbl := ok_of (List.mem_append_right _ (List.mem_append_left _ (List.mem_of_getElem? (i := 108) (by decide +kernel)))) (by decide +kernel)
theorem k_109 : (Cond.fieldLink "SawGrids$Bench" (22 : Nat) "SawGrids$Bench" "side" "I") ∈ okTbl := ok_of (List.mem_append_right _ (List.mem_append_left _ (List.mem_of_getElem? (i := 109) (by decide +kernel)))) (by decide +kernel)
theorem k_110 : (Cond.fieldLink "SawGrids$Bench" (26 : Nat) "SawGrids$Bench" "kerf" "I") ∈ okTbl := ok_of (List.mem_append_right _ (List.mem_append_left _ (List.mem_of_getElem? (i := 110) (by decide +kernel)))) (by decide +kernel)
theorem k_111 : (Cond.fieldLink "SawGrids$Bench" (45 : Nat) "SawGrids$Bench" "turn" "I") ∈ okTbl := ok_of (List.mem_append_right _ (List.mem_append_left _ (List.mem_of_getElem? (i := 111) (by decide +kernel)))) (by decide +kernel)
theorem k_112 : (Cond.fieldLink "SawGrids$Bench" (29 : Nat) "SawGrids$Bench" "rankFromRow" "[J") ∈ okTbl := ok_of (List.mem_append_right _ (List.mem_append_left _ (List.mem_of_getElem? (i := 112) (by decide +kernel)))) (by decide +kernel)
theorem k_113 : (Cond.fieldLink "SawGrids$Bench" (33 : Nat) "SawGrids$Bench" "thickAtRow" "[I") ∈ okTbl := ok_of (List.mem_append_right _ (List.mem_append_left _ (List.mem_of_getElem? (i := 113) (by decide +kernel)))) (by decide +kernel)
theorem k_114 : (Cond.fieldLink "SawGrids$Bench" (37 : Nat) "SawGrids$Bench" "rankFromColumn" "[J") ∈ okTbl := ok_of (List.mem_append_right _ (List.mem_append_left _ (List.mem_of_getElem? (i := 114) (by decide +kernel)))) (by decide +kernel)
theorem k_115 : (Cond.fieldLink "SawGrids$Bench" (40 : Nat) "SawGrids$Bench" "sizeAtColumn" "[I") ∈ okTbl := ok_of (List.mem_append_right _ (List.mem_append_left _ (List.mem_of_getElem? (i := 115) (by decide +kernel)))) (by decide +kernel)
theorem k_135 : (Cond.arrayClass FieldType.long) ∈ okTbl := ok_of (List.mem_append_right _ (List.mem_append_left _ (List.mem_of_getElem? (i := 135) (by decide +kernel)))) (by decide +kernel)
theorem k_136 : (Cond.classLink "SawGrids" (56 : Nat) "SawGrids$Pattern") ∈ okTbl := ok_of (List.mem_append_right _ (List.mem_append_left _ (List.mem_of_getElem? (i := 136) (by decide +kernel)))) (by decide +kernel)
theorem k_137 : (Cond.instantiable "SawGrids$Pattern" (8 : Nat)) ∈ okTbl := ok_of (List.mem_append_right _ (List.mem_append_left _ (List.mem_of_getElem? (i := 137) (by decide +kernel)))) (by decide +kernel)
theorem k_138 : (Cond.methodLink "SawGrids" (58 : Nat) ({ cls := "SawGrids$Pattern", name := "<init>", desc := "(I)V" } : MethodName)) ∈ okTbl := ok_of (List.mem_append_right _ (List.mem_append_left _ (List.mem_of_getElem? (i := 138) (by decide +kernel)))) (by decide +kernel)
theorem k_139 : (Cond.instanceMethod ({ cls := "SawGrids$Pattern", name := "<init>", desc := "(I)V" } : MethodName)) ∈ okTbl := ok_of (List.mem_append_right _ (List.mem_append_left _ (List.mem_of_getElem? (i := 139) (by decide +kernel)))) (by decide +kernel)
theorem k_141 : (Cond.methodLink "SawGrids$Pattern" (1 : Nat) ({ cls := "java/lang/Object", name := "<init>", desc := "()V" } : MethodName)) ∈ okTbl := ok_of (List.mem_append_right _ (List.mem_append_left _ (List.mem_of_getElem? (i := 141) (by decide +kernel)))) (by decide +kernel)
theorem k_142 : (Cond.fieldLink "SawGrids$Pattern" (7 : Nat) "SawGrids$Pattern" "sizeOf" "[I") ∈ okTbl := ok_of (List.mem_append_right _ (List.mem_append_left _ (List.mem_of_getElem? (i := 142) (by decide +kernel)))) (by decide +kernel)
theorem k_143 : (Cond.fieldLink "SawGrids" (142 : Nat) "SawGrids$Pattern" "sizeOf" "[I") ∈ okTbl := ok_of (List.mem_append_right _ (List.mem_append_left _ (List.mem_of_getElem? (i := 143) (by decide +kernel)))) (by decide +kernel)
theorem k_144 : (Cond.fieldLink "SawGrids$Pattern" (13 : Nat) "SawGrids$Pattern" "xOf" "[I") ∈ okTbl := ok_of (List.mem_append_right _ (List.mem_append_left _ (List.mem_of_getElem? (i := 144) (by decide +kernel)))) (by decide +kernel)
theorem k_145 : (Cond.fieldLink "SawGrids" (146 : Nat) "SawGrids$Pattern" "xOf" "[I") ∈ okTbl := ok_of (List.mem_append_right _ (List.mem_append_left _ (List.mem_of_getElem? (i := 145) (by decide +kernel)))) (by decide +kernel)
theorem k_146 : (Cond.fieldLink "SawGrids$Pattern" (16 : Nat) "SawGrids$Pattern" "yOf" "[I") ∈ okTbl := ok_of (List.mem_append_right _ (List.mem_append_left _ (List.mem_of_getElem? (i := 146) (by decide +kernel)))) (by decide +kernel)
theorem k_147 : (Cond.fieldLink "SawGrids" (149 : Nat) "SawGrids$Pattern" "yOf" "[I") ∈ okTbl := ok_of (List.mem_append_right _ (List.mem_append_left _ (List.mem_of_getElem? (i := 147) (by decide +kernel)))) (by decide +kernel)
theorem k_148 : (Cond.fieldLink "SawGrids$Pattern" (19 : Nat) "SawGrids$Pattern" "turn" "I") ∈ okTbl := ok_of (List.mem_append_right _ (List.mem_append_left _ (List.mem_of_getElem? (i := 148) (by decide +kernel)))) (by decide +kernel)
theorem k_149 : (Cond.fieldLink "SawGrids" (152 : Nat) "SawGrids$Pattern" "turn" "I") ∈ okTbl := ok_of (List.mem_append_right _ (List.mem_append_left _ (List.mem_of_getElem? (i := 149) (by decide +kernel)))) (by decide +kernel)
theorem k_150 : (Cond.fieldLink "SawGrids$Pattern" (23 : Nat) "SawGrids$Pattern" "slabs" "I") ∈ okTbl := ok_of (List.mem_append_right _ (List.mem_append_left _ (List.mem_of_getElem? (i := 150) (by decide +kernel)))) (by decide +kernel)
theorem k_151 : (Cond.fieldLink "SawGrids" (172 : Nat) "SawGrids$Pattern" "slabs" "I") ∈ okTbl := ok_of (List.mem_append_right _ (List.mem_append_left _ (List.mem_of_getElem? (i := 151) (by decide +kernel)))) (by decide +kernel)
theorem k_152 : (Cond.fieldLink "SawGrids$Bench" (100 : Nat) "SawGrids$Pattern" "slabs" "I") ∈ okTbl := ok_of (List.mem_append_right _ (List.mem_append_left _ (List.mem_of_getElem? (i := 152) (by decide +kernel)))) (by decide +kernel)
theorem k_153 : (Cond.fieldLink "SawGrids$Pattern" (26 : Nat) "SawGrids$Pattern" "count" "I") ∈ okTbl := ok_of (List.mem_append_right _ (List.mem_append_left _ (List.mem_of_getElem? (i := 153) (by decide +kernel)))) (by decide +kernel)
theorem k_154 : (Cond.fieldLink "SawGrids" (135 : Nat) "SawGrids$Pattern" "count" "I") ∈ okTbl := ok_of (List.mem_append_right _ (List.mem_append_left _ (List.mem_of_getElem? (i := 154) (by decide +kernel)))) (by decide +kernel)
theorem k_155 : (Cond.fieldLink "SawGrids$Pattern" (29 : Nat) "SawGrids$Pattern" "value" "I") ∈ okTbl := ok_of (List.mem_append_right _ (List.mem_append_left _ (List.mem_of_getElem? (i := 155) (by decide +kernel)))) (by decide +kernel)
theorem k_156 : (Cond.fieldLink "SawGrids" (169 : Nat) "SawGrids$Pattern" "value" "I") ∈ okTbl := ok_of (List.mem_append_right _ (List.mem_append_left _ (List.mem_of_getElem? (i := 156) (by decide +kernel)))) (by decide +kernel)
theorem k_157 : (Cond.fieldLink "SawGrids$Bench" (117 : Nat) "SawGrids$Pattern" "value" "I") ∈ okTbl := ok_of (List.mem_append_right _ (List.mem_append_left _ (List.mem_of_getElem? (i := 157) (by decide +kernel)))) (by decide +kernel)
theorem k_158 : (Cond.fieldLink "SawGrids$Pattern" (32 : Nat) "SawGrids$Pattern" "cells" "I") ∈ okTbl := ok_of (List.mem_append_right _ (List.mem_append_left _ (List.mem_of_getElem? (i := 158) (by decide +kernel)))) (by decide +kernel)
theorem k_159 : (Cond.fieldLink "SawGrids" (192 : Nat) "SawGrids$Pattern" "cells" "I") ∈ okTbl := ok_of (List.mem_append_right _ (List.mem_append_left _ (List.mem_of_getElem? (i := 159) (by decide +kernel)))) (by decide +kernel)
theorem k_160 : (Cond.fieldLink "SawGrids$Bench" (120 : Nat) "SawGrids$Pattern" "cells" "I") ∈ okTbl := ok_of (List.mem_append_right _ (List.mem_append_left _ (List.mem_of_getElem? (i := 160) (by decide +kernel)))) (by decide +kernel)
theorem k_178 : (Cond.fieldLink "SawGrids" (18 : Nat) "SawGrids" "kerf" "I") ∈ okTbl := ok_of (List.mem_append_right _ (List.mem_append_left _ (List.mem_of_getElem? (i := 178) (by decide +kernel)))) (by decide +kernel)
theorem k_179 : (Cond.fieldLink "SawGrids" (27 : Nat) "SawGrids" "log" "LSawGrids$Log;") ∈ okTbl := ok_of (List.mem_append_right _ (List.mem_append_left _ (List.mem_of_getElem? (i := 179) (by decide +kernel)))) (by decide +kernel)
theorem k_180 : (Cond.fieldLink "SawGrids" (34 : Nat) "SawGrids" "sizes" "LSawGrids$Sizes;") ∈ okTbl := ok_of (List.mem_append_right _ (List.mem_append_left _ (List.mem_of_getElem? (i := 180) (by decide +kernel)))) (by decide +kernel)
theorem k_181 : (Cond.fieldLink "SawGrids" (43 : Nat) "SawGrids" "boards" "LSawGrids$Boards;") ∈ okTbl := ok_of (List.mem_append_right _ (List.mem_append_left _ (List.mem_of_getElem? (i := 181) (by decide +kernel)))) (by decide +kernel)
theorem k_182 : (Cond.fieldLink "SawGrids" (52 : Nat) "SawGrids" "bench" "LSawGrids$Bench;") ∈ okTbl := ok_of (List.mem_append_right _ (List.mem_append_left _ (List.mem_of_getElem? (i := 182) (by decide +kernel)))) (by decide +kernel)
theorem k_183 : (Cond.fieldLink "SawGrids" (59 : Nat) "SawGrids" "pattern" "LSawGrids$Pattern;") ∈ okTbl := ok_of (List.mem_append_right _ (List.mem_append_left _ (List.mem_of_getElem? (i := 183) (by decide +kernel)))) (by decide +kernel)
theorem k_184 : (Cond.fieldLink "SawGrids" (78 : Nat) "SawGrids" "sawn" "Z") ∈ okTbl := ok_of (List.mem_append_right _ (List.mem_append_left _ (List.mem_of_getElem? (i := 184) (by decide +kernel)))) (by decide +kernel)
theorem k_200 : (Cond.methodLink "SawGridsLaw" (80 : Nat) ({ cls := "SawGrids", name := "run", desc := "()I" } : MethodName)) ∈ okTbl := ok_of (List.mem_append_right _ (List.mem_append_left _ (List.mem_of_getElem? (i := 200) (by decide +kernel)))) (by decide +kernel)
theorem k_201 : (Cond.instanceMethod ({ cls := "SawGrids", name := "run", desc := "()I" } : MethodName)) ∈ okTbl := ok_of (List.mem_append_right _ (List.mem_append_left _ (List.mem_of_getElem? (i := 201) (by decide +kernel)))) (by decide +kernel)
theorem k_202 : (Cond.selects "SawGrids" ({ cls := "SawGrids", name := "run", desc := "()I" } : MethodName) ({ cls := "SawGrids", name := "run", desc := "()I" } : MethodName)) ∈ okTbl := ok_of (List.mem_append_right _ (List.mem_append_left _ (List.mem_of_getElem? (i := 202) (by decide +kernel)))) (by decide +kernel)
theorem k_204 : (Cond.methodLink "SawGrids" (124 : Nat) ({ cls := "SawGrids$Log", name := "sumUp", desc := "()V" } : MethodName)) ∈ okTbl := ok_of (List.mem_append_right _ (List.mem_append_left _ (List.mem_of_getElem? (i := 204) (by decide +kernel)))) (by decide +kernel)
theorem k_205 : (Cond.instanceMethod ({ cls := "SawGrids$Log", name := "sumUp", desc := "()V" } : MethodName)) ∈ okTbl := ok_of (List.mem_append_right _ (List.mem_append_left _ (List.mem_of_getElem? (i := 205) (by decide +kernel)))) (by decide +kernel)
theorem k_206 : (Cond.selects "SawGrids$Log" ({ cls := "SawGrids$Log", name := "sumUp", desc := "()V" } : MethodName) ({ cls := "SawGrids$Log", name := "sumUp", desc := "()V" } : MethodName)) ∈ okTbl := ok_of (List.mem_append_right _ (List.mem_append_left _ (List.mem_of_getElem? (i := 206) (by decide +kernel)))) (by decide +kernel)
theorem k_208 : (Cond.methodLink "SawGrids$Log" (41 : Nat) ({ cls := "SawGrids$Log", name := "sumUpRow", desc := "(I)V" } : MethodName)) ∈ okTbl := ok_of (List.mem_append_right _ (List.mem_append_left _ (List.mem_of_getElem? (i := 208) (by decide +kernel)))) (by decide +kernel)
theorem k_210 : (Cond.instanceMethod ({ cls := "SawGrids$Log", name := "sumUpRow", desc := "(I)V" } : MethodName)) ∈ okTbl := ok_of (List.mem_append_right _ (List.mem_append_left _ (List.mem_of_getElem? (i := 210) (by decide +kernel)))) (by decide +kernel)
theorem k_212 : (Cond.methodLink "SawGrids" (127 : Nat) ({ cls := "SawGrids$Bench", name := "plan", desc := "(I)J" } : MethodName)) ∈ okTbl := ok_of (List.mem_append_right _ (List.mem_append_left _ (List.mem_of_getElem? (i := 212) (by decide +kernel)))) (by decide +kernel)
theorem k_213 : (Cond.instanceMethod ({ cls := "SawGrids$Bench", name := "plan", desc := "(I)J" } : MethodName)) ∈ okTbl := ok_of (List.mem_append_right _ (List.mem_append_left _ (List.mem_of_getElem? (i := 213) (by decide +kernel)))) (by decide +kernel)
theorem k_214 : (Cond.selects "SawGrids$Bench" ({ cls := "SawGrids$Bench", name := "plan", desc := "(I)J" } : MethodName) ({ cls := "SawGrids$Bench", name := "plan", desc := "(I)J" } : MethodName)) ∈ okTbl := ok_of (List.mem_append_right _ (List.mem_append_left _ (List.mem_of_getElem? (i := 214) (by decide +kernel)))) (by decide +kernel)
theorem k_216 : (Cond.methodLink "SawGrids$Bench" (48 : Nat) ({ cls := "SawGrids$Bench", name := "planRow", desc := "(I)V" } : MethodName)) ∈ okTbl := ok_of (List.mem_append_right _ (List.mem_append_left _ (List.mem_of_getElem? (i := 216) (by decide +kernel)))) (by decide +kernel)
theorem k_218 : (Cond.instanceMethod ({ cls := "SawGrids$Bench", name := "planRow", desc := "(I)V" } : MethodName)) ∈ okTbl := ok_of (List.mem_append_right _ (List.mem_append_left _ (List.mem_of_getElem? (i := 218) (by decide +kernel)))) (by decide +kernel)
theorem k_220 : (Cond.methodLink "SawGrids$Bench" (52 : Nat) ({ cls := "SawGrids$Sizes", name := "haveThickness", desc := "(I)Z" } : MethodName)) ∈ okTbl := ok_of (List.mem_append_right _ (List.mem_append_left _ (List.mem_of_getElem? (i := 220) (by decide +kernel)))) (by decide +kernel)
theorem k_221 : (Cond.instanceMethod ({ cls := "SawGrids$Sizes", name := "haveThickness", desc := "(I)Z" } : MethodName)) ∈ okTbl := ok_of (List.mem_append_right _ (List.mem_append_left _ (List.mem_of_getElem? (i := 221) (by decide +kernel)))) (by decide +kernel)
theorem k_222 : (Cond.selects "SawGrids$Sizes" ({ cls := "SawGrids$Sizes", name := "haveThickness", desc := "(I)Z" } : MethodName) ({ cls := "SawGrids$Sizes", name := "haveThickness", desc := "(I)Z" } : MethodName)) ∈ okTbl := ok_of (List.mem_append_right _ (List.mem_append_left _ (List.mem_of_getElem? (i := 222) (by decide +kernel)))) (by decide +kernel)
theorem k_224 : (Cond.methodLink "SawGrids$Bench" (58 : Nat) ({ cls := "SawGrids$Bench", name := "planSlab", desc := "(II)J" } : MethodName)) ∈ okTbl := ok_of (List.mem_append_right _ (List.mem_append_left _ (List.mem_of_getElem? (i := 224) (by decide +kernel)))) (by decide +kernel)
theorem k_226 : (Cond.instanceMethod ({ cls := "SawGrids$Bench", name := "planSlab", desc := "(II)J" } : MethodName)) ∈ okTbl := ok_of (List.mem_append_right _ (List.mem_append_left _ (List.mem_of_getElem? (i := 226) (by decide +kernel)))) (by decide +kernel)
theorem k_228 : (Cond.methodLink "SawGrids$Bench" (68 : Nat) ({ cls := "SawGrids$Bench", name := "planColumn", desc := "(III)V" } : MethodName)) ∈ okTbl := ok_of (List.mem_append_right _ (List.mem_append_left _ (List.mem_of_getElem? (i := 228) (by decide +kernel)))) (by decide +kernel)
theorem k_230 : (Cond.instanceMethod ({ cls := "SawGrids$Bench", name := "planColumn", desc := "(III)V" } : MethodName)) ∈ okTbl := ok_of (List.mem_append_right _ (List.mem_append_left _ (List.mem_of_getElem? (i := 230) (by decide +kernel)))) (by decide +kernel)
theorem k_232 : (Cond.methodLink "SawGrids$Bench" (78 : Nat) ({ cls := "SawGrids$Bench", name := "xAt", desc := "(II)I" } : MethodName)) ∈ okTbl := ok_of (List.mem_append_right _ (List.mem_append_left _ (List.mem_of_getElem? (i := 232) (by decide +kernel)))) (by decide +kernel)
theorem k_234 : (Cond.instanceMethod ({ cls := "SawGrids$Bench", name := "xAt", desc := "(II)I" } : MethodName)) ∈ okTbl := ok_of (List.mem_append_right _ (List.mem_append_left _ (List.mem_of_getElem? (i := 234) (by decide +kernel)))) (by decide +kernel)
theorem k_236 : (Cond.methodLink "SawGrids$Bench" (81 : Nat) ({ cls := "SawGrids$Bench", name := "yAt", desc := "(II)I" } : MethodName)) ∈ okTbl := ok_of (List.mem_append_right _ (List.mem_append_left _ (List.mem_of_getElem? (i := 236) (by decide +kernel)))) (by decide +kernel)
theorem k_238 : (Cond.instanceMethod ({ cls := "SawGrids$Bench", name := "yAt", desc := "(II)I" } : MethodName)) ∈ okTbl := ok_of (List.mem_append_right _ (List.mem_append_left _ (List.mem_of_getElem? (i := 238) (by decide +kernel)))) (by decide +kernel)
theorem k_240 : (Cond.methodLink "SawGrids$Bench" (84 : Nat) ({ cls := "SawGrids$Boards", name := "fits", desc := "(IIII)Z" } : MethodName)) ∈ okTbl := ok_of (List.mem_append_right _ (List.mem_append_right _ (List.mem_append_left _ (List.mem_of_getElem? (i := 0) (by decide +kernel))))) (by decide +kernel)
theorem k_241 : (Cond.instanceMethod ({ cls := "SawGrids$Boards", name := "fits", desc := "(IIII)Z" } : MethodName)) ∈ okTbl := ok_of (List.mem_append_right _ (List.mem_append_right _ (List.mem_append_left _ (List.mem_of_getElem? (i := 1) (by decide +kernel))))) (by decide +kernel)
theorem k_242 : (Cond.selects "SawGrids$Boards" ({ cls := "SawGrids$Boards", name := "fits", desc := "(IIII)Z" } : MethodName) ({ cls := "SawGrids$Boards", name := "fits", desc := "(IIII)Z" } : MethodName)) ∈ okTbl := ok_of (List.mem_append_right _ (List.mem_append_right _ (List.mem_append_left _ (List.mem_of_getElem? (i := 2) (by decide +kernel))))) (by decide +kernel)
theorem k_244 : (Cond.methodLink "SawGrids$Boards" (25 : Nat) ({ cls := "SawGrids$Sizes", name := "alongX", desc := "(II)I" } : MethodName)) ∈ okTbl := ok_of (List.mem_append_right _ (List.mem_append_right _ (List.mem_append_left _ (List.mem_of_getElem? (i := 4) (by decide +kernel))))) (by decide +kernel)
theorem k_245 : (Cond.instanceMethod ({ cls := "SawGrids$Sizes", name := "alongX", desc := "(II)I" } : MethodName)) ∈ okTbl := ok_of (List.mem_append_right _ (List.mem_append_right _ (List.mem_append_left _ (List.mem_of_getElem? (i := 5) (by decide +kernel))))) (by decide +kernel)
theorem k_246 : (Cond.selects "SawGrids$Sizes" ({ cls := "SawGrids$Sizes", name := "alongX", desc := "(II)I" } : MethodName) ({ cls := "SawGrids$Sizes", name := "alongX", desc := "(II)I" } : MethodName)) ∈ okTbl := ok_of (List.mem_append_right _ (List.mem_append_right _ (List.mem_append_left _ (List.mem_of_getElem? (i := 6) (by decide +kernel))))) (by decide +kernel)
theorem k_248 : (Cond.methodLink "SawGrids$Boards" (31 : Nat) ({ cls := "SawGrids$Sizes", name := "alongY", desc := "(II)I" } : MethodName)) ∈ okTbl := ok_of (List.mem_append_right _ (List.mem_append_right _ (List.mem_append_left _ (List.mem_of_getElem? (i := 8) (by decide +kernel))))) (by decide +kernel)
theorem k_249 : (Cond.instanceMethod ({ cls := "SawGrids$Sizes", name := "alongY", desc := "(II)I" } : MethodName)) ∈ okTbl := ok_of (List.mem_append_right _ (List.mem_append_right _ (List.mem_append_left _ (List.mem_of_getElem? (i := 9) (by decide +kernel))))) (by decide +kernel)
theorem k_250 : (Cond.selects "SawGrids$Sizes" ({ cls := "SawGrids$Sizes", name := "alongY", desc := "(II)I" } : MethodName) ({ cls := "SawGrids$Sizes", name := "alongY", desc := "(II)I" } : MethodName)) ∈ okTbl := ok_of (List.mem_append_right _ (List.mem_append_right _ (List.mem_append_left _ (List.mem_of_getElem? (i := 10) (by decide +kernel))))) (by decide +kernel)
theorem k_252 : (Cond.methodLink "SawGrids$Boards" (34 : Nat) ({ cls := "SawGrids$Log", name := "sumIn", desc := "([IIIII)I" } : MethodName)) ∈ okTbl := ok_of (List.mem_append_right _ (List.mem_append_right _ (List.mem_append_left _ (List.mem_of_getElem? (i := 12) (by decide +kernel))))) (by decide +kernel)
theorem k_253 : (Cond.instanceMethod ({ cls := "SawGrids$Log", name := "sumIn", desc := "([IIIII)I" } : MethodName)) ∈ okTbl := ok_of (List.mem_append_right _ (List.mem_append_right _ (List.mem_append_left _ (List.mem_of_getElem? (i := 13) (by decide +kernel))))) (by decide +kernel)
theorem k_254 : (Cond.selects "SawGrids$Log" ({ cls := "SawGrids$Log", name := "sumIn", desc := "([IIIII)I" } : MethodName) ({ cls := "SawGrids$Log", name := "sumIn", desc := "([IIIII)I" } : MethodName)) ∈ okTbl := ok_of (List.mem_append_right _ (List.mem_append_right _ (List.mem_append_left _ (List.mem_of_getElem? (i := 14) (by decide +kernel))))) (by decide +kernel)
theorem k_256 : (Cond.methodLink "SawGrids$Bench" (88 : Nat) ({ cls := "SawGrids$Boards", name := "valueAt", desc := "(IIII)I" } : MethodName)) ∈ okTbl := ok_of (List.mem_append_right _ (List.mem_append_right _ (List.mem_append_left _ (List.mem_of_getElem? (i := 16) (by decide +kernel))))) (by decide +kernel)
theorem k_257 : (Cond.instanceMethod ({ cls := "SawGrids$Boards", name := "valueAt", desc := "(IIII)I" } : MethodName)) ∈ okTbl := ok_of (List.mem_append_right _ (List.mem_append_right _ (List.mem_append_left _ (List.mem_of_getElem? (i := 17) (by decide +kernel))))) (by decide +kernel)
theorem k_258 : (Cond.selects "SawGrids$Boards" ({ cls := "SawGrids$Boards", name := "valueAt", desc := "(IIII)I" } : MethodName) ({ cls := "SawGrids$Boards", name := "valueAt", desc := "(IIII)I" } : MethodName)) ∈ okTbl := ok_of (List.mem_append_right _ (List.mem_append_right _ (List.mem_append_left _ (List.mem_of_getElem? (i := 18) (by decide +kernel))))) (by decide +kernel)
theorem k_260 : (Cond.methodLink "SawGrids$Boards" (47 : Nat) ({ cls := "java/lang/Math", name := "max", desc := "(II)I" } : MethodName)) ∈ okTbl := ok_of (List.mem_append_right _ (List.mem_append_right _ (List.mem_append_left _ (List.mem_of_getElem? (i := 20) (by decide +kernel))))) (by decide +kernel)
theorem k_261 : (Cond.constantLong "SawGrids$Bench" (43 : Nat) (1000 : Int64)) ∈ okTbl := ok_of (List.mem_append_right _ (List.mem_append_right _ (List.mem_append_left _ (List.mem_of_getElem? (i := 21) (by decide +kernel))))) (by decide +kernel)
theorem k_262 : (Cond.methodLink "SawGrids$Bench" (62 : Nat) ({ cls := "java/lang/Math", name := "min", desc := "(II)I" } : MethodName)) ∈ okTbl := ok_of (List.mem_append_right _ (List.mem_append_right _ (List.mem_append_left _ (List.mem_of_getElem? (i := 22) (by decide +kernel))))) (by decide +kernel)
theorem k_263 : (Cond.methodLink "SawGrids" (131 : Nat) ({ cls := "SawGrids$Bench", name := "layOut", desc := "(LSawGrids$Pattern;)V" } : MethodName)) ∈ okTbl := ok_of (List.mem_append_right _ (List.mem_append_right _ (List.mem_append_left _ (List.mem_of_getElem? (i := 23) (by decide +kernel))))) (by decide +kernel)
theorem k_264 : (Cond.instanceMethod ({ cls := "SawGrids$Bench", name := "layOut", desc := "(LSawGrids$Pattern;)V" } : MethodName)) ∈ okTbl := ok_of (List.mem_append_right _ (List.mem_append_right _ (List.mem_append_left _ (List.mem_of_getElem? (i := 24) (by decide +kernel))))) (by decide +kernel)
theorem k_265 : (Cond.selects "SawGrids$Bench" ({ cls := "SawGrids$Bench", name := "layOut", desc := "(LSawGrids$Pattern;)V" } : MethodName) ({ cls := "SawGrids$Bench", name := "layOut", desc := "(LSawGrids$Pattern;)V" } : MethodName)) ∈ okTbl := ok_of (List.mem_append_right _ (List.mem_append_right _ (List.mem_append_left _ (List.mem_of_getElem? (i := 25) (by decide +kernel))))) (by decide +kernel)
theorem k_267 : (Cond.methodLink "SawGrids$Bench" (95 : Nat) ({ cls := "SawGrids$Pattern", name := "clear", desc := "(I)V" } : MethodName)) ∈ okTbl := ok_of (List.mem_append_right _ (List.mem_append_right _ (List.mem_append_left _ (List.mem_of_getElem? (i := 27) (by decide +kernel))))) (by decide +kernel)
theorem k_268 : (Cond.instanceMethod ({ cls := "SawGrids$Pattern", name := "clear", desc := "(I)V" } : MethodName)) ∈ okTbl := ok_of (List.mem_append_right _ (List.mem_append_right _ (List.mem_append_left _ (List.mem_of_getElem? (i := 28) (by decide +kernel))))) (by decide +kernel)
theorem k_269 : (Cond.selects "SawGrids$Pattern" ({ cls := "SawGrids$Pattern", name := "clear", desc := "(I)V" } : MethodName) ({ cls := "SawGrids$Pattern", name := "clear", desc := "(I)V" } : MethodName)) ∈ okTbl := ok_of (List.mem_append_right _ (List.mem_append_right _ (List.mem_append_left _ (List.mem_of_getElem? (i := 29) (by decide +kernel))))) (by decide +kernel)
theorem k_271 : (Cond.methodLink "SawGrids$Bench" (103 : Nat) ({ cls := "SawGrids$Bench", name := "layOutSlab", desc := "(LSawGrids$Pattern;II)V" } : MethodName)) ∈ okTbl := ok_of (List.mem_append_right _ (List.mem_append_right _ (List.mem_append_left _ (List.mem_of_getElem? (i := 31) (by decide +kernel))))) (by decide +kernel)
theorem k_273 : (Cond.instanceMethod ({ cls := "SawGrids$Bench", name := "layOutSlab", desc := "(LSawGrids$Pattern;II)V" } : MethodName)) ∈ okTbl := ok_of (List.mem_append_right _ (List.mem_append_right _ (List.mem_append_left _ (List.mem_of_getElem? (i := 33) (by decide +kernel))))) (by decide +kernel)
theorem k_275 : (Cond.methodLink "SawGrids$Bench" (107 : Nat) ({ cls := "SawGrids$Sizes", name := "has", desc := "(I)Z" } : MethodName)) ∈ okTbl := ok_of (List.mem_append_right _ (List.mem_append_right _ (List.mem_append_left _ (List.mem_of_getElem? (i := 35) (by decide +kernel))))) (by decide +kernel)
theorem k_276 : (Cond.instanceMethod ({ cls := "SawGrids$Sizes", name := "has", desc := "(I)Z" } : MethodName)) ∈ okTbl := ok_of (List.mem_append_right _ (List.mem_append_right _ (List.mem_append_left _ (List.mem_of_getElem? (i := 36) (by decide +kernel))))) (by decide +kernel)
theorem k_277 : (Cond.selects "SawGrids$Sizes" ({ cls := "SawGrids$Sizes", name := "has", desc := "(I)Z" } : MethodName) ({ cls := "SawGrids$Sizes", name := "has", desc := "(I)Z" } : MethodName)) ∈ okTbl := ok_of (List.mem_append_right _ (List.mem_append_right _ (List.mem_append_left _ (List.mem_of_getElem? (i := 37) (by decide +kernel))))) (by decide +kernel)
theorem kn_279 : (Cond.methodLinkNest "SawGrids$Sizes" (28 : Nat) ({ cls := "SawGrids", name := "isWithin", desc := "(III)Z" } : MethodName) "SawGrids") ∈ nestTbl := nest_of (List.mem_append_right _ (List.mem_append_right _ (List.mem_append_left _ (List.mem_of_getElem? (i := 39) (by decide +kernel))))) rfl
theorem k_280 : (Cond.static ({ cls := "SawGrids", name := "isWithin", desc := "(III)Z" } : MethodName)) ∈ okTbl := ok_of (List.mem_append_right _ (List.mem_append_right _ (List.mem_append_left _ (List.mem_of_getElem? (i := 40) (by decide +kernel))))) (by decide +kernel)
theorem k_282 : (Cond.methodLink "SawGrids$Bench" (110 : Nat) ({ cls := "SawGrids$Bench", name := "layOutBoard", desc := "(LSawGrids$Pattern;III)V" } : MethodName)) ∈ okTbl := ok_of (List.mem_append_right _ (List.mem_append_right _ (List.mem_append_left _ (List.mem_of_getElem? (i := 42) (by decide +kernel))))) (by decide +kernel)
theorem k_284 : (Cond.instanceMethod ({ cls := "SawGrids$Bench", name := "layOutBoard", desc := "(LSawGrids$Pattern;III)V" } : MethodName)) ∈ okTbl := ok_of (List.mem_append_right _ (List.mem_append_right _ (List.mem_append_left _ (List.mem_of_getElem? (i := 44) (by decide +kernel))))) (by decide +kernel)
theorem k_286 : (Cond.methodLink "SawGrids$Bench" (114 : Nat) ({ cls := "SawGrids$Pattern", name := "add", desc := "(III)V" } : MethodName)) ∈ okTbl := ok_of (List.mem_append_right _ (List.mem_append_right _ (List.mem_append_left _ (List.mem_of_getElem? (i := 46) (by decide +kernel))))) (by decide +kernel)
theorem k_287 : (Cond.instanceMethod ({ cls := "SawGrids$Pattern", name := "add", desc := "(III)V" } : MethodName)) ∈ okTbl := ok_of (List.mem_append_right _ (List.mem_append_right _ (List.mem_append_left _ (List.mem_of_getElem? (i := 47) (by decide +kernel))))) (by decide +kernel)
theorem k_288 : (Cond.selects "SawGrids$Pattern" ({ cls := "SawGrids$Pattern", name := "add", desc := "(III)V" } : MethodName) ({ cls := "SawGrids$Pattern", name := "add", desc := "(III)V" } : MethodName)) ∈ okTbl := ok_of (List.mem_append_right _ (List.mem_append_right _ (List.mem_append_left _ (List.mem_of_getElem? (i := 48) (by decide +kernel))))) (by decide +kernel)
theorem k_290 : (Cond.methodLink "SawGridsLaw" (105 : Nat) ({ cls := "SawGrids", name := "wood", desc := "()I" } : MethodName)) ∈ okTbl := ok_of (List.mem_append_right _ (List.mem_append_right _ (List.mem_append_left _ (List.mem_of_getElem? (i := 50) (by decide +kernel))))) (by decide +kernel)
theorem k_291 : (Cond.instanceMethod ({ cls := "SawGrids", name := "wood", desc := "()I" } : MethodName)) ∈ okTbl := ok_of (List.mem_append_right _ (List.mem_append_right _ (List.mem_append_left _ (List.mem_of_getElem? (i := 51) (by decide +kernel))))) (by decide +kernel)
theorem k_292 : (Cond.selects "SawGrids" ({ cls := "SawGrids", name := "wood", desc := "()I" } : MethodName) ({ cls := "SawGrids", name := "wood", desc := "()I" } : MethodName)) ∈ okTbl := ok_of (List.mem_append_right _ (List.mem_append_right _ (List.mem_append_left _ (List.mem_of_getElem? (i := 52) (by decide +kernel))))) (by decide +kernel)
theorem k_294 : (Cond.methodLink "SawGrids" (188 : Nat) ({ cls := "SawGrids$Log", name := "woodCells", desc := "()I" } : MethodName)) ∈ okTbl := ok_of (List.mem_append_right _ (List.mem_append_right _ (List.mem_append_left _ (List.mem_of_getElem? (i := 54) (by decide +kernel))))) (by decide +kernel)
theorem k_295 : (Cond.instanceMethod ({ cls := "SawGrids$Log", name := "woodCells", desc := "()I" } : MethodName)) ∈ okTbl := ok_of (List.mem_append_right _ (List.mem_append_right _ (List.mem_append_left _ (List.mem_of_getElem? (i := 55) (by decide +kernel))))) (by decide +kernel)
theorem k_296 : (Cond.selects "SawGrids$Log" ({ cls := "SawGrids$Log", name := "woodCells", desc := "()I" } : MethodName) ({ cls := "SawGrids$Log", name := "woodCells", desc := "()I" } : MethodName)) ∈ okTbl := ok_of (List.mem_append_right _ (List.mem_append_right _ (List.mem_append_left _ (List.mem_of_getElem? (i := 56) (by decide +kernel))))) (by decide +kernel)
theorem k_298 : (Cond.methodLink "SawGrids$Log" (37 : Nat) ({ cls := "SawGrids$Log", name := "sumIn", desc := "([IIIII)I" } : MethodName)) ∈ okTbl := ok_of (List.mem_append_right _ (List.mem_append_right _ (List.mem_append_left _ (List.mem_of_getElem? (i := 58) (by decide +kernel))))) (by decide +kernel)
theorem k_299 : (Cond.methodLink "SawGridsLaw" (53 : Nat) ({ cls := "SawGridsLaw", name := "cell", desc := "([II)I" } : MethodName)) ∈ okTbl := ok_of (List.mem_append_right _ (List.mem_append_right _ (List.mem_append_left _ (List.mem_of_getElem? (i := 59) (by decide +kernel))))) (by decide +kernel)
theorem k_300 : (Cond.static ({ cls := "SawGridsLaw", name := "cell", desc := "([II)I" } : MethodName)) ∈ okTbl := ok_of (List.mem_append_right _ (List.mem_append_right _ (List.mem_append_left _ (List.mem_of_getElem? (i := 60) (by decide +kernel))))) (by decide +kernel)
theorem k_302 : (Cond.methodLink "SawGridsLaw" (64 : Nat) ({ cls := "SawGridsLaw", name := "cell", desc := "(LSawGrids;IIIZ[J)I" } : MethodName)) ∈ okTbl := ok_of (List.mem_append_right _ (List.mem_append_right _ (List.mem_append_left _ (List.mem_of_getElem? (i := 62) (by decide +kernel))))) (by decide +kernel)
theorem k_303 : (Cond.static ({ cls := "SawGridsLaw", name := "cell", desc := "(LSawGrids;IIIZ[J)I" } : MethodName)) ∈ okTbl := ok_of (List.mem_append_right _ (List.mem_append_right _ (List.mem_append_left _ (List.mem_of_getElem? (i := 63) (by decide +kernel))))) (by decide +kernel)
theorem k_305 : (Cond.classLink "SawGridsLaw" (13 : Nat) "java/lang/IndexOutOfBoundsException") ∈ okTbl := ok_of (List.mem_append_right _ (List.mem_append_right _ (List.mem_append_left _ (List.mem_of_getElem? (i := 65) (by decide +kernel))))) (by decide +kernel)
theorem k_306 : (Cond.methodLink "SawGridsLaw" (7 : Nat) ({ cls := "SawGrids", name := "cell", desc := "(IIIZ)Z" } : MethodName)) ∈ okTbl := ok_of (List.mem_append_right _ (List.mem_append_right _ (List.mem_append_left _ (List.mem_of_getElem? (i := 66) (by decide +kernel))))) (by decide +kernel)
theorem k_307 : (Cond.instanceMethod ({ cls := "SawGrids", name := "cell", desc := "(IIIZ)Z" } : MethodName)) ∈ okTbl := ok_of (List.mem_append_right _ (List.mem_append_right _ (List.mem_append_left _ (List.mem_of_getElem? (i := 67) (by decide +kernel))))) (by decide +kernel)
theorem k_308 : (Cond.selects "SawGrids" ({ cls := "SawGrids", name := "cell", desc := "(IIIZ)Z" } : MethodName) ({ cls := "SawGrids", name := "cell", desc := "(IIIZ)Z" } : MethodName)) ∈ okTbl := ok_of (List.mem_append_right _ (List.mem_append_right _ (List.mem_append_left _ (List.mem_of_getElem? (i := 68) (by decide +kernel))))) (by decide +kernel)
theorem k_310 : (Cond.methodLink "SawGrids" (63 : Nat) ({ cls := "SawGrids", name := "isEnd", desc := "(I)Z" } : MethodName)) ∈ okTbl := ok_of (List.mem_append_right _ (List.mem_append_right _ (List.mem_append_left _ (List.mem_of_getElem? (i := 70) (by decide +kernel))))) (by decide +kernel)
theorem k_311 : (Cond.static ({ cls := "SawGrids", name := "isEnd", desc := "(I)Z" } : MethodName)) ∈ okTbl := ok_of (List.mem_append_right _ (List.mem_append_right _ (List.mem_append_left _ (List.mem_of_getElem? (i := 71) (by decide +kernel))))) (by decide +kernel)
theorem k_313 : (Cond.methodLink "SawGrids" (91 : Nat) ({ cls := "SawGrids", name := "isWithin", desc := "(III)Z" } : MethodName)) ∈ okTbl := ok_of (List.mem_append_right _ (List.mem_append_right _ (List.mem_append_left _ (List.mem_of_getElem? (i := 73) (by decide +kernel))))) (by decide +kernel)
theorem k_314 : (Cond.methodLink "SawGrids" (67 : Nat) ({ cls := "SawGrids$Log", name := "isCell", desc := "(II)Z" } : MethodName)) ∈ okTbl := ok_of (List.mem_append_right _ (List.mem_append_right _ (List.mem_append_left _ (List.mem_of_getElem? (i := 74) (by decide +kernel))))) (by decide +kernel)
theorem k_315 : (Cond.instanceMethod ({ cls := "SawGrids$Log", name := "isCell", desc := "(II)Z" } : MethodName)) ∈ okTbl := ok_of (List.mem_append_right _ (List.mem_append_right _ (List.mem_append_left _ (List.mem_of_getElem? (i := 75) (by decide +kernel))))) (by decide +kernel)
theorem k_316 : (Cond.selects "SawGrids$Log" ({ cls := "SawGrids$Log", name := "isCell", desc := "(II)Z" } : MethodName) ({ cls := "SawGrids$Log", name := "isCell", desc := "(II)Z" } : MethodName)) ∈ okTbl := ok_of (List.mem_append_right _ (List.mem_append_right _ (List.mem_append_left _ (List.mem_of_getElem? (i := 76) (by decide +kernel))))) (by decide +kernel)
theorem kn_318 : (Cond.methodLinkNest "SawGrids$Log" (29 : Nat) ({ cls := "SawGrids", name := "isWithin", desc := "(III)Z" } : MethodName) "SawGrids") ∈ nestTbl := nest_of (List.mem_append_right _ (List.mem_append_right _ (List.mem_append_left _ (List.mem_of_getElem? (i := 78) (by decide +kernel))))) rfl
theorem k_319 : (Cond.classLink "SawGrids" (71 : Nat) "java/lang/IndexOutOfBoundsException") ∈ okTbl := ok_of (List.mem_append_right _ (List.mem_append_right _ (List.mem_append_left _ (List.mem_of_getElem? (i := 79) (by decide +kernel))))) (by decide +kernel)
theorem k_320 : (Cond.instantiable "java/lang/IndexOutOfBoundsException" (6 : Nat)) ∈ okTbl := ok_of (List.mem_append_right _ (List.mem_append_right _ (List.mem_append_left _ (List.mem_of_getElem? (i := 80) (by decide +kernel))))) (by decide +kernel)
theorem k_328 : (Cond.selects "java/lang/IndexOutOfBoundsException" ({ cls := "java/lang/Throwable", name := "fillInStackTrace", desc := "(I)Ljava/lang/Throwable;" } : MethodName) ({ cls := "java/lang/Throwable", name := "fillInStackTrace", desc := "(I)Ljava/lang/Throwable;" } : MethodName)) ∈ okTbl := ok_of (List.mem_append_right _ (List.mem_append_right _ (List.mem_append_left _ (List.mem_of_getElem? (i := 88) (by decide +kernel))))) (by decide +kernel)
theorem k_329 : (Cond.selects "java/lang/IndexOutOfBoundsException" ({ cls := "java/lang/Throwable", name := "fillInStackTrace", desc := "()Ljava/lang/Throwable;" } : MethodName) ({ cls := "java/lang/Throwable", name := "fillInStackTrace", desc := "()Ljava/lang/Throwable;" } : MethodName)) ∈ okTbl := ok_of (List.mem_append_right _ (List.mem_append_right _ (List.mem_append_left _ (List.mem_of_getElem? (i := 89) (by decide +kernel))))) (by decide +kernel)
theorem k_340 : (Cond.fieldLink "java/lang/Throwable" (198 : Nat) "java/lang/Throwable" "backtrace" "Ljava/lang/Object;") ∈ okTbl := ok_of (List.mem_append_right _ (List.mem_append_right _ (List.mem_append_left _ (List.mem_of_getElem? (i := 100) (by decide +kernel))))) (by decide +kernel)
theorem k_342 : (Cond.instanceMethod ({ cls := "java/lang/Throwable", name := "<init>", desc := "()V" } : MethodName)) ∈ okTbl := ok_of (List.mem_append_right _ (List.mem_append_right _ (List.mem_append_left _ (List.mem_of_getElem? (i := 102) (by decide +kernel))))) (by decide +kernel)
theorem k_344 : (Cond.methodLink "java/lang/Throwable" (1 : Nat) ({ cls := "java/lang/Object", name := "<init>", desc := "()V" } : MethodName)) ∈ okTbl := ok_of (List.mem_append_right _ (List.mem_append_right _ (List.mem_append_left _ (List.mem_of_getElem? (i := 104) (by decide +kernel))))) (by decide +kernel)
theorem k_345 : (Cond.fieldLink "java/lang/Throwable" (13 : Nat) "java/lang/Throwable" "UNASSIGNED_STACK" "[Ljava/lang/StackTraceElement;") ∈ okTbl := ok_of (List.mem_append_right _ (List.mem_append_right _ (List.mem_append_left _ (List.mem_of_getElem? (i := 105) (by decide +kernel))))) (by decide +kernel)
theorem k_347 : (Cond.fieldLink "java/lang/Throwable" (20 : Nat) "java/lang/Throwable" "SUPPRESSED_SENTINEL" "Ljava/util/List;") ∈ okTbl := ok_of (List.mem_append_right _ (List.mem_append_right _ (List.mem_append_left _ (List.mem_of_getElem? (i := 107) (by decide +kernel))))) (by decide +kernel)
theorem k_349 : (Cond.methodLink "java/lang/Throwable" (27 : Nat) ({ cls := "java/lang/Throwable", name := "fillInStackTrace", desc := "()Ljava/lang/Throwable;" } : MethodName)) ∈ okTbl := ok_of (List.mem_append_right _ (List.mem_append_right _ (List.mem_append_left _ (List.mem_of_getElem? (i := 109) (by decide +kernel))))) (by decide +kernel)
theorem k_350 : (Cond.instanceMethod ({ cls := "java/lang/Throwable", name := "fillInStackTrace", desc := "()Ljava/lang/Throwable;" } : MethodName)) ∈ okTbl := ok_of (List.mem_append_right _ (List.mem_append_right _ (List.mem_append_left _ (List.mem_of_getElem? (i := 110) (by decide +kernel))))) (by decide +kernel)
theorem k_352 : (Cond.selects "java/lang/IllegalArgumentException" ({ cls := "java/lang/Throwable", name := "fillInStackTrace", desc := "()Ljava/lang/Throwable;" } : MethodName) ({ cls := "java/lang/Throwable", name := "fillInStackTrace", desc := "()Ljava/lang/Throwable;" } : MethodName)) ∈ okTbl := ok_of (List.mem_append_right _ (List.mem_append_right _ (List.mem_append_left _ (List.mem_of_getElem? (i := 112) (by decide +kernel))))) (by decide +kernel)
theorem k_353 : (Cond.selects "java/lang/IllegalStateException" ({ cls := "java/lang/Throwable", name := "fillInStackTrace", desc := "()Ljava/lang/Throwable;" } : MethodName) ({ cls := "java/lang/Throwable", name := "fillInStackTrace", desc := "()Ljava/lang/Throwable;" } : MethodName)) ∈ okTbl := ok_of (List.mem_append_right _ (List.mem_append_right _ (List.mem_append_left _ (List.mem_of_getElem? (i := 113) (by decide +kernel))))) (by decide +kernel)
theorem k_355 : (Cond.methodLink "java/lang/Throwable" (202 : Nat) ({ cls := "java/lang/Throwable", name := "fillInStackTrace", desc := "(I)Ljava/lang/Throwable;" } : MethodName)) ∈ okTbl := ok_of (List.mem_append_right _ (List.mem_append_right _ (List.mem_append_left _ (List.mem_of_getElem? (i := 115) (by decide +kernel))))) (by decide +kernel)
theorem k_357 : (Cond.instanceMethod ({ cls := "java/lang/Throwable", name := "fillInStackTrace", desc := "(I)Ljava/lang/Throwable;" } : MethodName)) ∈ okTbl := ok_of (List.mem_append_right _ (List.mem_append_right _ (List.mem_append_left _ (List.mem_of_getElem? (i := 117) (by decide +kernel))))) (by decide +kernel)
theorem k_358 : (Cond.instantiable "java/lang/Throwable" (6 : Nat)) ∈ okTbl := ok_of (List.mem_append_right _ (List.mem_append_right _ (List.mem_append_left _ (List.mem_of_getElem? (i := 118) (by decide +kernel))))) (by decide +kernel)
theorem k_361 : (Cond.methodLink "SawGrids" (75 : Nat) ({ cls := "java/lang/IndexOutOfBoundsException", name := "<init>", desc := "(Ljava/lang/String;)V" } : MethodName)) ∈ okTbl := ok_of (List.mem_append_right _ (List.mem_append_right _ (List.mem_append_left _ (List.mem_of_getElem? (i := 121) (by decide +kernel))))) (by decide +kernel)
theorem k_362 : (Cond.instanceMethod ({ cls := "java/lang/IndexOutOfBoundsException", name := "<init>", desc := "(Ljava/lang/String;)V" } : MethodName)) ∈ okTbl := ok_of (List.mem_append_right _ (List.mem_append_right _ (List.mem_append_left _ (List.mem_of_getElem? (i := 122) (by decide +kernel))))) (by decide +kernel)
theorem k_364 : (Cond.methodLink "java/lang/IndexOutOfBoundsException" (7 : Nat) ({ cls := "java/lang/RuntimeException", name := "<init>", desc := "(Ljava/lang/String;)V" } : MethodName)) ∈ okTbl := ok_of (List.mem_append_right _ (List.mem_append_right _ (List.mem_append_left _ (List.mem_of_getElem? (i := 124) (by decide +kernel))))) (by decide +kernel)
theorem k_365 : (Cond.instanceMethod ({ cls := "java/lang/RuntimeException", name := "<init>", desc := "(Ljava/lang/String;)V" } : MethodName)) ∈ okTbl := ok_of (List.mem_append_right _ (List.mem_append_right _ (List.mem_append_left _ (List.mem_of_getElem? (i := 125) (by decide +kernel))))) (by decide +kernel)
theorem k_367 : (Cond.methodLink "java/lang/RuntimeException" (7 : Nat) ({ cls := "java/lang/Exception", name := "<init>", desc := "(Ljava/lang/String;)V" } : MethodName)) ∈ okTbl := ok_of (List.mem_append_right _ (List.mem_append_right _ (List.mem_append_left _ (List.mem_of_getElem? (i := 127) (by decide +kernel))))) (by decide +kernel)
theorem k_368 : (Cond.instanceMethod ({ cls := "java/lang/Exception", name := "<init>", desc := "(Ljava/lang/String;)V" } : MethodName)) ∈ okTbl := ok_of (List.mem_append_right _ (List.mem_append_right _ (List.mem_append_left _ (List.mem_of_getElem? (i := 128) (by decide +kernel))))) (by decide +kernel)
theorem k_370 : (Cond.methodLink "java/lang/Exception" (7 : Nat) ({ cls := "java/lang/Throwable", name := "<init>", desc := "(Ljava/lang/String;)V" } : MethodName)) ∈ okTbl := ok_of (List.mem_append_right _ (List.mem_append_right _ (List.mem_append_left _ (List.mem_of_getElem? (i := 130) (by decide +kernel))))) (by decide +kernel)
theorem k_371 : (Cond.instanceMethod ({ cls := "java/lang/Throwable", name := "<init>", desc := "(Ljava/lang/String;)V" } : MethodName)) ∈ okTbl := ok_of (List.mem_append_right _ (List.mem_append_right _ (List.mem_append_left _ (List.mem_of_getElem? (i := 131) (by decide +kernel))))) (by decide +kernel)
theorem k_373 : (Cond.fieldLink "java/lang/Throwable" (198 : Nat) "java/lang/Throwable" "backtrace" "Ljava/lang/Object;") ∈ okTbl := ok_of (List.mem_append_right _ (List.mem_append_right _ (List.mem_append_left _ (List.mem_of_getElem? (i := 133) (by decide +kernel))))) (by decide +kernel)
theorem k_374 : (Cond.fieldLink "java/lang/Throwable" (31 : Nat) "java/lang/Throwable" "detailMessage" "Ljava/lang/String;") ∈ okTbl := ok_of (List.mem_append_right _ (List.mem_append_right _ (List.mem_append_left _ (List.mem_of_getElem? (i := 134) (by decide +kernel))))) (by decide +kernel)
theorem k_375 : (Cond.fieldLink "java/lang/Throwable" (7 : Nat) "java/lang/Throwable" "cause" "Ljava/lang/Throwable;") ∈ okTbl := ok_of (List.mem_append_right _ (List.mem_append_right _ (List.mem_append_left _ (List.mem_of_getElem? (i := 135) (by decide +kernel))))) (by decide +kernel)
theorem k_376 : (Cond.fieldLink "java/lang/Throwable" (17 : Nat) "java/lang/Throwable" "stackTrace" "[Ljava/lang/StackTraceElement;") ∈ okTbl := ok_of (List.mem_append_right _ (List.mem_append_right _ (List.mem_append_left _ (List.mem_of_getElem? (i := 136) (by decide +kernel))))) (by decide +kernel)
theorem k_377 : (Cond.fieldLink "java/lang/Throwable" (24 : Nat) "java/lang/Throwable" "suppressedExceptions" "Ljava/util/List;") ∈ okTbl := ok_of (List.mem_append_right _ (List.mem_append_right _ (List.mem_append_left _ (List.mem_of_getElem? (i := 137) (by decide +kernel))))) (by decide +kernel)
theorem k_386 : (Cond.arrayClass FieldType.byte) ∈ okTbl := ok_of (List.mem_append_right _ (List.mem_append_right _ (List.mem_append_left _ (List.mem_of_getElem? (i := 146) (by decide +kernel))))) (by decide +kernel)
theorem k_387 : (Cond.methodLink "SawGrids" (82 : Nat) ({ cls := "SawGrids$Log", name := "mark", desc := "(IIIZ)Z" } : MethodName)) ∈ okTbl := ok_of (List.mem_append_right _ (List.mem_append_right _ (List.mem_append_left _ (List.mem_of_getElem? (i := 147) (by decide +kernel))))) (by decide +kernel)
theorem k_388 : (Cond.instanceMethod ({ cls := "SawGrids$Log", name := "mark", desc := "(IIIZ)Z" } : MethodName)) ∈ okTbl := ok_of (List.mem_append_right _ (List.mem_append_right _ (List.mem_append_left _ (List.mem_of_getElem? (i := 148) (by decide +kernel))))) (by decide +kernel)
theorem k_389 : (Cond.selects "SawGrids$Log" ({ cls := "SawGrids$Log", name := "mark", desc := "(IIIZ)Z" } : MethodName) ({ cls := "SawGrids$Log", name := "mark", desc := "(IIIZ)Z" } : MethodName)) ∈ okTbl := ok_of (List.mem_append_right _ (List.mem_append_right _ (List.mem_append_left _ (List.mem_of_getElem? (i := 149) (by decide +kernel))))) (by decide +kernel)
theorem k_391 : (Cond.methodLink "SawGridsLaw" (68 : Nat) ({ cls := "SawGridsLaw", name := "span", desc := "(LSawGrids;IIII)I" } : MethodName)) ∈ okTbl := ok_of (List.mem_append_right _ (List.mem_append_right _ (List.mem_append_left _ (List.mem_of_getElem? (i := 151) (by decide +kernel))))) (by decide +kernel)
theorem k_392 : (Cond.static ({ cls := "SawGridsLaw", name := "span", desc := "(LSawGrids;IIII)I" } : MethodName)) ∈ okTbl := ok_of (List.mem_append_right _ (List.mem_append_right _ (List.mem_append_left _ (List.mem_of_getElem? (i := 152) (by decide +kernel))))) (by decide +kernel)
theorem k_394 : (Cond.classLink "SawGridsLaw" (19 : Nat) "java/lang/IllegalArgumentException") ∈ okTbl := ok_of (List.mem_append_right _ (List.mem_append_right _ (List.mem_append_left _ (List.mem_of_getElem? (i := 154) (by decide +kernel))))) (by decide +kernel)
theorem k_395 : (Cond.methodLink "SawGridsLaw" (15 : Nat) ({ cls := "SawGrids", name := "span", desc := "(IIII)V" } : MethodName)) ∈ okTbl := ok_of (List.mem_append_right _ (List.mem_append_right _ (List.mem_append_left _ (List.mem_of_getElem? (i := 155) (by decide +kernel))))) (by decide +kernel)
theorem k_396 : (Cond.instanceMethod ({ cls := "SawGrids", name := "span", desc := "(IIII)V" } : MethodName)) ∈ okTbl := ok_of (List.mem_append_right _ (List.mem_append_right _ (List.mem_append_left _ (List.mem_of_getElem? (i := 156) (by decide +kernel))))) (by decide +kernel)
theorem k_397 : (Cond.selects "SawGrids" ({ cls := "SawGrids", name := "span", desc := "(IIII)V" } : MethodName) ({ cls := "SawGrids", name := "span", desc := "(IIII)V" } : MethodName)) ∈ okTbl := ok_of (List.mem_append_right _ (List.mem_append_right _ (List.mem_append_left _ (List.mem_of_getElem? (i := 157) (by decide +kernel))))) (by decide +kernel)
theorem k_400 : (Cond.classLink "SawGrids" (95 : Nat) "java/lang/IllegalArgumentException") ∈ okTbl := ok_of (List.mem_append_right _ (List.mem_append_right _ (List.mem_append_left _ (List.mem_of_getElem? (i := 160) (by decide +kernel))))) (by decide +kernel)
theorem k_401 : (Cond.instantiable "java/lang/IllegalArgumentException" (6 : Nat)) ∈ okTbl := ok_of (List.mem_append_right _ (List.mem_append_right _ (List.mem_append_left _ (List.mem_of_getElem? (i := 161) (by decide +kernel))))) (by decide +kernel)
theorem k_403 : (Cond.selects "java/lang/IllegalArgumentException" ({ cls := "java/lang/Throwable", name := "fillInStackTrace", desc := "(I)Ljava/lang/Throwable;" } : MethodName) ({ cls := "java/lang/Throwable", name := "fillInStackTrace", desc := "(I)Ljava/lang/Throwable;" } : MethodName)) ∈ okTbl := ok_of (List.mem_append_right _ (List.mem_append_right _ (List.mem_append_left _ (List.mem_of_getElem? (i := 163) (by decide +kernel))))) (by decide +kernel)
theorem k_410 : (Cond.methodLink "SawGrids" (99 : Nat) ({ cls := "java/lang/IllegalArgumentException", name := "<init>", desc := "(Ljava/lang/String;)V" } : MethodName)) ∈ okTbl := ok_of (List.mem_append_right _ (List.mem_append_right _ (List.mem_append_left _ (List.mem_of_getElem? (i := 170) (by decide +kernel))))) (by decide +kernel)
theorem k_411 : (Cond.instanceMethod ({ cls := "java/lang/IllegalArgumentException", name := "<init>", desc := "(Ljava/lang/String;)V" } : MethodName)) ∈ okTbl := ok_of (List.mem_append_right _ (List.mem_append_right _ (List.mem_append_left _ (List.mem_of_getElem? (i := 171) (by decide +kernel))))) (by decide +kernel)
theorem k_413 : (Cond.methodLink "java/lang/IllegalArgumentException" (7 : Nat) ({ cls := "java/lang/RuntimeException", name := "<init>", desc := "(Ljava/lang/String;)V" } : MethodName)) ∈ okTbl := ok_of (List.mem_append_right _ (List.mem_append_right _ (List.mem_append_left _ (List.mem_of_getElem? (i := 173) (by decide +kernel))))) (by decide +kernel)
theorem k_416 : (Cond.methodLink "SawGridsLaw" (72 : Nat) ({ cls := "SawGridsLaw", name := "knot", desc := "(LSawGrids;III[J)I" } : MethodName)) ∈ okTbl := ok_of (List.mem_append_right _ (List.mem_append_right _ (List.mem_append_left _ (List.mem_of_getElem? (i := 176) (by decide +kernel))))) (by decide +kernel)
theorem k_417 : (Cond.static ({ cls := "SawGridsLaw", name := "knot", desc := "(LSawGrids;III[J)I" } : MethodName)) ∈ okTbl := ok_of (List.mem_append_right _ (List.mem_append_right _ (List.mem_append_left _ (List.mem_of_getElem? (i := 177) (by decide +kernel))))) (by decide +kernel)
theorem k_419 : (Cond.methodLink "SawGridsLaw" (21 : Nat) ({ cls := "SawGrids", name := "knot", desc := "(III)Z" } : MethodName)) ∈ okTbl := ok_of (List.mem_append_right _ (List.mem_append_right _ (List.mem_append_left _ (List.mem_of_getElem? (i := 179) (by decide +kernel))))) (by decide +kernel)
theorem k_420 : (Cond.instanceMethod ({ cls := "SawGrids", name := "knot", desc := "(III)Z" } : MethodName)) ∈ okTbl := ok_of (List.mem_append_right _ (List.mem_append_right _ (List.mem_append_left _ (List.mem_of_getElem? (i := 180) (by decide +kernel))))) (by decide +kernel)
theorem k_421 : (Cond.selects "SawGrids" ({ cls := "SawGrids", name := "knot", desc := "(III)Z" } : MethodName) ({ cls := "SawGrids", name := "knot", desc := "(III)Z" } : MethodName)) ∈ okTbl := ok_of (List.mem_append_right _ (List.mem_append_right _ (List.mem_append_left _ (List.mem_of_getElem? (i := 181) (by decide +kernel))))) (by decide +kernel)
theorem k_425 : (Cond.methodLink "SawGrids" (104 : Nat) ({ cls := "SawGrids$Log", name := "tie", desc := "(III)Z" } : MethodName)) ∈ okTbl := ok_of (List.mem_append_right _ (List.mem_append_right _ (List.mem_append_left _ (List.mem_of_getElem? (i := 185) (by decide +kernel))))) (by decide +kernel)
theorem k_426 : (Cond.instanceMethod ({ cls := "SawGrids$Log", name := "tie", desc := "(III)Z" } : MethodName)) ∈ okTbl := ok_of (List.mem_append_right _ (List.mem_append_right _ (List.mem_append_left _ (List.mem_of_getElem? (i := 186) (by decide +kernel))))) (by decide +kernel)
theorem k_427 : (Cond.selects "SawGrids$Log" ({ cls := "SawGrids$Log", name := "tie", desc := "(III)Z" } : MethodName) ({ cls := "SawGrids$Log", name := "tie", desc := "(III)Z" } : MethodName)) ∈ okTbl := ok_of (List.mem_append_right _ (List.mem_append_right _ (List.mem_append_left _ (List.mem_of_getElem? (i := 187) (by decide +kernel))))) (by decide +kernel)
theorem k_429 : (Cond.methodLink "SawGridsLaw" (76 : Nat) ({ cls := "SawGridsLaw", name := "size", desc := "(LSawGrids;IIII[J)I" } : MethodName)) ∈ okTbl := ok_of (List.mem_append_right _ (List.mem_append_right _ (List.mem_append_left _ (List.mem_of_getElem? (i := 189) (by decide +kernel))))) (by decide +kernel)
theorem k_430 : (Cond.static ({ cls := "SawGridsLaw", name := "size", desc := "(LSawGrids;IIII[J)I" } : MethodName)) ∈ okTbl := ok_of (List.mem_append_right _ (List.mem_append_right _ (List.mem_append_left _ (List.mem_of_getElem? (i := 190) (by decide +kernel))))) (by decide +kernel)
theorem k_432 : (Cond.classLink "SawGridsLaw" (29 : Nat) "java/lang/IllegalStateException") ∈ okTbl := ok_of (List.mem_append_right _ (List.mem_append_right _ (List.mem_append_left _ (List.mem_of_getElem? (i := 192) (by decide +kernel))))) (by decide +kernel)
theorem k_433 : (Cond.methodLink "SawGridsLaw" (25 : Nat) ({ cls := "SawGrids", name := "size", desc := "(IIII)I" } : MethodName)) ∈ okTbl := ok_of (List.mem_append_right _ (List.mem_append_right _ (List.mem_append_left _ (List.mem_of_getElem? (i := 193) (by decide +kernel))))) (by decide +kernel)
theorem k_434 : (Cond.instanceMethod ({ cls := "SawGrids", name := "size", desc := "(IIII)I" } : MethodName)) ∈ okTbl := ok_of (List.mem_append_right _ (List.mem_append_right _ (List.mem_append_left _ (List.mem_of_getElem? (i := 194) (by decide +kernel))))) (by decide +kernel)
theorem k_435 : (Cond.selects "SawGrids" ({ cls := "SawGrids", name := "size", desc := "(IIII)I" } : MethodName) ({ cls := "SawGrids", name := "size", desc := "(IIII)I" } : MethodName)) ∈ okTbl := ok_of (List.mem_append_right _ (List.mem_append_right _ (List.mem_append_left _ (List.mem_of_getElem? (i := 195) (by decide +kernel))))) (by decide +kernel)
theorem k_438 : (Cond.constant "SawGrids" (109 : Nat) (100000 : Int32)) ∈ okTbl := ok_of (List.mem_append_right _ (List.mem_append_right _ (List.mem_append_left _ (List.mem_of_getElem? (i := 198) (by decide +kernel))))) (by decide +kernel)
theorem k_440 : (Cond.classLink "SawGrids" (115 : Nat) "java/lang/IllegalStateException") ∈ okTbl := ok_of (List.mem_append_right _ (List.mem_append_right _ (List.mem_append_left _ (List.mem_of_getElem? (i := 200) (by decide +kernel))))) (by decide +kernel)
theorem k_441 : (Cond.instantiable "java/lang/IllegalStateException" (6 : Nat)) ∈ okTbl := ok_of (List.mem_append_right _ (List.mem_append_right _ (List.mem_append_left _ (List.mem_of_getElem? (i := 201) (by decide +kernel))))) (by decide +kernel)
theorem k_443 : (Cond.selects "java/lang/IllegalStateException" ({ cls := "java/lang/Throwable", name := "fillInStackTrace", desc := "(I)Ljava/lang/Throwable;" } : MethodName) ({ cls := "java/lang/Throwable", name := "fillInStackTrace", desc := "(I)Ljava/lang/Throwable;" } : MethodName)) ∈ okTbl := ok_of (List.mem_append_right _ (List.mem_append_right _ (List.mem_append_left _ (List.mem_of_getElem? (i := 203) (by decide +kernel))))) (by decide +kernel)
theorem k_450 : (Cond.methodLink "SawGrids" (119 : Nat) ({ cls := "java/lang/IllegalStateException", name := "<init>", desc := "(Ljava/lang/String;)V" } : MethodName)) ∈ okTbl := ok_of (List.mem_append_right _ (List.mem_append_right _ (List.mem_append_left _ (List.mem_of_getElem? (i := 210) (by decide +kernel))))) (by decide +kernel)
theorem k_451 : (Cond.instanceMethod ({ cls := "java/lang/IllegalStateException", name := "<init>", desc := "(Ljava/lang/String;)V" } : MethodName)) ∈ okTbl := ok_of (List.mem_append_right _ (List.mem_append_right _ (List.mem_append_left _ (List.mem_of_getElem? (i := 211) (by decide +kernel))))) (by decide +kernel)
theorem k_453 : (Cond.methodLink "java/lang/IllegalStateException" (7 : Nat) ({ cls := "java/lang/RuntimeException", name := "<init>", desc := "(Ljava/lang/String;)V" } : MethodName)) ∈ okTbl := ok_of (List.mem_append_right _ (List.mem_append_right _ (List.mem_append_left _ (List.mem_of_getElem? (i := 213) (by decide +kernel))))) (by decide +kernel)
theorem k_456 : (Cond.methodLink "SawGrids" (120 : Nat) ({ cls := "SawGrids$Sizes", name := "add", desc := "(IIII)I" } : MethodName)) ∈ okTbl := ok_of (List.mem_append_right _ (List.mem_append_right _ (List.mem_append_left _ (List.mem_of_getElem? (i := 216) (by decide +kernel))))) (by decide +kernel)
theorem k_457 : (Cond.instanceMethod ({ cls := "SawGrids$Sizes", name := "add", desc := "(IIII)I" } : MethodName)) ∈ okTbl := ok_of (List.mem_append_right _ (List.mem_append_right _ (List.mem_append_left _ (List.mem_of_getElem? (i := 217) (by decide +kernel))))) (by decide +kernel)
theorem k_458 : (Cond.selects "SawGrids$Sizes" ({ cls := "SawGrids$Sizes", name := "add", desc := "(IIII)I" } : MethodName) ({ cls := "SawGrids$Sizes", name := "add", desc := "(IIII)I" } : MethodName)) ∈ okTbl := ok_of (List.mem_append_right _ (List.mem_append_right _ (List.mem_append_left _ (List.mem_of_getElem? (i := 218) (by decide +kernel))))) (by decide +kernel)
theorem k_460 : (Cond.methodLink "SawGridsLaw" (85 : Nat) ({ cls := "SawGridsLaw", name := "board", desc := "(LSawGrids;II[J)I" } : MethodName)) ∈ okTbl := ok_of (List.mem_append_right _ (List.mem_append_right _ (List.mem_append_left _ (List.mem_of_getElem? (i := 220) (by decide +kernel))))) (by decide +kernel)
theorem k_461 : (Cond.static ({ cls := "SawGridsLaw", name := "board", desc := "(LSawGrids;II[J)I" } : MethodName)) ∈ okTbl := ok_of (List.mem_append_right _ (List.mem_append_right _ (List.mem_append_left _ (List.mem_of_getElem? (i := 221) (by decide +kernel))))) (by decide +kernel)
theorem k_463 : (Cond.methodLink "SawGridsLaw" (31 : Nat) ({ cls := "SawGrids", name := "board", desc := "(II)I" } : MethodName)) ∈ okTbl := ok_of (List.mem_append_right _ (List.mem_append_right _ (List.mem_append_left _ (List.mem_of_getElem? (i := 223) (by decide +kernel))))) (by decide +kernel)
theorem k_464 : (Cond.instanceMethod ({ cls := "SawGrids", name := "board", desc := "(II)I" } : MethodName)) ∈ okTbl := ok_of (List.mem_append_right _ (List.mem_append_right _ (List.mem_append_left _ (List.mem_of_getElem? (i := 224) (by decide +kernel))))) (by decide +kernel)
theorem k_465 : (Cond.selects "SawGrids" ({ cls := "SawGrids", name := "board", desc := "(II)I" } : MethodName) ({ cls := "SawGrids", name := "board", desc := "(II)I" } : MethodName)) ∈ okTbl := ok_of (List.mem_append_right _ (List.mem_append_right _ (List.mem_append_left _ (List.mem_of_getElem? (i := 225) (by decide +kernel))))) (by decide +kernel)
theorem k_467 : (Cond.methodLink "SawGrids" (136 : Nat) ({ cls := "SawGrids", name := "refuseUnsawn", desc := "()V" } : MethodName)) ∈ okTbl := ok_of (List.mem_append_right _ (List.mem_append_right _ (List.mem_append_left _ (List.mem_of_getElem? (i := 227) (by decide +kernel))))) (by decide +kernel)
theorem k_469 : (Cond.instanceMethod ({ cls := "SawGrids", name := "refuseUnsawn", desc := "()V" } : MethodName)) ∈ okTbl := ok_of (List.mem_append_right _ (List.mem_append_right _ (List.mem_append_left _ (List.mem_of_getElem? (i := 229) (by decide +kernel))))) (by decide +kernel)
theorem k_472 : (Cond.methodLink "SawGrids" (139 : Nat) ({ cls := "SawGrids", name := "refuseNoBoard", desc := "(I)V" } : MethodName)) ∈ okTbl := ok_of (List.mem_append_right _ (List.mem_append_right _ (List.mem_append_left _ (List.mem_of_getElem? (i := 232) (by decide +kernel))))) (by decide +kernel)
theorem k_474 : (Cond.instanceMethod ({ cls := "SawGrids", name := "refuseNoBoard", desc := "(I)V" } : MethodName)) ∈ okTbl := ok_of (List.mem_append_right _ (List.mem_append_right _ (List.mem_append_left _ (List.mem_of_getElem? (i := 234) (by decide +kernel))))) (by decide +kernel)
theorem k_477 : (Cond.methodLink "SawGrids" (155 : Nat) ({ cls := "SawGrids$Sizes", name := "alongX", desc := "(II)I" } : MethodName)) ∈ okTbl := ok_of (List.mem_append_right _ (List.mem_append_right _ (List.mem_append_left _ (List.mem_of_getElem? (i := 237) (by decide +kernel))))) (by decide +kernel)
theorem k_478 : (Cond.methodLink "SawGrids" (158 : Nat) ({ cls := "SawGrids$Sizes", name := "alongY", desc := "(II)I" } : MethodName)) ∈ okTbl := ok_of (List.mem_append_right _ (List.mem_append_right _ (List.mem_append_left _ (List.mem_of_getElem? (i := 238) (by decide +kernel))))) (by decide +kernel)
theorem k_479 : (Cond.methodLink "SawGrids" (161 : Nat) ({ cls := "SawGrids$Boards", name := "valueAt", desc := "(IIII)I" } : MethodName)) ∈ okTbl := ok_of (List.mem_append_right _ (List.mem_append_right _ (List.mem_append_left _ (List.mem_of_getElem? (i := 239) (by decide +kernel))))) (by decide +kernel)
theorem k_480 : (Cond.methodLink "SawGrids" (164 : Nat) ({ cls := "SawGrids$Boards", name := "bareAt", desc := "(IIII)I" } : MethodName)) ∈ okTbl := ok_of (List.mem_append_right _ (List.mem_append_right _ (List.mem_append_right _ (List.mem_append_left _ (List.mem_of_getElem? (i := 0) (by decide +kernel)))))) (by decide +kernel)
theorem k_481 : (Cond.instanceMethod ({ cls := "SawGrids$Boards", name := "bareAt", desc := "(IIII)I" } : MethodName)) ∈ okTbl := ok_of (List.mem_append_right _ (List.mem_append_right _ (List.mem_append_right _ (List.mem_append_left _ (List.mem_of_getElem? (i := 1) (by decide +kernel)))))) (by decide +kernel)
theorem k_482 : (Cond.selects "SawGrids$Boards" ({ cls := "SawGrids$Boards", name := "bareAt", desc := "(IIII)I" } : MethodName) ({ cls := "SawGrids$Boards", name := "bareAt", desc := "(IIII)I" } : MethodName)) ∈ okTbl := ok_of (List.mem_append_right _ (List.mem_append_right _ (List.mem_append_right _ (List.mem_append_left _ (List.mem_of_getElem? (i := 2) (by decide +kernel)))))) (by decide +kernel)
theorem k_485 : (Cond.methodLink "SawGridsLaw" (89 : Nat) ({ cls := "SawGridsLaw", name := "all", desc := "(LSawGrids;I[J)I" } : MethodName)) ∈ okTbl := ok_of (List.mem_append_right _ (List.mem_append_right _ (List.mem_append_right _ (List.mem_append_left _ (List.mem_of_getElem? (i := 5) (by decide +kernel)))))) (by decide +kernel)
theorem k_486 : (Cond.static ({ cls := "SawGridsLaw", name := "all", desc := "(LSawGrids;I[J)I" } : MethodName)) ∈ okTbl := ok_of (List.mem_append_right _ (List.mem_append_right _ (List.mem_append_right _ (List.mem_append_left _ (List.mem_of_getElem? (i := 6) (by decide +kernel)))))) (by decide +kernel)
theorem k_488 : (Cond.methodLink "SawGridsLaw" (35 : Nat) ({ cls := "SawGrids", name := "all", desc := "(I)I" } : MethodName)) ∈ okTbl := ok_of (List.mem_append_right _ (List.mem_append_right _ (List.mem_append_right _ (List.mem_append_left _ (List.mem_of_getElem? (i := 8) (by decide +kernel)))))) (by decide +kernel)
theorem k_489 : (Cond.instanceMethod ({ cls := "SawGrids", name := "all", desc := "(I)I" } : MethodName)) ∈ okTbl := ok_of (List.mem_append_right _ (List.mem_append_right _ (List.mem_append_right _ (List.mem_append_left _ (List.mem_of_getElem? (i := 9) (by decide +kernel)))))) (by decide +kernel)
theorem k_490 : (Cond.selects "SawGrids" ({ cls := "SawGrids", name := "all", desc := "(I)I" } : MethodName) ({ cls := "SawGrids", name := "all", desc := "(I)I" } : MethodName)) ∈ okTbl := ok_of (List.mem_append_right _ (List.mem_append_right _ (List.mem_append_right _ (List.mem_append_left _ (List.mem_of_getElem? (i := 10) (by decide +kernel)))))) (by decide +kernel)
theorem k_493 : (Cond.methodLink "SawGridsLaw" (93 : Nat) ({ cls := "SawGridsLaw", name := "worth", desc := "(LSawGrids;I[J)I" } : MethodName)) ∈ okTbl := ok_of (List.mem_append_right _ (List.mem_append_right _ (List.mem_append_right _ (List.mem_append_left _ (List.mem_of_getElem? (i := 13) (by decide +kernel)))))) (by decide +kernel)
theorem k_494 : (Cond.static ({ cls := "SawGridsLaw", name := "worth", desc := "(LSawGrids;I[J)I" } : MethodName)) ∈ okTbl := ok_of (List.mem_append_right _ (List.mem_append_right _ (List.mem_append_right _ (List.mem_append_left _ (List.mem_of_getElem? (i := 14) (by decide +kernel)))))) (by decide +kernel)
theorem k_496 : (Cond.methodLink "SawGridsLaw" (39 : Nat) ({ cls := "SawGrids", name := "worth", desc := "(I)I" } : MethodName)) ∈ okTbl := ok_of (List.mem_append_right _ (List.mem_append_right _ (List.mem_append_right _ (List.mem_append_left _ (List.mem_of_getElem? (i := 16) (by decide +kernel)))))) (by decide +kernel)
theorem k_497 : (Cond.instanceMethod ({ cls := "SawGrids", name := "worth", desc := "(I)I" } : MethodName)) ∈ okTbl := ok_of (List.mem_append_right _ (List.mem_append_right _ (List.mem_append_right _ (List.mem_append_left _ (List.mem_of_getElem? (i := 17) (by decide +kernel)))))) (by decide +kernel)
theorem k_498 : (Cond.selects "SawGrids" ({ cls := "SawGrids", name := "worth", desc := "(I)I" } : MethodName) ({ cls := "SawGrids", name := "worth", desc := "(I)I" } : MethodName)) ∈ okTbl := ok_of (List.mem_append_right _ (List.mem_append_right _ (List.mem_append_right _ (List.mem_append_left _ (List.mem_of_getElem? (i := 18) (by decide +kernel)))))) (by decide +kernel)
theorem k_500 : (Cond.methodLink "SawGrids" (177 : Nat) ({ cls := "SawGrids", name := "isTurn", desc := "(I)Z" } : MethodName)) ∈ okTbl := ok_of (List.mem_append_right _ (List.mem_append_right _ (List.mem_append_right _ (List.mem_append_left _ (List.mem_of_getElem? (i := 20) (by decide +kernel)))))) (by decide +kernel)
theorem k_501 : (Cond.static ({ cls := "SawGrids", name := "isTurn", desc := "(I)Z" } : MethodName)) ∈ okTbl := ok_of (List.mem_append_right _ (List.mem_append_right _ (List.mem_append_right _ (List.mem_append_left _ (List.mem_of_getElem? (i := 21) (by decide +kernel)))))) (by decide +kernel)
theorem k_504 : (Cond.methodLink "SawGrids" (182 : Nat) ({ cls := "SawGrids$Bench", name := "valueOf", desc := "(J)I" } : MethodName)) ∈ okTbl := ok_of (List.mem_append_right _ (List.mem_append_right _ (List.mem_append_right _ (List.mem_append_left _ (List.mem_of_getElem? (i := 24) (by decide +kernel)))))) (by decide +kernel)
theorem k_505 : (Cond.static ({ cls := "SawGrids$Bench", name := "valueOf", desc := "(J)I" } : MethodName)) ∈ okTbl := ok_of (List.mem_append_right _ (List.mem_append_right _ (List.mem_append_right _ (List.mem_append_left _ (List.mem_of_getElem? (i := 25) (by decide +kernel)))))) (by decide +kernel)
theorem k_507 : (Cond.methodLink "SawGridsLaw" (96 : Nat) ({ cls := "SawGridsLaw", name := "yields", desc := "(LSawGrids;I[J)I" } : MethodName)) ∈ okTbl := ok_of (List.mem_append_right _ (List.mem_append_right _ (List.mem_append_right _ (List.mem_append_left _ (List.mem_of_getElem? (i := 27) (by decide +kernel)))))) (by decide +kernel)
theorem k_508 : (Cond.static ({ cls := "SawGridsLaw", name := "yields", desc := "(LSawGrids;I[J)I" } : MethodName)) ∈ okTbl := ok_of (List.mem_append_right _ (List.mem_append_right _ (List.mem_append_right _ (List.mem_append_left _ (List.mem_of_getElem? (i := 28) (by decide +kernel)))))) (by decide +kernel)
theorem k_510 : (Cond.methodLink "SawGridsLaw" (42 : Nat) ({ cls := "SawGrids", name := "yields", desc := "(I)I" } : MethodName)) ∈ okTbl := ok_of (List.mem_append_right _ (List.mem_append_right _ (List.mem_append_right _ (List.mem_append_left _ (List.mem_of_getElem? (i := 30) (by decide +kernel)))))) (by decide +kernel)
theorem k_511 : (Cond.instanceMethod ({ cls := "SawGrids", name := "yields", desc := "(I)I" } : MethodName)) ∈ okTbl := ok_of (List.mem_append_right _ (List.mem_append_right _ (List.mem_append_right _ (List.mem_append_left _ (List.mem_of_getElem? (i := 31) (by decide +kernel)))))) (by decide +kernel)
theorem k_512 : (Cond.selects "SawGrids" ({ cls := "SawGrids", name := "yields", desc := "(I)I" } : MethodName) ({ cls := "SawGrids", name := "yields", desc := "(I)I" } : MethodName)) ∈ okTbl := ok_of (List.mem_append_right _ (List.mem_append_right _ (List.mem_append_right _ (List.mem_append_left _ (List.mem_of_getElem? (i := 32) (by decide +kernel)))))) (by decide +kernel)
theorem k_515 : (Cond.methodLink "SawGrids" (195 : Nat) ({ cls := "SawGrids", name := "commonDivisor", desc := "(II)I" } : MethodName)) ∈ okTbl := ok_of (List.mem_append_right _ (List.mem_append_right _ (List.mem_append_right _ (List.mem_append_left _ (List.mem_of_getElem? (i := 35) (by decide +kernel)))))) (by decide +kernel)
theorem k_516 : (Cond.static ({ cls := "SawGrids", name := "commonDivisor", desc := "(II)I" } : MethodName)) ∈ okTbl := ok_of (List.mem_append_right _ (List.mem_append_right _ (List.mem_append_right _ (List.mem_append_left _ (List.mem_of_getElem? (i := 36) (by decide +kernel)))))) (by decide +kernel)
theorem k_518 : (Cond.methodLink "SawGridsLaw" (99 : Nat) ({ cls := "SawGridsLaw", name := "may", desc := "(LSawGrids;IIII[J)I" } : MethodName)) ∈ okTbl := ok_of (List.mem_append_right _ (List.mem_append_right _ (List.mem_append_right _ (List.mem_append_left _ (List.mem_of_getElem? (i := 38) (by decide +kernel)))))) (by decide +kernel)
theorem k_519 : (Cond.static ({ cls := "SawGridsLaw", name := "may", desc := "(LSawGrids;IIII[J)I" } : MethodName)) ∈ okTbl := ok_of (List.mem_append_right _ (List.mem_append_right _ (List.mem_append_right _ (List.mem_append_left _ (List.mem_of_getElem? (i := 39) (by decide +kernel)))))) (by decide +kernel)
theorem k_521 : (Cond.methodLink "SawGridsLaw" (45 : Nat) ({ cls := "SawGrids", name := "may", desc := "(IIII)Z" } : MethodName)) ∈ okTbl := ok_of (List.mem_append_right _ (List.mem_append_right _ (List.mem_append_right _ (List.mem_append_left _ (List.mem_of_getElem? (i := 41) (by decide +kernel)))))) (by decide +kernel)
theorem k_522 : (Cond.instanceMethod ({ cls := "SawGrids", name := "may", desc := "(IIII)Z" } : MethodName)) ∈ okTbl := ok_of (List.mem_append_right _ (List.mem_append_right _ (List.mem_append_right _ (List.mem_append_left _ (List.mem_of_getElem? (i := 42) (by decide +kernel)))))) (by decide +kernel)
theorem k_523 : (Cond.selects "SawGrids" ({ cls := "SawGrids", name := "may", desc := "(IIII)Z" } : MethodName) ({ cls := "SawGrids", name := "may", desc := "(IIII)Z" } : MethodName)) ∈ okTbl := ok_of (List.mem_append_right _ (List.mem_append_right _ (List.mem_append_right _ (List.mem_append_left _ (List.mem_of_getElem? (i := 43) (by decide +kernel)))))) (by decide +kernel)
theorem k_525 : (Cond.methodLink "SawGrids" (198 : Nat) ({ cls := "SawGrids$Sizes", name := "has", desc := "(I)Z" } : MethodName)) ∈ okTbl := ok_of (List.mem_append_right _ (List.mem_append_right _ (List.mem_append_right _ (List.mem_append_left _ (List.mem_of_getElem? (i := 45) (by decide +kernel)))))) (by decide +kernel)
theorem k_527 : (Cond.methodLink "SawGrids" (203 : Nat) ({ cls := "SawGrids$Boards", name := "fits", desc := "(IIII)Z" } : MethodName)) ∈ okTbl := ok_of (List.mem_append_right _ (List.mem_append_right _ (List.mem_append_right _ (List.mem_append_left _ (List.mem_of_getElem? (i := 47) (by decide +kernel)))))) (by decide +kernel)
theorem k_528 : (Cond.methodLink "SawGridsLaw" (102 : Nat) ({ cls := "SawGridsLaw", name := "apart", desc := "(LSawGrids;II[J)I" } : MethodName)) ∈ okTbl := ok_of (List.mem_append_right _ (List.mem_append_right _ (List.mem_append_right _ (List.mem_append_left _ (List.mem_of_getElem? (i := 48) (by decide +kernel)))))) (by decide +kernel)
theorem k_529 : (Cond.static ({ cls := "SawGridsLaw", name := "apart", desc := "(LSawGrids;II[J)I" } : MethodName)) ∈ okTbl := ok_of (List.mem_append_right _ (List.mem_append_right _ (List.mem_append_right _ (List.mem_append_left _ (List.mem_of_getElem? (i := 49) (by decide +kernel)))))) (by decide +kernel)
theorem k_531 : (Cond.methodLink "SawGridsLaw" (49 : Nat) ({ cls := "SawGrids", name := "apart", desc := "(II)Z" } : MethodName)) ∈ okTbl := ok_of (List.mem_append_right _ (List.mem_append_right _ (List.mem_append_right _ (List.mem_append_left _ (List.mem_of_getElem? (i := 51) (by decide +kernel)))))) (by decide +kernel)
theorem k_532 : (Cond.instanceMethod ({ cls := "SawGrids", name := "apart", desc := "(II)Z" } : MethodName)) ∈ okTbl := ok_of (List.mem_append_right _ (List.mem_append_right _ (List.mem_append_right _ (List.mem_append_left _ (List.mem_of_getElem? (i := 52) (by decide +kernel)))))) (by decide +kernel)
theorem k_533 : (Cond.selects "SawGrids" ({ cls := "SawGrids", name := "apart", desc := "(II)Z" } : MethodName) ({ cls := "SawGrids", name := "apart", desc := "(II)Z" } : MethodName)) ∈ okTbl := ok_of (List.mem_append_right _ (List.mem_append_right _ (List.mem_append_right _ (List.mem_append_left _ (List.mem_of_getElem? (i := 53) (by decide +kernel)))))) (by decide +kernel)
theorem k_535 : (Cond.methodLink "SawGrids" (207 : Nat) ({ cls := "SawGrids", name := "areApart", desc := "(IIII)Z" } : MethodName)) ∈ okTbl := ok_of (List.mem_append_right _ (List.mem_append_right _ (List.mem_append_right _ (List.mem_append_left _ (List.mem_of_getElem? (i := 55) (by decide +kernel)))))) (by decide +kernel)
theorem k_537 : (Cond.instanceMethod ({ cls := "SawGrids", name := "areApart", desc := "(IIII)Z" } : MethodName)) ∈ okTbl := ok_of (List.mem_append_right _ (List.mem_append_right _ (List.mem_append_right _ (List.mem_append_left _ (List.mem_of_getElem? (i := 57) (by decide +kernel)))))) (by decide +kernel)
theorem k_539 : (Cond.classLink "SawGridsLaw" (61 : Nat) "SawGridsModel") ∈ okTbl := ok_of (List.mem_append_right _ (List.mem_append_right _ (List.mem_append_right _ (List.mem_append_left _ (List.mem_of_getElem? (i := 59) (by decide +kernel)))))) (by decide +kernel)
theorem k_540 : (Cond.instantiable "SawGridsModel" (22 : Nat)) ∈ okTbl := ok_of (List.mem_append_right _ (List.mem_append_right _ (List.mem_append_right _ (List.mem_append_left _ (List.mem_of_getElem? (i := 60) (by decide +kernel)))))) (by decide +kernel)
theorem k_541 : (Cond.methodLink "SawGridsLaw" (63 : Nat) ({ cls := "SawGridsModel", name := "<init>", desc := "(II)V" } : MethodName)) ∈ okTbl := ok_of (List.mem_append_right _ (List.mem_append_right _ (List.mem_append_right _ (List.mem_append_left _ (List.mem_of_getElem? (i := 61) (by decide +kernel)))))) (by decide +kernel)
theorem k_542 : (Cond.instanceMethod ({ cls := "SawGridsModel", name := "<init>", desc := "(II)V" } : MethodName)) ∈ okTbl := ok_of (List.mem_append_right _ (List.mem_append_right _ (List.mem_append_right _ (List.mem_append_left _ (List.mem_of_getElem? (i := 62) (by decide +kernel)))))) (by decide +kernel)
theorem k_544 : (Cond.methodLink "SawGridsModel" (1 : Nat) ({ cls := "java/lang/Object", name := "<init>", desc := "()V" } : MethodName)) ∈ okTbl := ok_of (List.mem_append_right _ (List.mem_append_right _ (List.mem_append_right _ (List.mem_append_left _ (List.mem_of_getElem? (i := 64) (by decide +kernel)))))) (by decide +kernel)
theorem k_545 : (Cond.fieldLink "SawGridsModel" (57 : Nat) "SawGridsModel" "thrown" "I") ∈ okTbl := ok_of (List.mem_append_right _ (List.mem_append_right _ (List.mem_append_right _ (List.mem_append_left _ (List.mem_of_getElem? (i := 65) (by decide +kernel)))))) (by decide +kernel)
theorem k_546 : (Cond.fieldLink "SawGridsModel" (50 : Nat) "SawGridsModel" "side" "I") ∈ okTbl := ok_of (List.mem_append_right _ (List.mem_append_right _ (List.mem_append_right _ (List.mem_append_left _ (List.mem_of_getElem? (i := 66) (by decide +kernel)))))) (by decide +kernel)
theorem k_547 : (Cond.fieldLink "SawGridsModel" (54 : Nat) "SawGridsModel" "kerf" "I") ∈ okTbl := ok_of (List.mem_append_right _ (List.mem_append_right _ (List.mem_append_right _ (List.mem_append_left _ (List.mem_of_getElem? (i := 67) (by decide +kernel)))))) (by decide +kernel)
theorem k_548 : (Cond.fieldLink "SawGridsModel" (7 : Nat) "SawGridsModel" "ins" "[Z") ∈ okTbl := ok_of (List.mem_append_right _ (List.mem_append_right _ (List.mem_append_right _ (List.mem_append_left _ (List.mem_of_getElem? (i := 68) (by decide +kernel)))))) (by decide +kernel)
theorem k_549 : (Cond.fieldLink "SawGridsModel" (13 : Nat) "SawGridsModel" "knots" "[I") ∈ okTbl := ok_of (List.mem_append_right _ (List.mem_append_right _ (List.mem_append_right _ (List.mem_append_left _ (List.mem_of_getElem? (i := 69) (by decide +kernel)))))) (by decide +kernel)
theorem k_550 : (Cond.fieldLink "SawGridsModel" (73 : Nat) "SawGridsModel" "sizes" "I") ∈ okTbl := ok_of (List.mem_append_right _ (List.mem_append_right _ (List.mem_append_right _ (List.mem_append_left _ (List.mem_of_getElem? (i := 70) (by decide +kernel)))))) (by decide +kernel)
theorem k_551 : (Cond.fieldLink "SawGridsModel" (17 : Nat) "SawGridsModel" "thicks" "[I") ∈ okTbl := ok_of (List.mem_append_right _ (List.mem_append_right _ (List.mem_append_right _ (List.mem_append_left _ (List.mem_of_getElem? (i := 71) (by decide +kernel)))))) (by decide +kernel)
theorem k_552 : (Cond.fieldLink "SawGridsModel" (20 : Nat) "SawGridsModel" "wides" "[I") ∈ okTbl := ok_of (List.mem_append_right _ (List.mem_append_right _ (List.mem_append_right _ (List.mem_append_left _ (List.mem_of_getElem? (i := 72) (by decide +kernel)))))) (by decide +kernel)
theorem k_553 : (Cond.fieldLink "SawGridsModel" (23 : Nat) "SawGridsModel" "worths" "[I") ∈ okTbl := ok_of (List.mem_append_right _ (List.mem_append_right _ (List.mem_append_right _ (List.mem_append_left _ (List.mem_of_getElem? (i := 73) (by decide +kernel)))))) (by decide +kernel)
theorem k_554 : (Cond.fieldLink "SawGridsModel" (26 : Nat) "SawGridsModel" "wanes" "[I") ∈ okTbl := ok_of (List.mem_append_right _ (List.mem_append_right _ (List.mem_append_right _ (List.mem_append_left _ (List.mem_of_getElem? (i := 74) (by decide +kernel)))))) (by decide +kernel)
theorem k_555 : (Cond.fieldLink "SawGridsModel" (29 : Nat) "SawGridsModel" "bare" "[I") ∈ okTbl := ok_of (List.mem_append_right _ (List.mem_append_right _ (List.mem_append_right _ (List.mem_append_left _ (List.mem_of_getElem? (i := 75) (by decide +kernel)))))) (by decide +kernel)
theorem k_556 : (Cond.fieldLink "SawGridsModel" (32 : Nat) "SawGridsModel" "losses" "[I") ∈ okTbl := ok_of (List.mem_append_right _ (List.mem_append_right _ (List.mem_append_right _ (List.mem_append_left _ (List.mem_of_getElem? (i := 76) (by decide +kernel)))))) (by decide +kernel)
theorem k_557 : (Cond.fieldLink "SawGridsModel" (35 : Nat) "SawGridsModel" "slabWorth" "[I") ∈ okTbl := ok_of (List.mem_append_right _ (List.mem_append_right _ (List.mem_append_right _ (List.mem_append_left _ (List.mem_of_getElem? (i := 77) (by decide +kernel)))))) (by decide +kernel)
theorem k_558 : (Cond.fieldLink "SawGridsModel" (38 : Nat) "SawGridsModel" "slabCount" "[I") ∈ okTbl := ok_of (List.mem_append_right _ (List.mem_append_right _ (List.mem_append_right _ (List.mem_append_left _ (List.mem_of_getElem? (i := 78) (by decide +kernel)))))) (by decide +kernel)
theorem k_559 : (Cond.fieldLink "SawGridsModel" (41 : Nat) "SawGridsModel" "rowWorth" "[I") ∈ okTbl := ok_of (List.mem_append_right _ (List.mem_append_right _ (List.mem_append_right _ (List.mem_append_left _ (List.mem_of_getElem? (i := 79) (by decide +kernel)))))) (by decide +kernel)
theorem k_560 : (Cond.fieldLink "SawGridsModel" (44 : Nat) "SawGridsModel" "rowCount" "[I") ∈ okTbl := ok_of (List.mem_append_right _ (List.mem_append_right _ (List.mem_append_right _ (List.mem_append_left _ (List.mem_of_getElem? (i := 80) (by decide +kernel)))))) (by decide +kernel)
theorem k_561 : (Cond.fieldLink "SawGridsModel" (68 : Nat) "SawGridsModel" "sawn" "Z") ∈ okTbl := ok_of (List.mem_append_right _ (List.mem_append_right _ (List.mem_append_right _ (List.mem_append_left _ (List.mem_of_getElem? (i := 81) (by decide +kernel)))))) (by decide +kernel)
theorem k_562 : (Cond.fieldLink "SawGridsModel" (150 : Nat) "SawGridsModel" "turn" "I") ∈ okTbl := ok_of (List.mem_append_right _ (List.mem_append_right _ (List.mem_append_right _ (List.mem_append_left _ (List.mem_of_getElem? (i := 82) (by decide +kernel)))))) (by decide +kernel)
theorem k_563 : (Cond.fieldLink "SawGridsModel" (153 : Nat) "SawGridsModel" "total" "I") ∈ okTbl := ok_of (List.mem_append_right _ (List.mem_append_right _ (List.mem_append_right _ (List.mem_append_left _ (List.mem_of_getElem? (i := 83) (by decide +kernel)))))) (by decide +kernel)
theorem k_564 : (Cond.fieldLink "SawGridsModel" (140 : Nat) "SawGridsModel" "slabs" "I") ∈ okTbl := ok_of (List.mem_append_right _ (List.mem_append_right _ (List.mem_append_right _ (List.mem_append_left _ (List.mem_of_getElem? (i := 84) (by decide +kernel)))))) (by decide +kernel)
theorem k_565 : (Cond.fieldLink "SawGridsModel" (133 : Nat) "SawGridsModel" "boards" "I") ∈ okTbl := ok_of (List.mem_append_right _ (List.mem_append_right _ (List.mem_append_right _ (List.mem_append_left _ (List.mem_of_getElem? (i := 85) (by decide +kernel)))))) (by decide +kernel)
theorem k_566 : (Cond.fieldLink "SawGridsModel" (47 : Nat) "SawGridsModel" "at" "[I") ∈ okTbl := ok_of (List.mem_append_right _ (List.mem_append_right _ (List.mem_append_right _ (List.mem_append_left _ (List.mem_of_getElem? (i := 86) (by decide +kernel)))))) (by decide +kernel)
theorem k_612 : (Cond.methodLink "SawGridsLaw" (67 : Nat) ({ cls := "SawGridsModel", name := "cell", desc := "(IIIZ)Z" } : MethodName)) ∈ okTbl := ok_of (List.mem_append_right _ (List.mem_append_right _ (List.mem_append_right _ (List.mem_append_left _ (List.mem_of_getElem? (i := 132) (by decide +kernel)))))) (by decide +kernel)
theorem k_613 : (Cond.instanceMethod ({ cls := "SawGridsModel", name := "cell", desc := "(IIIZ)Z" } : MethodName)) ∈ okTbl := ok_of (List.mem_append_right _ (List.mem_append_right _ (List.mem_append_right _ (List.mem_append_left _ (List.mem_of_getElem? (i := 133) (by decide +kernel)))))) (by decide +kernel)
theorem k_614 : (Cond.selects "SawGridsModel" ({ cls := "SawGridsModel", name := "cell", desc := "(IIIZ)Z" } : MethodName) ({ cls := "SawGridsModel", name := "cell", desc := "(IIIZ)Z" } : MethodName)) ∈ okTbl := ok_of (List.mem_append_right _ (List.mem_append_right _ (List.mem_append_right _ (List.mem_append_left _ (List.mem_of_getElem? (i := 134) (by decide +kernel)))))) (by decide +kernel)
theorem k_616 : (Cond.methodLink "SawGridsModel" (60 : Nat) ({ cls := "SawGridsModel", name := "isIn", desc := "(III)Z" } : MethodName)) ∈ okTbl := ok_of (List.mem_append_right _ (List.mem_append_right _ (List.mem_append_right _ (List.mem_append_left _ (List.mem_of_getElem? (i := 136) (by decide +kernel)))))) (by decide +kernel)
theorem k_617 : (Cond.static ({ cls := "SawGridsModel", name := "isIn", desc := "(III)Z" } : MethodName)) ∈ okTbl := ok_of (List.mem_append_right _ (List.mem_append_right _ (List.mem_append_right _ (List.mem_append_left _ (List.mem_of_getElem? (i := 137) (by decide +kernel)))))) (by decide +kernel)
theorem k_619 : (Cond.methodLink "SawGridsModel" (64 : Nat) ({ cls := "SawGridsModel", name := "isCell", desc := "(II)Z" } : MethodName)) ∈ okTbl := ok_of (List.mem_append_right _ (List.mem_append_right _ (List.mem_append_right _ (List.mem_append_left _ (List.mem_of_getElem? (i := 139) (by decide +kernel)))))) (by decide +kernel)
theorem k_621 : (Cond.instanceMethod ({ cls := "SawGridsModel", name := "isCell", desc := "(II)Z" } : MethodName)) ∈ okTbl := ok_of (List.mem_append_right _ (List.mem_append_right _ (List.mem_append_right _ (List.mem_append_left _ (List.mem_of_getElem? (i := 141) (by decide +kernel)))))) (by decide +kernel)
theorem k_623 : (Cond.methodLink "SawGridsLaw" (71 : Nat) ({ cls := "SawGridsModel", name := "span", desc := "(IIII)V" } : MethodName)) ∈ okTbl := ok_of (List.mem_append_right _ (List.mem_append_right _ (List.mem_append_right _ (List.mem_append_left _ (List.mem_of_getElem? (i := 143) (by decide +kernel)))))) (by decide +kernel)
theorem k_624 : (Cond.instanceMethod ({ cls := "SawGridsModel", name := "span", desc := "(IIII)V" } : MethodName)) ∈ okTbl := ok_of (List.mem_append_right _ (List.mem_append_right _ (List.mem_append_right _ (List.mem_append_left _ (List.mem_of_getElem? (i := 144) (by decide +kernel)))))) (by decide +kernel)
theorem k_625 : (Cond.selects "SawGridsModel" ({ cls := "SawGridsModel", name := "span", desc := "(IIII)V" } : MethodName) ({ cls := "SawGridsModel", name := "span", desc := "(IIII)V" } : MethodName)) ∈ okTbl := ok_of (List.mem_append_right _ (List.mem_append_right _ (List.mem_append_right _ (List.mem_append_left _ (List.mem_of_getElem? (i := 145) (by decide +kernel)))))) (by decide +kernel)
theorem k_627 : (Cond.methodLink "SawGridsLaw" (75 : Nat) ({ cls := "SawGridsModel", name := "knot", desc := "(III)Z" } : MethodName)) ∈ okTbl := ok_of (List.mem_append_right _ (List.mem_append_right _ (List.mem_append_right _ (List.mem_append_left _ (List.mem_of_getElem? (i := 147) (by decide +kernel)))))) (by decide +kernel)
theorem k_628 : (Cond.instanceMethod ({ cls := "SawGridsModel", name := "knot", desc := "(III)Z" } : MethodName)) ∈ okTbl := ok_of (List.mem_append_right _ (List.mem_append_right _ (List.mem_append_right _ (List.mem_append_left _ (List.mem_of_getElem? (i := 148) (by decide +kernel)))))) (by decide +kernel)
theorem k_629 : (Cond.selects "SawGridsModel" ({ cls := "SawGridsModel", name := "knot", desc := "(III)Z" } : MethodName) ({ cls := "SawGridsModel", name := "knot", desc := "(III)Z" } : MethodName)) ∈ okTbl := ok_of (List.mem_append_right _ (List.mem_append_right _ (List.mem_append_right _ (List.mem_append_left _ (List.mem_of_getElem? (i := 149) (by decide +kernel)))))) (by decide +kernel)
theorem k_631 : (Cond.methodLink "SawGridsLaw" (79 : Nat) ({ cls := "SawGridsModel", name := "size", desc := "(IIII)I" } : MethodName)) ∈ okTbl := ok_of (List.mem_append_right _ (List.mem_append_right _ (List.mem_append_right _ (List.mem_append_left _ (List.mem_of_getElem? (i := 151) (by decide +kernel)))))) (by decide +kernel)
theorem k_632 : (Cond.instanceMethod ({ cls := "SawGridsModel", name := "size", desc := "(IIII)I" } : MethodName)) ∈ okTbl := ok_of (List.mem_append_right _ (List.mem_append_right _ (List.mem_append_right _ (List.mem_append_left _ (List.mem_of_getElem? (i := 152) (by decide +kernel)))))) (by decide +kernel)
theorem k_633 : (Cond.selects "SawGridsModel" ({ cls := "SawGridsModel", name := "size", desc := "(IIII)I" } : MethodName) ({ cls := "SawGridsModel", name := "size", desc := "(IIII)I" } : MethodName)) ∈ okTbl := ok_of (List.mem_append_right _ (List.mem_append_right _ (List.mem_append_right _ (List.mem_append_left _ (List.mem_of_getElem? (i := 153) (by decide +kernel)))))) (by decide +kernel)
theorem k_635 : (Cond.constant "SawGridsModel" (72 : Nat) (100000 : Int32)) ∈ okTbl := ok_of (List.mem_append_right _ (List.mem_append_right _ (List.mem_append_right _ (List.mem_append_left _ (List.mem_of_getElem? (i := 155) (by decide +kernel)))))) (by decide +kernel)
theorem k_636 : (Cond.methodLink "SawGridsLaw" (84 : Nat) ({ cls := "SawGridsModel", name := "run", desc := "()I" } : MethodName)) ∈ okTbl := ok_of (List.mem_append_right _ (List.mem_append_right _ (List.mem_append_right _ (List.mem_append_left _ (List.mem_of_getElem? (i := 156) (by decide +kernel)))))) (by decide +kernel)
theorem k_637 : (Cond.instanceMethod ({ cls := "SawGridsModel", name := "run", desc := "()I" } : MethodName)) ∈ okTbl := ok_of (List.mem_append_right _ (List.mem_append_right _ (List.mem_append_right _ (List.mem_append_left _ (List.mem_of_getElem? (i := 157) (by decide +kernel)))))) (by decide +kernel)
theorem k_638 : (Cond.selects "SawGridsModel" ({ cls := "SawGridsModel", name := "run", desc := "()I" } : MethodName) ({ cls := "SawGridsModel", name := "run", desc := "()I" } : MethodName)) ∈ okTbl := ok_of (List.mem_append_right _ (List.mem_append_right _ (List.mem_append_right _ (List.mem_append_left _ (List.mem_of_getElem? (i := 158) (by decide +kernel)))))) (by decide +kernel)
theorem k_640 : (Cond.methodLink "SawGridsModel" (146 : Nat) ({ cls := "SawGridsModel", name := "fill", desc := "(I)V" } : MethodName)) ∈ okTbl := ok_of (List.mem_append_right _ (List.mem_append_right _ (List.mem_append_right _ (List.mem_append_left _ (List.mem_of_getElem? (i := 160) (by decide +kernel)))))) (by decide +kernel)
theorem k_642 : (Cond.instanceMethod ({ cls := "SawGridsModel", name := "fill", desc := "(I)V" } : MethodName)) ∈ okTbl := ok_of (List.mem_append_right _ (List.mem_append_right _ (List.mem_append_right _ (List.mem_append_left _ (List.mem_of_getElem? (i := 162) (by decide +kernel)))))) (by decide +kernel)
theorem k_644 : (Cond.methodLink "SawGridsModel" (123 : Nat) ({ cls := "SawGridsModel", name := "sums", desc := "()V" } : MethodName)) ∈ okTbl := ok_of (List.mem_append_right _ (List.mem_append_right _ (List.mem_append_right _ (List.mem_append_left _ (List.mem_of_getElem? (i := 164) (by decide +kernel)))))) (by decide +kernel)
theorem k_646 : (Cond.instanceMethod ({ cls := "SawGridsModel", name := "sums", desc := "()V" } : MethodName)) ∈ okTbl := ok_of (List.mem_append_right _ (List.mem_append_right _ (List.mem_append_right _ (List.mem_append_left _ (List.mem_of_getElem? (i := 166) (by decide +kernel)))))) (by decide +kernel)
theorem k_648 : (Cond.methodLink "SawGridsModel" (76 : Nat) ({ cls := "SawGridsModel", name := "isWood", desc := "(II)Z" } : MethodName)) ∈ okTbl := ok_of (List.mem_append_right _ (List.mem_append_right _ (List.mem_append_right _ (List.mem_append_left _ (List.mem_of_getElem? (i := 168) (by decide +kernel)))))) (by decide +kernel)
theorem k_650 : (Cond.instanceMethod ({ cls := "SawGridsModel", name := "isWood", desc := "(II)Z" } : MethodName)) ∈ okTbl := ok_of (List.mem_append_right _ (List.mem_append_right _ (List.mem_append_right _ (List.mem_append_left _ (List.mem_of_getElem? (i := 170) (by decide +kernel)))))) (by decide +kernel)
theorem k_652 : (Cond.methodLink "SawGridsModel" (119 : Nat) ({ cls := "SawGridsModel", name := "isThick", desc := "(I)Z" } : MethodName)) ∈ okTbl := ok_of (List.mem_append_right _ (List.mem_append_right _ (List.mem_append_right _ (List.mem_append_left _ (List.mem_of_getElem? (i := 172) (by decide +kernel)))))) (by decide +kernel)
theorem k_654 : (Cond.instanceMethod ({ cls := "SawGridsModel", name := "isThick", desc := "(I)Z" } : MethodName)) ∈ okTbl := ok_of (List.mem_append_right _ (List.mem_append_right _ (List.mem_append_right _ (List.mem_append_left _ (List.mem_of_getElem? (i := 174) (by decide +kernel)))))) (by decide +kernel)
theorem k_656 : (Cond.methodLink "SawGridsModel" (126 : Nat) ({ cls := "SawGridsModel", name := "slab", desc := "(III)V" } : MethodName)) ∈ okTbl := ok_of (List.mem_append_right _ (List.mem_append_right _ (List.mem_append_right _ (List.mem_append_left _ (List.mem_of_getElem? (i := 176) (by decide +kernel)))))) (by decide +kernel)
theorem k_658 : (Cond.instanceMethod ({ cls := "SawGridsModel", name := "slab", desc := "(III)V" } : MethodName)) ∈ okTbl := ok_of (List.mem_append_right _ (List.mem_append_right _ (List.mem_append_right _ (List.mem_append_left _ (List.mem_of_getElem? (i := 178) (by decide +kernel)))))) (by decide +kernel)
theorem k_660 : (Cond.methodLink "SawGridsModel" (101 : Nat) ({ cls := "SawGridsModel", name := "cell", desc := "(III)I" } : MethodName)) ∈ okTbl := ok_of (List.mem_append_right _ (List.mem_append_right _ (List.mem_append_right _ (List.mem_append_left _ (List.mem_of_getElem? (i := 180) (by decide +kernel)))))) (by decide +kernel)
theorem k_661 : (Cond.static ({ cls := "SawGridsModel", name := "cell", desc := "(III)I" } : MethodName)) ∈ okTbl := ok_of (List.mem_append_right _ (List.mem_append_right _ (List.mem_append_right _ (List.mem_append_left _ (List.mem_of_getElem? (i := 181) (by decide +kernel)))))) (by decide +kernel)
theorem k_663 : (Cond.methodLink "SawGridsModel" (105 : Nat) ({ cls := "SawGridsModel", name := "mayIn", desc := "(IIIII)Z" } : MethodName)) ∈ okTbl := ok_of (List.mem_append_right _ (List.mem_append_right _ (List.mem_append_right _ (List.mem_append_left _ (List.mem_of_getElem? (i := 183) (by decide +kernel)))))) (by decide +kernel)
theorem k_665 : (Cond.instanceMethod ({ cls := "SawGridsModel", name := "mayIn", desc := "(IIIII)Z" } : MethodName)) ∈ okTbl := ok_of (List.mem_append_right _ (List.mem_append_right _ (List.mem_append_right _ (List.mem_append_left _ (List.mem_of_getElem? (i := 185) (by decide +kernel)))))) (by decide +kernel)
theorem k_667 : (Cond.methodLink "SawGridsModel" (90 : Nat) ({ cls := "SawGridsModel", name := "fits", desc := "(IIII)Z" } : MethodName)) ∈ okTbl := ok_of (List.mem_append_right _ (List.mem_append_right _ (List.mem_append_right _ (List.mem_append_left _ (List.mem_of_getElem? (i := 187) (by decide +kernel)))))) (by decide +kernel)
theorem k_669 : (Cond.instanceMethod ({ cls := "SawGridsModel", name := "fits", desc := "(IIII)Z" } : MethodName)) ∈ okTbl := ok_of (List.mem_append_right _ (List.mem_append_right _ (List.mem_append_right _ (List.mem_append_left _ (List.mem_of_getElem? (i := 189) (by decide +kernel)))))) (by decide +kernel)
theorem k_671 : (Cond.methodLink "SawGridsModel" (79 : Nat) ({ cls := "SawGridsModel", name := "alongX", desc := "(II)I" } : MethodName)) ∈ okTbl := ok_of (List.mem_append_right _ (List.mem_append_right _ (List.mem_append_right _ (List.mem_append_left _ (List.mem_of_getElem? (i := 191) (by decide +kernel)))))) (by decide +kernel)
theorem k_673 : (Cond.instanceMethod ({ cls := "SawGridsModel", name := "alongX", desc := "(II)I" } : MethodName)) ∈ okTbl := ok_of (List.mem_append_right _ (List.mem_append_right _ (List.mem_append_right _ (List.mem_append_left _ (List.mem_of_getElem? (i := 193) (by decide +kernel)))))) (by decide +kernel)
theorem k_675 : (Cond.methodLink "SawGridsModel" (83 : Nat) ({ cls := "SawGridsModel", name := "alongY", desc := "(II)I" } : MethodName)) ∈ okTbl := ok_of (List.mem_append_right _ (List.mem_append_right _ (List.mem_append_right _ (List.mem_append_left _ (List.mem_of_getElem? (i := 195) (by decide +kernel)))))) (by decide +kernel)
theorem k_677 : (Cond.instanceMethod ({ cls := "SawGridsModel", name := "alongY", desc := "(II)I" } : MethodName)) ∈ okTbl := ok_of (List.mem_append_right _ (List.mem_append_right _ (List.mem_append_right _ (List.mem_append_left _ (List.mem_of_getElem? (i := 197) (by decide +kernel)))))) (by decide +kernel)
theorem k_679 : (Cond.methodLink "SawGridsModel" (86 : Nat) ({ cls := "SawGridsModel", name := "over", desc := "(ZIIII)I" } : MethodName)) ∈ okTbl := ok_of (List.mem_append_right _ (List.mem_append_right _ (List.mem_append_right _ (List.mem_append_left _ (List.mem_of_getElem? (i := 199) (by decide +kernel)))))) (by decide +kernel)
theorem k_681 : (Cond.instanceMethod ({ cls := "SawGridsModel", name := "over", desc := "(ZIIII)I" } : MethodName)) ∈ okTbl := ok_of (List.mem_append_right _ (List.mem_append_right _ (List.mem_append_right _ (List.mem_append_left _ (List.mem_of_getElem? (i := 201) (by decide +kernel)))))) (by decide +kernel)
theorem k_683 : (Cond.methodLink "SawGridsModel" (109 : Nat) ({ cls := "SawGridsModel", name := "worthWith", desc := "(IIIII)I" } : MethodName)) ∈ okTbl := ok_of (List.mem_append_right _ (List.mem_append_right _ (List.mem_append_right _ (List.mem_append_left _ (List.mem_of_getElem? (i := 203) (by decide +kernel)))))) (by decide +kernel)
theorem k_685 : (Cond.instanceMethod ({ cls := "SawGridsModel", name := "worthWith", desc := "(IIIII)I" } : MethodName)) ∈ okTbl := ok_of (List.mem_append_right _ (List.mem_append_right _ (List.mem_append_right _ (List.mem_append_left _ (List.mem_of_getElem? (i := 205) (by decide +kernel)))))) (by decide +kernel)
theorem k_687 : (Cond.methodLink "SawGridsModel" (94 : Nat) ({ cls := "SawGridsModel", name := "brings", desc := "(IIII)I" } : MethodName)) ∈ okTbl := ok_of (List.mem_append_right _ (List.mem_append_right _ (List.mem_append_right _ (List.mem_append_left _ (List.mem_of_getElem? (i := 207) (by decide +kernel)))))) (by decide +kernel)
theorem k_689 : (Cond.instanceMethod ({ cls := "SawGridsModel", name := "brings", desc := "(IIII)I" } : MethodName)) ∈ okTbl := ok_of (List.mem_append_right _ (List.mem_append_right _ (List.mem_append_right _ (List.mem_append_left _ (List.mem_of_getElem? (i := 209) (by decide +kernel)))))) (by decide +kernel)
theorem k_691 : (Cond.methodLink "SawGridsModel" (98 : Nat) ({ cls := "SawGridsModel", name := "behind", desc := "(II)I" } : MethodName)) ∈ okTbl := ok_of (List.mem_append_right _ (List.mem_append_right _ (List.mem_append_right _ (List.mem_append_left _ (List.mem_of_getElem? (i := 211) (by decide +kernel)))))) (by decide +kernel)
theorem k_693 : (Cond.instanceMethod ({ cls := "SawGridsModel", name := "behind", desc := "(II)I" } : MethodName)) ∈ okTbl := ok_of (List.mem_append_right _ (List.mem_append_right _ (List.mem_append_right _ (List.mem_append_left _ (List.mem_of_getElem? (i := 213) (by decide +kernel)))))) (by decide +kernel)
theorem k_695 : (Cond.methodLink "SawGridsModel" (113 : Nat) ({ cls := "SawGridsModel", name := "countWith", desc := "(IIII)I" } : MethodName)) ∈ okTbl := ok_of (List.mem_append_right _ (List.mem_append_right _ (List.mem_append_right _ (List.mem_append_left _ (List.mem_of_getElem? (i := 215) (by decide +kernel)))))) (by decide +kernel)
theorem k_697 : (Cond.instanceMethod ({ cls := "SawGridsModel", name := "countWith", desc := "(IIII)I" } : MethodName)) ∈ okTbl := ok_of (List.mem_append_right _ (List.mem_append_right _ (List.mem_append_right _ (List.mem_append_left _ (List.mem_of_getElem? (i := 217) (by decide +kernel)))))) (by decide +kernel)
theorem k_699 : (Cond.methodLink "SawGridsModel" (116 : Nat) ({ cls := "SawGridsModel", name := "isBetter", desc := "(IIII)Z" } : MethodName)) ∈ okTbl := ok_of (List.mem_append_right _ (List.mem_append_right _ (List.mem_append_right _ (List.mem_append_left _ (List.mem_of_getElem? (i := 219) (by decide +kernel)))))) (by decide +kernel)
theorem k_700 : (Cond.static ({ cls := "SawGridsModel", name := "isBetter", desc := "(IIII)Z" } : MethodName)) ∈ okTbl := ok_of (List.mem_append_right _ (List.mem_append_right _ (List.mem_append_right _ (List.mem_append_left _ (List.mem_of_getElem? (i := 220) (by decide +kernel)))))) (by decide +kernel)
theorem k_702 : (Cond.methodLink "SawGridsModel" (130 : Nat) ({ cls := "SawGridsModel", name := "hasSlab", desc := "(II)Z" } : MethodName)) ∈ okTbl := ok_of (List.mem_append_right _ (List.mem_append_right _ (List.mem_append_right _ (List.mem_append_left _ (List.mem_of_getElem? (i := 222) (by decide +kernel)))))) (by decide +kernel)
theorem k_704 : (Cond.instanceMethod ({ cls := "SawGridsModel", name := "hasSlab", desc := "(II)Z" } : MethodName)) ∈ okTbl := ok_of (List.mem_append_right _ (List.mem_append_right _ (List.mem_append_right _ (List.mem_append_left _ (List.mem_of_getElem? (i := 224) (by decide +kernel)))))) (by decide +kernel)
theorem k_706 : (Cond.methodLink "SawGridsModel" (156 : Nat) ({ cls := "SawGridsModel", name := "walk", desc := "(I)V" } : MethodName)) ∈ okTbl := ok_of (List.mem_append_right _ (List.mem_append_right _ (List.mem_append_right _ (List.mem_append_left _ (List.mem_of_getElem? (i := 226) (by decide +kernel)))))) (by decide +kernel)
theorem k_708 : (Cond.instanceMethod ({ cls := "SawGridsModel", name := "walk", desc := "(I)V" } : MethodName)) ∈ okTbl := ok_of (List.mem_append_right _ (List.mem_append_right _ (List.mem_append_right _ (List.mem_append_left _ (List.mem_of_getElem? (i := 228) (by decide +kernel)))))) (by decide +kernel)
theorem k_710 : (Cond.methodLink "SawGridsModel" (143 : Nat) ({ cls := "SawGridsModel", name := "walkSlab", desc := "(III)V" } : MethodName)) ∈ okTbl := ok_of (List.mem_append_right _ (List.mem_append_right _ (List.mem_append_right _ (List.mem_append_left _ (List.mem_of_getElem? (i := 230) (by decide +kernel)))))) (by decide +kernel)
theorem k_712 : (Cond.instanceMethod ({ cls := "SawGridsModel", name := "walkSlab", desc := "(III)V" } : MethodName)) ∈ okTbl := ok_of (List.mem_append_right _ (List.mem_append_right _ (List.mem_append_right _ (List.mem_append_left _ (List.mem_of_getElem? (i := 232) (by decide +kernel)))))) (by decide +kernel)
theorem k_714 : (Cond.methodLink "SawGridsModel" (136 : Nat) ({ cls := "SawGridsModel", name := "add", desc := "(IIII)V" } : MethodName)) ∈ okTbl := ok_of (List.mem_append_right _ (List.mem_append_right _ (List.mem_append_right _ (List.mem_append_left _ (List.mem_of_getElem? (i := 234) (by decide +kernel)))))) (by decide +kernel)
theorem k_716 : (Cond.instanceMethod ({ cls := "SawGridsModel", name := "add", desc := "(IIII)V" } : MethodName)) ∈ okTbl := ok_of (List.mem_append_right _ (List.mem_append_right _ (List.mem_append_right _ (List.mem_append_left _ (List.mem_of_getElem? (i := 236) (by decide +kernel)))))) (by decide +kernel)
theorem k_718 : (Cond.methodLink "SawGridsLaw" (88 : Nat) ({ cls := "SawGridsModel", name := "board", desc := "(II)I" } : MethodName)) ∈ okTbl := ok_of (List.mem_append_right _ (List.mem_append_right _ (List.mem_append_right _ (List.mem_append_left _ (List.mem_of_getElem? (i := 238) (by decide +kernel)))))) (by decide +kernel)
theorem k_719 : (Cond.instanceMethod ({ cls := "SawGridsModel", name := "board", desc := "(II)I" } : MethodName)) ∈ okTbl := ok_of (List.mem_append_right _ (List.mem_append_right _ (List.mem_append_right _ (List.mem_append_left _ (List.mem_of_getElem? (i := 239) (by decide +kernel)))))) (by decide +kernel)
theorem k_720 : (Cond.selects "SawGridsModel" ({ cls := "SawGridsModel", name := "board", desc := "(II)I" } : MethodName) ({ cls := "SawGridsModel", name := "board", desc := "(II)I" } : MethodName)) ∈ okTbl := ok_of (List.mem_append_right _ (List.mem_append_right _ (List.mem_append_right _ (List.mem_append_right _ (List.mem_of_getElem? (i := 0) (by decide +kernel)))))) (by decide +kernel)
theorem k_722 : (Cond.methodLink "SawGridsModel" (159 : Nat) ({ cls := "SawGridsModel", name := "bareOf", desc := "(I)I" } : MethodName)) ∈ okTbl := ok_of (List.mem_append_right _ (List.mem_append_right _ (List.mem_append_right _ (List.mem_append_right _ (List.mem_of_getElem? (i := 2) (by decide +kernel)))))) (by decide +kernel)
theorem k_724 : (Cond.instanceMethod ({ cls := "SawGridsModel", name := "bareOf", desc := "(I)I" } : MethodName)) ∈ okTbl := ok_of (List.mem_append_right _ (List.mem_append_right _ (List.mem_append_right _ (List.mem_append_right _ (List.mem_of_getElem? (i := 4) (by decide +kernel)))))) (by decide +kernel)
theorem k_726 : (Cond.methodLink "SawGridsLaw" (92 : Nat) ({ cls := "SawGridsModel", name := "all", desc := "(I)I" } : MethodName)) ∈ okTbl := ok_of (List.mem_append_right _ (List.mem_append_right _ (List.mem_append_right _ (List.mem_append_right _ (List.mem_of_getElem? (i := 6) (by decide +kernel)))))) (by decide +kernel)
theorem k_727 : (Cond.instanceMethod ({ cls := "SawGridsModel", name := "all", desc := "(I)I" } : MethodName)) ∈ okTbl := ok_of (List.mem_append_right _ (List.mem_append_right _ (List.mem_append_right _ (List.mem_append_right _ (List.mem_of_getElem? (i := 7) (by decide +kernel)))))) (by decide +kernel)
theorem k_728 : (Cond.selects "SawGridsModel" ({ cls := "SawGridsModel", name := "all", desc := "(I)I" } : MethodName) ({ cls := "SawGridsModel", name := "all", desc := "(I)I" } : MethodName)) ∈ okTbl := ok_of (List.mem_append_right _ (List.mem_append_right _ (List.mem_append_right _ (List.mem_append_right _ (List.mem_of_getElem? (i := 8) (by decide +kernel)))))) (by decide +kernel)
theorem k_730 : (Cond.methodLink "SawGridsLaw" (95 : Nat) ({ cls := "SawGridsModel", name := "worth", desc := "(I)I" } : MethodName)) ∈ okTbl := ok_of (List.mem_append_right _ (List.mem_append_right _ (List.mem_append_right _ (List.mem_append_right _ (List.mem_of_getElem? (i := 10) (by decide +kernel)))))) (by decide +kernel)
theorem k_731 : (Cond.instanceMethod ({ cls := "SawGridsModel", name := "worth", desc := "(I)I" } : MethodName)) ∈ okTbl := ok_of (List.mem_append_right _ (List.mem_append_right _ (List.mem_append_right _ (List.mem_append_right _ (List.mem_of_getElem? (i := 11) (by decide +kernel)))))) (by decide +kernel)
theorem k_732 : (Cond.selects "SawGridsModel" ({ cls := "SawGridsModel", name := "worth", desc := "(I)I" } : MethodName) ({ cls := "SawGridsModel", name := "worth", desc := "(I)I" } : MethodName)) ∈ okTbl := ok_of (List.mem_append_right _ (List.mem_append_right _ (List.mem_append_right _ (List.mem_append_right _ (List.mem_of_getElem? (i := 12) (by decide +kernel)))))) (by decide +kernel)
theorem k_734 : (Cond.methodLink "SawGridsLaw" (98 : Nat) ({ cls := "SawGridsModel", name := "yields", desc := "(I)I" } : MethodName)) ∈ okTbl := ok_of (List.mem_append_right _ (List.mem_append_right _ (List.mem_append_right _ (List.mem_append_right _ (List.mem_of_getElem? (i := 14) (by decide +kernel)))))) (by decide +kernel)
theorem k_735 : (Cond.instanceMethod ({ cls := "SawGridsModel", name := "yields", desc := "(I)I" } : MethodName)) ∈ okTbl := ok_of (List.mem_append_right _ (List.mem_append_right _ (List.mem_append_right _ (List.mem_append_right _ (List.mem_of_getElem? (i := 15) (by decide +kernel)))))) (by decide +kernel)
theorem k_736 : (Cond.selects "SawGridsModel" ({ cls := "SawGridsModel", name := "yields", desc := "(I)I" } : MethodName) ({ cls := "SawGridsModel", name := "yields", desc := "(I)I" } : MethodName)) ∈ okTbl := ok_of (List.mem_append_right _ (List.mem_append_right _ (List.mem_append_right _ (List.mem_append_right _ (List.mem_of_getElem? (i := 16) (by decide +kernel)))))) (by decide +kernel)
theorem k_738 : (Cond.methodLink "SawGridsModel" (163 : Nat) ({ cls := "SawGridsModel", name := "woodCells", desc := "()I" } : MethodName)) ∈ okTbl := ok_of (List.mem_append_right _ (List.mem_append_right _ (List.mem_append_right _ (List.mem_append_right _ (List.mem_of_getElem? (i := 18) (by decide +kernel)))))) (by decide +kernel)
theorem k_740 : (Cond.instanceMethod ({ cls := "SawGridsModel", name := "woodCells", desc := "()I" } : MethodName)) ∈ okTbl := ok_of (List.mem_append_right _ (List.mem_append_right _ (List.mem_append_right _ (List.mem_append_right _ (List.mem_of_getElem? (i := 20) (by decide +kernel)))))) (by decide +kernel)
theorem k_742 : (Cond.methodLink "SawGridsLaw" (101 : Nat) ({ cls := "SawGridsModel", name := "may", desc := "(IIII)Z" } : MethodName)) ∈ okTbl := ok_of (List.mem_append_right _ (List.mem_append_right _ (List.mem_append_right _ (List.mem_append_right _ (List.mem_of_getElem? (i := 22) (by decide +kernel)))))) (by decide +kernel)
theorem k_743 : (Cond.instanceMethod ({ cls := "SawGridsModel", name := "may", desc := "(IIII)Z" } : MethodName)) ∈ okTbl := ok_of (List.mem_append_right _ (List.mem_append_right _ (List.mem_append_right _ (List.mem_append_right _ (List.mem_of_getElem? (i := 23) (by decide +kernel)))))) (by decide +kernel)
theorem k_744 : (Cond.selects "SawGridsModel" ({ cls := "SawGridsModel", name := "may", desc := "(IIII)Z" } : MethodName) ({ cls := "SawGridsModel", name := "may", desc := "(IIII)Z" } : MethodName)) ∈ okTbl := ok_of (List.mem_append_right _ (List.mem_append_right _ (List.mem_append_right _ (List.mem_append_right _ (List.mem_of_getElem? (i := 24) (by decide +kernel)))))) (by decide +kernel)
theorem k_746 : (Cond.methodLink "SawGridsLaw" (104 : Nat) ({ cls := "SawGridsModel", name := "apart", desc := "(II)Z" } : MethodName)) ∈ okTbl := ok_of (List.mem_append_right _ (List.mem_append_right _ (List.mem_append_right _ (List.mem_append_right _ (List.mem_of_getElem? (i := 26) (by decide +kernel)))))) (by decide +kernel)
theorem k_747 : (Cond.instanceMethod ({ cls := "SawGridsModel", name := "apart", desc := "(II)Z" } : MethodName)) ∈ okTbl := ok_of (List.mem_append_right _ (List.mem_append_right _ (List.mem_append_right _ (List.mem_append_right _ (List.mem_of_getElem? (i := 27) (by decide +kernel)))))) (by decide +kernel)
theorem k_748 : (Cond.selects "SawGridsModel" ({ cls := "SawGridsModel", name := "apart", desc := "(II)Z" } : MethodName) ({ cls := "SawGridsModel", name := "apart", desc := "(II)Z" } : MethodName)) ∈ okTbl := ok_of (List.mem_append_right _ (List.mem_append_right _ (List.mem_append_right _ (List.mem_append_right _ (List.mem_of_getElem? (i := 28) (by decide +kernel)))))) (by decide +kernel)
theorem k_750 : (Cond.methodLink "SawGridsModel" (167 : Nat) ({ cls := "SawGridsModel", name := "isApart", desc := "(III)Z" } : MethodName)) ∈ okTbl := ok_of (List.mem_append_right _ (List.mem_append_right _ (List.mem_append_right _ (List.mem_append_right _ (List.mem_of_getElem? (i := 30) (by decide +kernel)))))) (by decide +kernel)
theorem k_752 : (Cond.instanceMethod ({ cls := "SawGridsModel", name := "isApart", desc := "(III)Z" } : MethodName)) ∈ okTbl := ok_of (List.mem_append_right _ (List.mem_append_right _ (List.mem_append_right _ (List.mem_append_right _ (List.mem_of_getElem? (i := 32) (by decide +kernel)))))) (by decide +kernel)
theorem k_754 : (Cond.methodLink "SawGridsLaw" (108 : Nat) ({ cls := "SawGridsModel", name := "wood", desc := "()I" } : MethodName)) ∈ okTbl := ok_of (List.mem_append_right _ (List.mem_append_right _ (List.mem_append_right _ (List.mem_append_right _ (List.mem_of_getElem? (i := 34) (by decide +kernel)))))) (by decide +kernel)
theorem k_755 : (Cond.instanceMethod ({ cls := "SawGridsModel", name := "wood", desc := "()I" } : MethodName)) ∈ okTbl := ok_of (List.mem_append_right _ (List.mem_append_right _ (List.mem_append_right _ (List.mem_append_right _ (List.mem_of_getElem? (i := 35) (by decide +kernel)))))) (by decide +kernel)
theorem k_756 : (Cond.selects "SawGridsModel" ({ cls := "SawGridsModel", name := "wood", desc := "()I" } : MethodName) ({ cls := "SawGridsModel", name := "wood", desc := "()I" } : MethodName)) ∈ okTbl := ok_of (List.mem_append_right _ (List.mem_append_right _ (List.mem_append_right _ (List.mem_append_right _ (List.mem_of_getElem? (i := 36) (by decide +kernel)))))) (by decide +kernel)
theorem ks_0 : Cond.selects "SawGrids$Log" (⟨"SawGrids$Log", "sumUpRow", "(I)V"⟩ : MethodName) (⟨"SawGrids$Log", "sumUpRow", "(I)V"⟩ : MethodName) ∈ okTbl := ok_of (List.mem_append_left _ (by decide +kernel)) (by decide +kernel)
theorem ks_1 : Cond.selects "SawGrids$Bench" (⟨"SawGrids$Bench", "planRow", "(I)V"⟩ : MethodName) (⟨"SawGrids$Bench", "planRow", "(I)V"⟩ : MethodName) ∈ okTbl := ok_of (List.mem_append_left _ (by decide +kernel)) (by decide +kernel)
theorem ks_2 : Cond.selects "SawGrids$Bench" (⟨"SawGrids$Bench", "planSlab", "(II)J"⟩ : MethodName) (⟨"SawGrids$Bench", "planSlab", "(II)J"⟩ : MethodName) ∈ okTbl := ok_of (List.mem_append_left _ (by decide +kernel)) (by decide +kernel)
theorem ks_3 : Cond.selects "SawGrids$Bench" (⟨"SawGrids$Bench", "planColumn", "(III)V"⟩ : MethodName) (⟨"SawGrids$Bench", "planColumn", "(III)V"⟩ : MethodName) ∈ okTbl := ok_of (List.mem_append_left _ (by decide +kernel)) (by decide +kernel)
theorem ks_4 : Cond.selects "SawGrids$Bench" (⟨"SawGrids$Bench", "xAt", "(II)I"⟩ : MethodName) (⟨"SawGrids$Bench", "xAt", "(II)I"⟩ : MethodName) ∈ okTbl := ok_of (List.mem_append_left _ (by decide +kernel)) (by decide +kernel)
theorem ks_5 : Cond.selects "SawGrids$Bench" (⟨"SawGrids$Bench", "yAt", "(II)I"⟩ : MethodName) (⟨"SawGrids$Bench", "yAt", "(II)I"⟩ : MethodName) ∈ okTbl := ok_of (List.mem_append_left _ (by decide +kernel)) (by decide +kernel)
theorem ks_6 : Cond.selects "SawGrids$Bench" (⟨"SawGrids$Bench", "layOutSlab", "(LSawGrids$Pattern;II)V"⟩ : MethodName) (⟨"SawGrids$Bench", "layOutSlab", "(LSawGrids$Pattern;II)V"⟩ : MethodName) ∈ okTbl := ok_of (List.mem_append_left _ (by decide +kernel)) (by decide +kernel)
theorem ks_7 : Cond.selects "SawGrids$Bench" (⟨"SawGrids$Bench", "layOutBoard", "(LSawGrids$Pattern;III)V"⟩ : MethodName) (⟨"SawGrids$Bench", "layOutBoard", "(LSawGrids$Pattern;III)V"⟩ : MethodName) ∈ okTbl := ok_of (List.mem_append_left _ (by decide +kernel)) (by decide +kernel)
theorem ks_9 : Cond.selects "SawGrids" (⟨"SawGrids", "refuseUnsawn", "()V"⟩ : MethodName) (⟨"SawGrids", "refuseUnsawn", "()V"⟩ : MethodName) ∈ okTbl := ok_of (List.mem_append_left _ (by decide +kernel)) (by decide +kernel)
theorem ks_10 : Cond.selects "SawGrids" (⟨"SawGrids", "refuseNoBoard", "(I)V"⟩ : MethodName) (⟨"SawGrids", "refuseNoBoard", "(I)V"⟩ : MethodName) ∈ okTbl := ok_of (List.mem_append_left _ (by decide +kernel)) (by decide +kernel)
theorem ks_11 : Cond.selects "SawGrids" (⟨"SawGrids", "areApart", "(IIII)Z"⟩ : MethodName) (⟨"SawGrids", "areApart", "(IIII)Z"⟩ : MethodName) ∈ okTbl := ok_of (List.mem_append_left _ (by decide +kernel)) (by decide +kernel)
theorem ks_12 : Cond.selects "SawGridsModel" (⟨"SawGridsModel", "isCell", "(II)Z"⟩ : MethodName) (⟨"SawGridsModel", "isCell", "(II)Z"⟩ : MethodName) ∈ okTbl := ok_of (List.mem_append_left _ (by decide +kernel)) (by decide +kernel)
theorem ks_13 : Cond.selects "SawGridsModel" (⟨"SawGridsModel", "fill", "(I)V"⟩ : MethodName) (⟨"SawGridsModel", "fill", "(I)V"⟩ : MethodName) ∈ okTbl := ok_of (List.mem_append_left _ (by decide +kernel)) (by decide +kernel)
theorem ks_14 : Cond.selects "SawGridsModel" (⟨"SawGridsModel", "sums", "()V"⟩ : MethodName) (⟨"SawGridsModel", "sums", "()V"⟩ : MethodName) ∈ okTbl := ok_of (List.mem_append_left _ (by decide +kernel)) (by decide +kernel)
theorem ks_15 : Cond.selects "SawGridsModel" (⟨"SawGridsModel", "isWood", "(II)Z"⟩ : MethodName) (⟨"SawGridsModel", "isWood", "(II)Z"⟩ : MethodName) ∈ okTbl := ok_of (List.mem_append_left _ (by decide +kernel)) (by decide +kernel)
theorem ks_16 : Cond.selects "SawGridsModel" (⟨"SawGridsModel", "isThick", "(I)Z"⟩ : MethodName) (⟨"SawGridsModel", "isThick", "(I)Z"⟩ : MethodName) ∈ okTbl := ok_of (List.mem_append_left _ (by decide +kernel)) (by decide +kernel)
theorem ks_17 : Cond.selects "SawGridsModel" (⟨"SawGridsModel", "slab", "(III)V"⟩ : MethodName) (⟨"SawGridsModel", "slab", "(III)V"⟩ : MethodName) ∈ okTbl := ok_of (List.mem_append_left _ (by decide +kernel)) (by decide +kernel)
theorem ks_18 : Cond.selects "SawGridsModel" (⟨"SawGridsModel", "mayIn", "(IIIII)Z"⟩ : MethodName) (⟨"SawGridsModel", "mayIn", "(IIIII)Z"⟩ : MethodName) ∈ okTbl := ok_of (List.mem_append_left _ (by decide +kernel)) (by decide +kernel)
theorem ks_19 : Cond.selects "SawGridsModel" (⟨"SawGridsModel", "fits", "(IIII)Z"⟩ : MethodName) (⟨"SawGridsModel", "fits", "(IIII)Z"⟩ : MethodName) ∈ okTbl := ok_of (List.mem_append_left _ (by decide +kernel)) (by decide +kernel)
theorem ks_20 : Cond.selects "SawGridsModel" (⟨"SawGridsModel", "alongX", "(II)I"⟩ : MethodName) (⟨"SawGridsModel", "alongX", "(II)I"⟩ : MethodName) ∈ okTbl := ok_of (List.mem_append_left _ (by decide +kernel)) (by decide +kernel)
theorem ks_21 : Cond.selects "SawGridsModel" (⟨"SawGridsModel", "alongY", "(II)I"⟩ : MethodName) (⟨"SawGridsModel", "alongY", "(II)I"⟩ : MethodName) ∈ okTbl := ok_of (List.mem_append_left _ (by decide +kernel)) (by decide +kernel)
theorem ks_22 : Cond.selects "SawGridsModel" (⟨"SawGridsModel", "over", "(ZIIII)I"⟩ : MethodName) (⟨"SawGridsModel", "over", "(ZIIII)I"⟩ : MethodName) ∈ okTbl := ok_of (List.mem_append_left _ (by decide +kernel)) (by decide +kernel)
theorem ks_23 : Cond.selects "SawGridsModel" (⟨"SawGridsModel", "worthWith", "(IIIII)I"⟩ : MethodName) (⟨"SawGridsModel", "worthWith", "(IIIII)I"⟩ : MethodName) ∈ okTbl := ok_of (List.mem_append_left _ (by decide +kernel)) (by decide +kernel)
theorem ks_24 : Cond.selects "SawGridsModel" (⟨"SawGridsModel", "brings", "(IIII)I"⟩ : MethodName) (⟨"SawGridsModel", "brings", "(IIII)I"⟩ : MethodName) ∈ okTbl := ok_of (List.mem_append_left _ (by decide +kernel)) (by decide +kernel)
theorem ks_25 : Cond.selects "SawGridsModel" (⟨"SawGridsModel", "behind", "(II)I"⟩ : MethodName) (⟨"SawGridsModel", "behind", "(II)I"⟩ : MethodName) ∈ okTbl := ok_of (List.mem_append_left _ (by decide +kernel)) (by decide +kernel)
theorem ks_26 : Cond.selects "SawGridsModel" (⟨"SawGridsModel", "countWith", "(IIII)I"⟩ : MethodName) (⟨"SawGridsModel", "countWith", "(IIII)I"⟩ : MethodName) ∈ okTbl := ok_of (List.mem_append_left _ (by decide +kernel)) (by decide +kernel)
theorem ks_27 : Cond.selects "SawGridsModel" (⟨"SawGridsModel", "hasSlab", "(II)Z"⟩ : MethodName) (⟨"SawGridsModel", "hasSlab", "(II)Z"⟩ : MethodName) ∈ okTbl := ok_of (List.mem_append_left _ (by decide +kernel)) (by decide +kernel)
theorem ks_28 : Cond.selects "SawGridsModel" (⟨"SawGridsModel", "walk", "(I)V"⟩ : MethodName) (⟨"SawGridsModel", "walk", "(I)V"⟩ : MethodName) ∈ okTbl := ok_of (List.mem_append_left _ (by decide +kernel)) (by decide +kernel)
theorem ks_29 : Cond.selects "SawGridsModel" (⟨"SawGridsModel", "walkSlab", "(III)V"⟩ : MethodName) (⟨"SawGridsModel", "walkSlab", "(III)V"⟩ : MethodName) ∈ okTbl := ok_of (List.mem_append_left _ (by decide +kernel)) (by decide +kernel)
theorem ks_30 : Cond.selects "SawGridsModel" (⟨"SawGridsModel", "add", "(IIII)V"⟩ : MethodName) (⟨"SawGridsModel", "add", "(IIII)V"⟩ : MethodName) ∈ okTbl := ok_of (List.mem_append_left _ (by decide +kernel)) (by decide +kernel)
theorem ks_31 : Cond.selects "SawGridsModel" (⟨"SawGridsModel", "bareOf", "(I)I"⟩ : MethodName) (⟨"SawGridsModel", "bareOf", "(I)I"⟩ : MethodName) ∈ okTbl := ok_of (List.mem_append_left _ (by decide +kernel)) (by decide +kernel)
theorem ks_32 : Cond.selects "SawGridsModel" (⟨"SawGridsModel", "woodCells", "()I"⟩ : MethodName) (⟨"SawGridsModel", "woodCells", "()I"⟩ : MethodName) ∈ okTbl := ok_of (List.mem_append_left _ (by decide +kernel)) (by decide +kernel)
theorem ks_33 : Cond.selects "SawGridsModel" (⟨"SawGridsModel", "isApart", "(III)Z"⟩ : MethodName) (⟨"SawGridsModel", "isApart", "(III)Z"⟩ : MethodName) ∈ okTbl := ok_of (List.mem_append_left _ (by decide +kernel)) (by decide +kernel)
end
section
/-- a cell that isn't wood counts 1 -/
noncomputable def fbare (side : Nat) (IN : Nat → Prop) (x y : Nat) : Nat := bareN (IN (y * side + x) ∧ IN (side * side + (y * side + x)))
/-- a cell's loss -/
def floss (side : Nat) (LO : Nat → Nat) (x y : Nat) : Nat := LO (y * side + x)
theorem fbare_le (side : Nat) (IN : Nat → Prop) : ∀ i j, i < side → j < side → fbare side IN i j ≤ 10000 := fun i j _ _ => Nat.le_trans (bareN_le _) (by decide)
theorem floss_le {side : Nat} {LO : Nat → Nat} (h : ∀ k, k < side * side → LO k ≤ 10000) : ∀ i j, i < side → j < side → floss side LO i j ≤ 10000 := fun i j hi hj => h _ (idxS hi hj)
end
section
/-! the tables of a turn, as the class fills them -/
noncomputable def cif {α : Type} (P : Prop) (a b : α) : α := @ite α P (Classical.propDecidable P) a b
theorem cif_t {α : Type} {P : Prop} {a b : α} (h : P) : cif P a b = a := by unfold cif; exact if_pos h
theorem cif_f {α : Type} {P : Prop} {a b : α} (h : ¬ P) : cif P a b = b := by unfold cif; exact if_neg h
def pX (tn row col : Nat) : Nat := if tn = 0 then col else row
def pY (tn row col : Nat) : Nat := if tn = 0 then row else col
theorem pX_le {tn row col n : Nat} (h1 : row ≤ n) (h2 : col ≤ n) : pX tn row col ≤ n := by unfold pX; split <;> omega
theorem pY_le {tn row col n : Nat} (h1 : row ≤ n) (h2 : col ≤ n) : pY tn row col ≤ n := by unfold pY; split <;> omega
/-- a board of a size may begin there -/
def okC (side : Nat) (fb : Nat → Nat → Nat) (th wi wn : Nat → Nat) (tn row col i : Nat) : Prop :=
  0 ≤ sumZ fb side ((pX tn row col : Nat) : Int) ((pY tn row col : Nat) : Int) (if ((tn : Nat) : Int) = 0 then wi i else th i) (if ((tn : Nat) : Int) = 0 then th i else wi i) ∧ sumZ fb side ((pX tn row col : Nat) : Int) ((pY tn row col : Nat) : Int) (if ((tn : Nat) : Int) = 0 then wi i else th i) (if ((tn : Nat) : Int) = 0 then th i else wi i) ≤ (wn i : Int)
/-- what it is worth -/
def vaC (side : Nat) (fl : Nat → Nat → Nat) (th wi wo : Nat → Nat) (tn row col i : Nat) : Int :=
  max 0 ((wo i : Int) - sumZ fl side ((pX tn row col : Nat) : Int) ((pY tn row col : Nat) : Int) (if ((tn : Nat) : Int) = 0 then wi i else th i) (if ((tn : Nat) : Int) = 0 then th i else wi i))
theorem vaC_bd {side : Nat} {fl : Nat → Nat → Nat} {th wi wo : Nat → Nat} {tn row col i : Nat} (h : wo i ≤ 100000) : 0 ≤ vaC side fl th wi wo tn row col i ∧ vaC side fl th wi wo tn row col i ≤ 100001 := by
  unfold vaC
  have k := sumZ_lo fl side ((pX tn row col : Nat) : Int) ((pY tn row col : Nat) : Int) (if ((tn : Nat) : Int) = 0 then wi i else th i) (if ((tn : Nat) : Int) = 0 then th i else wi i)
  omega
/-- the rank with a board of size i at a column -/
def rkC (RC : Nat → Int) (side kf col : Nat) (wi : Nat → Nat) (va : Nat → Int) (i : Nat) : Int := va i * 1000 - 1 + RC (min side (col + wi i + kf))
noncomputable def colStep (RC : Nat → Int) (side kf col thick : Nat) (th wi : Nat → Nat) (ok : Nat → Prop) (va : Nat → Int) (i : Nat) (b : Int × Int) : Int × Int :=
  cif ((th i = thick ∧ ok i) ∧ (b.1 < rkC RC side kf col wi va i ∨ (rkC RC side kf col wi va i = b.1 ∧ b.2 = -1))) (rkC RC side kf col wi va i, (i : Int)) b
noncomputable def colFold (RC : Nat → Int) (side kf col thick : Nat) (th wi : Nat → Nat) (ok : Nat → Prop) (va : Nat → Int) : Nat → Int × Int
  | 0 => (RC (col + 1), -1)
  | i + 1 => colStep RC side kf col thick th wi ok va i (colFold RC side kf col thick th wi ok va i)
/-- bounds -/
theorem colFold_bd {RC : Nat → Int} {side kf col thick : Nat} {th wi : Nat → Nat} {ok : Nat → Prop} {va : Nat → Int} (hc : col < side) (hR : ∀ j, col < j → j ≤ side → 0 ≤ RC j ∧ RC j ≤ 100001000 * ((side - j : Nat) : Int)) : ∀ (k : Nat), (∀ i, i < k → 1 ≤ wi i ∧ 0 ≤ va i ∧ va i ≤ 100001) →
    0 ≤ (colFold RC side kf col thick th wi ok va k).1 ∧ (colFold RC side kf col thick th wi ok va k).1 ≤ 100001000 * ((side - col : Nat) : Int) ∧ -1 ≤ (colFold RC side kf col thick th wi ok va k).2 ∧ (colFold RC side kf col thick th wi ok va k).2 < (k : Int) := by
  intro k
  induction k with
  | zero =>
    intro _
    have h := hR (col + 1) (by omega) (by omega)
    show 0 ≤ RC (col + 1) ∧ RC (col + 1) ≤ 100001000 * ((side - col : Nat) : Int) ∧ (-1 : Int) ≤ -1 ∧ (-1 : Int) < ((0 : Nat) : Int)
    omega
  | succ k ih =>
    intro hv
    obtain ⟨i1, i2, i3, i4⟩ := ih (fun i hi => hv i (by omega))
    obtain ⟨v1, v2, v3⟩ := hv k (by omega)
    have hr := hR (min side (col + wi k + kf)) (by omega) (by omega)
    show 0 ≤ (colStep RC side kf col thick th wi ok va k _).1 ∧ (colStep RC side kf col thick th wi ok va k _).1 ≤ _ ∧ -1 ≤ (colStep RC side kf col thick th wi ok va k _).2 ∧ (colStep RC side kf col thick th wi ok va k _).2 < _
    unfold colStep
    by_cases q : (th k = thick ∧ ok k) ∧ ((colFold RC side kf col thick th wi ok va k).1 < rkC RC side kf col wi va k ∨ (rkC RC side kf col wi va k = (colFold RC side kf col thick th wi ok va k).1 ∧ (colFold RC side kf col thick th wi ok va k).2 = -1))
    · rw [cif_t q]
      have e : rkC RC side kf col wi va k = va k * 1000 - 1 + RC (min side (col + wi k + kf)) := rfl
      obtain ⟨-, q⟩ := q
      dsimp only
      omega
    · rw [cif_f q]
      omega
theorem rkC_bd {RC : Nat → Int} {side kf col : Nat} {wi : Nat → Nat} {va : Nat → Int} {i : Nat} (hc : col < side) (hs : side ≤ 20) (hR : ∀ j, col < j → j ≤ side → 0 ≤ RC j ∧ RC j ≤ 100001000 * ((side - j : Nat) : Int)) (h : 1 ≤ wi i ∧ 0 ≤ va i ∧ va i ≤ 100001) : -1 ≤ rkC RC side kf col wi va i ∧ rkC RC side kf col wi va i ≤ 100001000 * 20 := by
  have hr := hR (min side (col + wi i + kf)) (by omega) (by omega)
  unfold rkC
  omega
theorem cmpI_b (a b : Int) : (iI (cmpI a b)).toInt = cmpI a b := by
  refine iI_t ?_ ?_ <;> unfold cmpI <;> split <;> first | omega | (split <;> omega)
end
section
theorem d_SG_isWithin_0 : decode b_SG_isWithin 0 = .ok (.iload_n 0, 1) := by decide +kernel
theorem d_SG_isWithin_1 : decode b_SG_isWithin 1 = .ok (.iload_n 1, 1) := by decide +kernel
theorem d_SG_isWithin_2 : decode b_SG_isWithin 2 = .ok (.if_icmp .lt 12, 3) := by decide +kernel
theorem d_SG_isWithin_5 : decode b_SG_isWithin 5 = .ok (.iload_n 0, 1) := by decide +kernel
theorem d_SG_isWithin_6 : decode b_SG_isWithin 6 = .ok (.iload_n 2, 1) := by decide +kernel
theorem d_SG_isWithin_7 : decode b_SG_isWithin 7 = .ok (.if_icmp .gt 7, 3) := by decide +kernel
theorem d_SG_isWithin_10 : decode b_SG_isWithin 10 = .ok (.iconst 1, 1) := by decide +kernel
theorem d_SG_isWithin_11 : decode b_SG_isWithin 11 = .ok (.goto 4, 3) := by decide +kernel
theorem d_SG_isWithin_14 : decode b_SG_isWithin 14 = .ok (.iconst 0, 1) := by decide +kernel
theorem d_SG_isWithin_15 : decode b_SG_isWithin 15 = .ok (.ireturn, 1) := by decide +kernel
theorem d_SG_isEnd_0 : decode b_SG_isEnd 0 = .ok (.iload_n 0, 1) := by decide +kernel
theorem d_SG_isEnd_1 : decode b_SG_isEnd 1 = .ok (.iconst 0, 1) := by decide +kernel
theorem d_SG_isEnd_2 : decode b_SG_isEnd 2 = .ok (.iconst 1, 1) := by decide +kernel
theorem d_SG_isEnd_3 : decode b_SG_isEnd 3 = .ok (.invokestatic 91, 3) := by decide +kernel
theorem d_SG_isEnd_6 : decode b_SG_isEnd 6 = .ok (.ireturn, 1) := by decide +kernel
theorem d_SG_isTurn_0 : decode b_SG_isTurn 0 = .ok (.iload_n 0, 1) := by decide +kernel
theorem d_SG_isTurn_1 : decode b_SG_isTurn 1 = .ok (.iconst 0, 1) := by decide +kernel
theorem d_SG_isTurn_2 : decode b_SG_isTurn 2 = .ok (.iconst 1, 1) := by decide +kernel
theorem d_SG_isTurn_3 : decode b_SG_isTurn 3 = .ok (.invokestatic 91, 3) := by decide +kernel
theorem d_SG_isTurn_6 : decode b_SG_isTurn 6 = .ok (.ireturn, 1) := by decide +kernel
theorem d_Lo_isCell_0 : decode b_Lo_isCell 0 = .ok (.iload_n 1, 1) := by decide +kernel
theorem d_Lo_isCell_1 : decode b_Lo_isCell 1 = .ok (.iconst 0, 1) := by decide +kernel
theorem d_Lo_isCell_2 : decode b_Lo_isCell 2 = .ok (.aload_n 0, 1) := by decide +kernel
theorem d_Lo_isCell_3 : decode b_Lo_isCell 3 = .ok (.getfield 9, 3) := by decide +kernel
theorem d_Lo_isCell_6 : decode b_Lo_isCell 6 = .ok (.iconst 1, 1) := by decide +kernel
theorem d_Lo_isCell_7 : decode b_Lo_isCell 7 = .ok (.isub, 1) := by decide +kernel
theorem d_Lo_isCell_8 : decode b_Lo_isCell 8 = .ok (.invokestatic 29, 3) := by decide +kernel
theorem d_Lo_isCell_11 : decode b_Lo_isCell 11 = .ok (.ifCond .eq 21, 3) := by decide +kernel
theorem d_Lo_isCell_14 : decode b_Lo_isCell 14 = .ok (.iload_n 2, 1) := by decide +kernel
theorem d_Lo_isCell_15 : decode b_Lo_isCell 15 = .ok (.iconst 0, 1) := by decide +kernel
theorem d_Lo_isCell_16 : decode b_Lo_isCell 16 = .ok (.aload_n 0, 1) := by decide +kernel
theorem d_Lo_isCell_17 : decode b_Lo_isCell 17 = .ok (.getfield 9, 3) := by decide +kernel
theorem d_Lo_isCell_20 : decode b_Lo_isCell 20 = .ok (.iconst 1, 1) := by decide +kernel
theorem d_Lo_isCell_21 : decode b_Lo_isCell 21 = .ok (.isub, 1) := by decide +kernel
theorem d_Lo_isCell_22 : decode b_Lo_isCell 22 = .ok (.invokestatic 29, 3) := by decide +kernel
theorem d_Lo_isCell_25 : decode b_Lo_isCell 25 = .ok (.ifCond .eq 7, 3) := by decide +kernel
theorem d_Lo_isCell_28 : decode b_Lo_isCell 28 = .ok (.iconst 1, 1) := by decide +kernel
theorem d_Lo_isCell_29 : decode b_Lo_isCell 29 = .ok (.goto 4, 3) := by decide +kernel
theorem d_Lo_isCell_32 : decode b_Lo_isCell 32 = .ok (.iconst 0, 1) := by decide +kernel
theorem d_Lo_isCell_33 : decode b_Lo_isCell 33 = .ok (.ireturn, 1) := by decide +kernel
theorem d_Si_has_0 : decode b_Si_has 0 = .ok (.iload_n 1, 1) := by decide +kernel
theorem d_Si_has_1 : decode b_Si_has 1 = .ok (.iconst 0, 1) := by decide +kernel
theorem d_Si_has_2 : decode b_Si_has 2 = .ok (.aload_n 0, 1) := by decide +kernel
theorem d_Si_has_3 : decode b_Si_has 3 = .ok (.getfield 24, 3) := by decide +kernel
theorem d_Si_has_6 : decode b_Si_has 6 = .ok (.iconst 1, 1) := by decide +kernel
theorem d_Si_has_7 : decode b_Si_has 7 = .ok (.isub, 1) := by decide +kernel
theorem d_Si_has_8 : decode b_Si_has 8 = .ok (.invokestatic 28, 3) := by decide +kernel
theorem d_Si_has_11 : decode b_Si_has 11 = .ok (.ireturn, 1) := by decide +kernel
theorem d_Si_alongX_0 : decode b_Si_alongX 0 = .ok (.iload_n 2, 1) := by decide +kernel
theorem d_Si_alongX_1 : decode b_Si_alongX 1 = .ok (.ifCond .ne 12, 3) := by decide +kernel
theorem d_Si_alongX_4 : decode b_Si_alongX 4 = .ok (.aload_n 0, 1) := by decide +kernel
theorem d_Si_alongX_5 : decode b_Si_alongX 5 = .ok (.getfield 15, 3) := by decide +kernel
theorem d_Si_alongX_8 : decode b_Si_alongX 8 = .ok (.iload_n 1, 1) := by decide +kernel
theorem d_Si_alongX_9 : decode b_Si_alongX 9 = .ok (.iaload, 1) := by decide +kernel
theorem d_Si_alongX_10 : decode b_Si_alongX 10 = .ok (.goto 9, 3) := by decide +kernel
theorem d_Si_alongX_13 : decode b_Si_alongX 13 = .ok (.aload_n 0, 1) := by decide +kernel
theorem d_Si_alongX_14 : decode b_Si_alongX 14 = .ok (.getfield 9, 3) := by decide +kernel
theorem d_Si_alongX_17 : decode b_Si_alongX 17 = .ok (.iload_n 1, 1) := by decide +kernel
theorem d_Si_alongX_18 : decode b_Si_alongX 18 = .ok (.iaload, 1) := by decide +kernel
theorem d_Si_alongX_19 : decode b_Si_alongX 19 = .ok (.ireturn, 1) := by decide +kernel
theorem d_Si_alongY_0 : decode b_Si_alongY 0 = .ok (.iload_n 2, 1) := by decide +kernel
theorem d_Si_alongY_1 : decode b_Si_alongY 1 = .ok (.ifCond .ne 12, 3) := by decide +kernel
theorem d_Si_alongY_4 : decode b_Si_alongY 4 = .ok (.aload_n 0, 1) := by decide +kernel
theorem d_Si_alongY_5 : decode b_Si_alongY 5 = .ok (.getfield 9, 3) := by decide +kernel
theorem d_Si_alongY_8 : decode b_Si_alongY 8 = .ok (.iload_n 1, 1) := by decide +kernel
theorem d_Si_alongY_9 : decode b_Si_alongY 9 = .ok (.iaload, 1) := by decide +kernel
theorem d_Si_alongY_10 : decode b_Si_alongY 10 = .ok (.goto 9, 3) := by decide +kernel
theorem d_Si_alongY_13 : decode b_Si_alongY 13 = .ok (.aload_n 0, 1) := by decide +kernel
theorem d_Si_alongY_14 : decode b_Si_alongY 14 = .ok (.getfield 15, 3) := by decide +kernel
theorem d_Si_alongY_17 : decode b_Si_alongY 17 = .ok (.iload_n 1, 1) := by decide +kernel
theorem d_Si_alongY_18 : decode b_Si_alongY 18 = .ok (.iaload, 1) := by decide +kernel
theorem d_Si_alongY_19 : decode b_Si_alongY 19 = .ok (.ireturn, 1) := by decide +kernel
theorem d_Be_xAt_0 : decode b_Be_xAt 0 = .ok (.aload_n 0, 1) := by decide +kernel
theorem d_Be_xAt_1 : decode b_Be_xAt 1 = .ok (.getfield 45, 3) := by decide +kernel
theorem d_Be_xAt_4 : decode b_Be_xAt 4 = .ok (.ifCond .ne 7, 3) := by decide +kernel
theorem d_Be_xAt_7 : decode b_Be_xAt 7 = .ok (.iload_n 2, 1) := by decide +kernel
theorem d_Be_xAt_8 : decode b_Be_xAt 8 = .ok (.goto 4, 3) := by decide +kernel
theorem d_Be_xAt_11 : decode b_Be_xAt 11 = .ok (.iload_n 1, 1) := by decide +kernel
theorem d_Be_xAt_12 : decode b_Be_xAt 12 = .ok (.ireturn, 1) := by decide +kernel
theorem d_Be_yAt_0 : decode b_Be_yAt 0 = .ok (.aload_n 0, 1) := by decide +kernel
theorem d_Be_yAt_1 : decode b_Be_yAt 1 = .ok (.getfield 45, 3) := by decide +kernel
theorem d_Be_yAt_4 : decode b_Be_yAt 4 = .ok (.ifCond .ne 7, 3) := by decide +kernel
theorem d_Be_yAt_7 : decode b_Be_yAt 7 = .ok (.iload_n 1, 1) := by decide +kernel
theorem d_Be_yAt_8 : decode b_Be_yAt 8 = .ok (.goto 4, 3) := by decide +kernel
theorem d_Be_yAt_11 : decode b_Be_yAt 11 = .ok (.iload_n 2, 1) := by decide +kernel
theorem d_Be_yAt_12 : decode b_Be_yAt 12 = .ok (.ireturn, 1) := by decide +kernel
theorem d_Lo_sumIn_0 : decode b_Lo_sumIn 0 = .ok (.iload_n 2, 1) := by decide +kernel
theorem d_Lo_sumIn_1 : decode b_Lo_sumIn 1 = .ok (.ifCond .lt 29, 3) := by decide +kernel
theorem d_Lo_sumIn_4 : decode b_Lo_sumIn 4 = .ok (.iload_n 3, 1) := by decide +kernel
theorem d_Lo_sumIn_5 : decode b_Lo_sumIn 5 = .ok (.ifCond .lt 25, 3) := by decide +kernel
theorem d_Lo_sumIn_8 : decode b_Lo_sumIn 8 = .ok (.iload_n 2, 1) := by decide +kernel
theorem d_Lo_sumIn_9 : decode b_Lo_sumIn 9 = .ok (.aload_n 0, 1) := by decide +kernel
theorem d_Lo_sumIn_10 : decode b_Lo_sumIn 10 = .ok (.getfield 9, 3) := by decide +kernel
theorem d_Lo_sumIn_13 : decode b_Lo_sumIn 13 = .ok (.iload 4, 2) := by decide +kernel
theorem d_Lo_sumIn_15 : decode b_Lo_sumIn 15 = .ok (.isub, 1) := by decide +kernel
theorem d_Lo_sumIn_16 : decode b_Lo_sumIn 16 = .ok (.if_icmp .gt 14, 3) := by decide +kernel
theorem d_Lo_sumIn_19 : decode b_Lo_sumIn 19 = .ok (.iload_n 3, 1) := by decide +kernel
theorem d_Lo_sumIn_20 : decode b_Lo_sumIn 20 = .ok (.aload_n 0, 1) := by decide +kernel
theorem d_Lo_sumIn_21 : decode b_Lo_sumIn 21 = .ok (.getfield 9, 3) := by decide +kernel
theorem d_Lo_sumIn_24 : decode b_Lo_sumIn 24 = .ok (.iload 5, 2) := by decide +kernel
theorem d_Lo_sumIn_26 : decode b_Lo_sumIn 26 = .ok (.isub, 1) := by decide +kernel
theorem d_Lo_sumIn_27 : decode b_Lo_sumIn 27 = .ok (.if_icmp .le 5, 3) := by decide +kernel
theorem d_Lo_sumIn_30 : decode b_Lo_sumIn 30 = .ok (.iconst (-1), 1) := by decide +kernel
theorem d_Lo_sumIn_31 : decode b_Lo_sumIn 31 = .ok (.ireturn, 1) := by decide +kernel
theorem d_Lo_sumIn_32 : decode b_Lo_sumIn 32 = .ok (.iload_n 3, 1) := by decide +kernel
theorem d_Lo_sumIn_33 : decode b_Lo_sumIn 33 = .ok (.aload_n 0, 1) := by decide +kernel
theorem d_Lo_sumIn_34 : decode b_Lo_sumIn 34 = .ok (.getfield 9, 3) := by decide +kernel
theorem d_Lo_sumIn_37 : decode b_Lo_sumIn 37 = .ok (.iconst 1, 1) := by decide +kernel
theorem d_Lo_sumIn_38 : decode b_Lo_sumIn 38 = .ok (.iadd, 1) := by decide +kernel
theorem d_Lo_sumIn_39 : decode b_Lo_sumIn 39 = .ok (.imul, 1) := by decide +kernel
theorem d_Lo_sumIn_40 : decode b_Lo_sumIn 40 = .ok (.iload_n 2, 1) := by decide +kernel
theorem d_Lo_sumIn_41 : decode b_Lo_sumIn 41 = .ok (.iadd, 1) := by decide +kernel
theorem d_Lo_sumIn_42 : decode b_Lo_sumIn 42 = .ok (.istore 6, 2) := by decide +kernel
theorem d_Lo_sumIn_44 : decode b_Lo_sumIn 44 = .ok (.iload_n 3, 1) := by decide +kernel
theorem d_Lo_sumIn_45 : decode b_Lo_sumIn 45 = .ok (.iload 5, 2) := by decide +kernel
theorem d_Lo_sumIn_47 : decode b_Lo_sumIn 47 = .ok (.iadd, 1) := by decide +kernel
theorem d_Lo_sumIn_48 : decode b_Lo_sumIn 48 = .ok (.aload_n 0, 1) := by decide +kernel
theorem d_Lo_sumIn_49 : decode b_Lo_sumIn 49 = .ok (.getfield 9, 3) := by decide +kernel
theorem d_Lo_sumIn_52 : decode b_Lo_sumIn 52 = .ok (.iconst 1, 1) := by decide +kernel
theorem d_Lo_sumIn_53 : decode b_Lo_sumIn 53 = .ok (.iadd, 1) := by decide +kernel
theorem d_Lo_sumIn_54 : decode b_Lo_sumIn 54 = .ok (.imul, 1) := by decide +kernel
theorem d_Lo_sumIn_55 : decode b_Lo_sumIn 55 = .ok (.iload_n 2, 1) := by decide +kernel
theorem d_Lo_sumIn_56 : decode b_Lo_sumIn 56 = .ok (.iadd, 1) := by decide +kernel
theorem d_Lo_sumIn_57 : decode b_Lo_sumIn 57 = .ok (.istore 7, 2) := by decide +kernel
theorem d_Lo_sumIn_59 : decode b_Lo_sumIn 59 = .ok (.aload_n 1, 1) := by decide +kernel
theorem d_Lo_sumIn_60 : decode b_Lo_sumIn 60 = .ok (.iload 7, 2) := by decide +kernel
theorem d_Lo_sumIn_62 : decode b_Lo_sumIn 62 = .ok (.iload 4, 2) := by decide +kernel
theorem d_Lo_sumIn_64 : decode b_Lo_sumIn 64 = .ok (.iadd, 1) := by decide +kernel
theorem d_Lo_sumIn_65 : decode b_Lo_sumIn 65 = .ok (.iaload, 1) := by decide +kernel
theorem d_Lo_sumIn_66 : decode b_Lo_sumIn 66 = .ok (.aload_n 1, 1) := by decide +kernel
theorem d_Lo_sumIn_67 : decode b_Lo_sumIn 67 = .ok (.iload 7, 2) := by decide +kernel
theorem d_Lo_sumIn_69 : decode b_Lo_sumIn 69 = .ok (.iaload, 1) := by decide +kernel
theorem d_Lo_sumIn_70 : decode b_Lo_sumIn 70 = .ok (.isub, 1) := by decide +kernel
theorem d_Lo_sumIn_71 : decode b_Lo_sumIn 71 = .ok (.aload_n 1, 1) := by decide +kernel
theorem d_Lo_sumIn_72 : decode b_Lo_sumIn 72 = .ok (.iload 6, 2) := by decide +kernel
theorem d_Lo_sumIn_74 : decode b_Lo_sumIn 74 = .ok (.iload 4, 2) := by decide +kernel
theorem d_Lo_sumIn_76 : decode b_Lo_sumIn 76 = .ok (.iadd, 1) := by decide +kernel
theorem d_Lo_sumIn_77 : decode b_Lo_sumIn 77 = .ok (.iaload, 1) := by decide +kernel
theorem d_Lo_sumIn_78 : decode b_Lo_sumIn 78 = .ok (.isub, 1) := by decide +kernel
theorem d_Lo_sumIn_79 : decode b_Lo_sumIn 79 = .ok (.aload_n 1, 1) := by decide +kernel
theorem d_Lo_sumIn_80 : decode b_Lo_sumIn 80 = .ok (.iload 6, 2) := by decide +kernel
theorem d_Lo_sumIn_82 : decode b_Lo_sumIn 82 = .ok (.iaload, 1) := by decide +kernel
theorem d_Lo_sumIn_83 : decode b_Lo_sumIn 83 = .ok (.iadd, 1) := by decide +kernel
theorem d_Lo_sumIn_84 : decode b_Lo_sumIn 84 = .ok (.ireturn, 1) := by decide +kernel
set_option maxHeartbeats 4000000 in
set_option maxRecDepth 100000 in
theorem c_isWithin (l : Launch) (D : va_G) (cI cJ cZ : ClassId) (x : Int32) (a : Int32) (b : Int32) (zx : Int) (za : Int) (zb : Int) (ex : x.toInt = zx) (ea : a.toInt = za) (eb : b.toInt = zb) : kRead l y_SG_isWithin w_SG_isWithin ({ frames := 0, cells := 0, slots := 0, locals := 0 }) D vwCl (tyL cI cJ cZ) [] [.int x, .int a, .int b] (.int (pI (za ≤ zx ∧ zx ≤ zb))) := by
  refine Met.ofW (cc := b_SG_isWithin) (maxL := 3) (ret := (some (.boolean))) (by decide) rfl ?_
  intro p e s m args below meth c s₁ B hml hv
  obtain ⟨rfl, hP, hK, hZ⟩ := hv
  have hx := B.exec
  have hb := B.bytes
  have hr := B.returns
  have hts := atoms_spec (ws := w_SG_isWithin) B.pre
  have hown : s.vm.findClass R_SG = some m.cls := findClass_of_methodNamed B.named
  have hlocks := B.notSynchronized
  have hP : va_P D vwCl [] s.heap := hP
  have hl := lv_entry ([.int x, .int a, .int b]) (n := 3) (Nat.le_of_ble_eq_true rfl)
  rw [lg_entry_eq]
  generalize (lg_sl ([.int x, .int a, .int b]) ++ List.replicate (3 - (lg_sl ([.int x, .int a, .int b])).length) Slot.unset).toArray = ls at hl ⊢
  have hl : lv_has ls 3 [(0, .int x), (1, .int a), (2, .int b)] := hl
  refine lv_iload_n hx hb d_SG_isWithin_0 rfl (lv_at hl 0 rfl) ?_
  refine lv_iload_n hx hb d_SG_isWithin_1 rfl (lv_at hl 1 rfl) ?_
  refine kb_clt (tgt := 14) rfl rfl hx hb d_SG_isWithin_2 (by decide) (fun c_2 => ?_) (fun c_2 => ?_)
  · refine lv_iconst (v := nI 0) hx hb d_SG_isWithin_14 (by decide +kernel) ?_
    refine ka_i (y := pI (za ≤ zx ∧ zx ≤ zb)) (pI_z (fun h => by omega)) ?_
    exact krdz (pI_narrow _) hx hb hr hlocks d_SG_isWithin_15
  · refine lv_iload_n hx hb d_SG_isWithin_5 rfl (lv_at hl 0 rfl) ?_
    refine lv_iload_n hx hb d_SG_isWithin_6 rfl (lv_at hl 2 rfl) ?_
    refine kb_cgt (tgt := 14) rfl rfl hx hb d_SG_isWithin_7 (by decide) (fun c_7 => ?_) (fun c_7 => ?_)
    · refine lv_iconst (v := nI 0) hx hb d_SG_isWithin_14 (by decide +kernel) ?_
      refine ka_i (y := pI (za ≤ zx ∧ zx ≤ zb)) (pI_z (fun h => by omega)) ?_
      exact krdz (pI_narrow _) hx hb hr hlocks d_SG_isWithin_15
    · refine lv_iconst (v := nI 1) hx hb d_SG_isWithin_10 (by decide +kernel) ?_
      refine lv_goto (tgt := 15) hx hb d_SG_isWithin_11 (by decide) ?_
      refine ka_i (y := pI (za ≤ zx ∧ zx ≤ zb)) (pI_1 (by omega)) ?_
      exact krdz (pI_narrow _) hx hb hr hlocks d_SG_isWithin_15
set_option maxHeartbeats 4000000 in
set_option maxRecDepth 100000 in
theorem c_isEnd (l : Launch) (D : va_G) (cI cJ cZ : ClassId) (x : Int32)  : kRead l y_SG_isEnd w_SG_isEnd ({ frames := 1, cells := 0, slots := 0, locals := 22 }) D vwCl (tyL cI cJ cZ) [] [.int x] (.int (pI (0 ≤ x.toInt ∧ x.toInt ≤ 1))) := by
  refine Met.ofW (cc := b_SG_isEnd) (maxL := 1) (ret := (some (.boolean))) (by decide) rfl ?_
  intro p e s m args below meth c s₁ B hml hv
  obtain ⟨rfl, hP, hK, hZ⟩ := hv
  have hx := B.exec
  have hb := B.bytes
  have hr := B.returns
  have hts := atoms_spec (ws := w_SG_isEnd) B.pre
  have hown : s.vm.findClass R_SG = some m.cls := findClass_of_methodNamed B.named
  have hlocks := B.notSynchronized
  have hP : va_P D vwCl [] s.heap := hP
  have hl := lv_entry ([.int x]) (n := 1) (Nat.le_of_ble_eq_true rfl)
  rw [lg_entry_eq]
  generalize (lg_sl ([.int x]) ++ List.replicate (1 - (lg_sl ([.int x])).length) Slot.unset).toArray = ls at hl ⊢
  have hl : lv_has ls 1 [(0, .int x)] := hl
  refine lv_iload_n hx hb d_SG_isEnd_0 rfl (lv_at hl 0 rfl) ?_
  refine lv_iconst (v := nI 0) hx hb d_SG_isEnd_1 (by decide +kernel) ?_
  refine lv_iconst (v := nI 1) hx hb d_SG_isEnd_2 (by decide +kernel) ?_
  refine kcallR (r := .int (pI (((0 : Nat) : Int) ≤ x.toInt ∧ x.toInt ≤ ((1 : Nat) : Int)))) (va_runS (As := [.int x, .int (nI 0), .int (nI 1)]) (rest := []) ⟨hx, hb, hml, hown, hts⟩ (c_isWithin l D cI cJ cZ x (nI 0) (nI 1) x.toInt ((0 : Nat) : Int) ((1 : Nat) : Int) rfl (nI_t (by omega)) (nI_t (by omega))) ⟨callB_of 3 hts (gd kc_SG_isWithin) rfl rfl rfl (hts _ (List.mem_cons_of_mem _ k_1)) (hts _ (List.mem_cons_of_mem _ k_313)) (by decide +kernel) ⟨Nat.le_of_ble_eq_true rfl, Nat.le_of_ble_eq_true rfl⟩, hts _ (List.mem_cons_of_mem _ k_280)⟩ ⟨kR_blind, kR_at hP hK hZ [] rfl⟩ rfl rfl hl.1 rfl (lv_room (Nat.le_of_ble_eq_true rfl)) d_SG_isEnd_3 ⟨Nat.zero_le _, Nat.zero_le _⟩) ?_
  refine ka_i (y := pI (0 ≤ x.toInt ∧ x.toInt ≤ 1)) (pI_iff (by omega)) ?_
  exact krdz (pI_narrow _) hx hb hr hlocks d_SG_isEnd_6
set_option maxHeartbeats 4000000 in
set_option maxRecDepth 100000 in
theorem c_isTurn (l : Launch) (D : va_G) (cI cJ cZ : ClassId) (x : Int32)  : kRead l y_SG_isTurn w_SG_isTurn ({ frames := 1, cells := 0, slots := 0, locals := 22 }) D vwCl (tyL cI cJ cZ) [] [.int x] (.int (pI (0 ≤ x.toInt ∧ x.toInt ≤ 1))) := by
  refine Met.ofW (cc := b_SG_isTurn) (maxL := 1) (ret := (some (.boolean))) (by decide) rfl ?_
  intro p e s m args below meth c s₁ B hml hv
  obtain ⟨rfl, hP, hK, hZ⟩ := hv
  have hx := B.exec
  have hb := B.bytes
  have hr := B.returns
  have hts := atoms_spec (ws := w_SG_isTurn) B.pre
  have hown : s.vm.findClass R_SG = some m.cls := findClass_of_methodNamed B.named
  have hlocks := B.notSynchronized
  have hP : va_P D vwCl [] s.heap := hP
  have hl := lv_entry ([.int x]) (n := 1) (Nat.le_of_ble_eq_true rfl)
  rw [lg_entry_eq]
  generalize (lg_sl ([.int x]) ++ List.replicate (1 - (lg_sl ([.int x])).length) Slot.unset).toArray = ls at hl ⊢
  have hl : lv_has ls 1 [(0, .int x)] := hl
  refine lv_iload_n hx hb d_SG_isTurn_0 rfl (lv_at hl 0 rfl) ?_
  refine lv_iconst (v := nI 0) hx hb d_SG_isTurn_1 (by decide +kernel) ?_
  refine lv_iconst (v := nI 1) hx hb d_SG_isTurn_2 (by decide +kernel) ?_
  refine kcallR (r := .int (pI (((0 : Nat) : Int) ≤ x.toInt ∧ x.toInt ≤ ((1 : Nat) : Int)))) (va_runS (As := [.int x, .int (nI 0), .int (nI 1)]) (rest := []) ⟨hx, hb, hml, hown, hts⟩ (c_isWithin l D cI cJ cZ x (nI 0) (nI 1) x.toInt ((0 : Nat) : Int) ((1 : Nat) : Int) rfl (nI_t (by omega)) (nI_t (by omega))) ⟨callB_of 3 hts (gd kc_SG_isWithin) rfl rfl rfl (hts _ (List.mem_cons_of_mem _ k_1)) (hts _ (List.mem_cons_of_mem _ k_313)) (by decide +kernel) ⟨Nat.le_of_ble_eq_true rfl, Nat.le_of_ble_eq_true rfl⟩, hts _ (List.mem_cons_of_mem _ k_280)⟩ ⟨kR_blind, kR_at hP hK hZ [] rfl⟩ rfl rfl hl.1 rfl (lv_room (Nat.le_of_ble_eq_true rfl)) d_SG_isTurn_3 ⟨Nat.zero_le _, Nat.zero_le _⟩) ?_
  refine ka_i (y := pI (0 ≤ x.toInt ∧ x.toInt ≤ 1)) (pI_iff (by omega)) ?_
  exact krdz (pI_narrow _) hx hb hr hlocks d_SG_isTurn_6
set_option maxHeartbeats 4000000 in
set_option maxRecDepth 100000 in
theorem c_isCell (l : Launch) (D : va_G) (cI cJ cZ : ClassId) (h0 : Nat) (side : Nat) (a1 : Nat) (a2 : Nat) (a3 : Nat) (a4 : Nat) (sm : Prop) (x : Int32) (y : Int32) (s1 : 1 ≤ side) (s2 : side ≤ 20) : kRead l y_Lo_isCell w_Lo_isCell ({ frames := 1, cells := 0, slots := 0, locals := 22 }) D vwCl (tyL cI cJ cZ) [(h0, .inr (3, [.int (nI side), .ref a1, .ref a2, .ref a3, .ref a4, .int (pI sm)]))] [.ref h0, .int x, .int y] (.int (pI ((0 ≤ x.toInt ∧ x.toInt < (side : Int)) ∧ 0 ≤ y.toInt ∧ y.toInt < (side : Int)))) := by
  refine Met.ofW (cc := b_Lo_isCell) (maxL := 3) (ret := (some (.boolean))) (by decide) rfl ?_
  intro p e s m args below meth c s₁ B hml hv
  obtain ⟨rfl, hP, hK, hZ⟩ := hv
  have hx := B.exec
  have hb := B.bytes
  have hr := B.returns
  have hts := atoms_spec (ws := w_Lo_isCell) B.pre
  have hown : s.vm.findClass R_Lo = some m.cls := findClass_of_methodNamed B.named
  have hlocks := B.notSynchronized
  have hP : va_P D vwCl [(h0, .inr (3, [.int (nI side), .ref a1, .ref a2, .ref a3, .ref a4, .int (pI sm)]))] s.heap := hP
  have hl := lv_entry ([.ref h0, .int x, .int y]) (n := 3) (Nat.le_of_ble_eq_true rfl)
  rw [lg_entry_eq]
  generalize (lg_sl ([.ref h0, .int x, .int y]) ++ List.replicate (3 - (lg_sl ([.ref h0, .int x, .int y])).length) Slot.unset).toArray = ls at hl ⊢
  have hl : lv_has ls 3 [(0, .ref h0), (1, .int x), (2, .int y)] := hl
  refine lv_iload_n hx hb d_Lo_isCell_0 rfl (lv_at hl 1 rfl) ?_
  refine lv_iconst (v := nI 0) hx hb d_Lo_isCell_1 (by decide +kernel) ?_
  refine lv_aload_n hx hb d_Lo_isCell_2 rfl (lv_at hl 0 rfl) ?_
  refine va_get (D := D) (ci := 3) (v := .int (nI side)) (C := R_Lo) (T := T_Lo) (N := 6) hx hb hts (fun w h => List.mem_cons_of_mem _ (iw_Lo w h)) hown hK hP 0 rfl rfl 0 (by decide) (hts _ (List.mem_cons_of_mem _ k_35)) (fun _ h9 => h9) rfl d_Lo_isCell_3 ?_
  refine lv_iconst (v := nI 1) hx hb d_Lo_isCell_6 (by decide +kernel) ?_
  refine lv_isub hx hb d_Lo_isCell_7 ?_
  refine ka_i (y := nI (side - 1)) (pk_sub (by omega)) ?_
  refine kcallR (r := .int (pI (((0 : Nat) : Int) ≤ x.toInt ∧ x.toInt ≤ ((side - 1 : Nat) : Int)))) (va_runSN (As := [.int x, .int (nI 0), .int (nI (side - 1))]) (rest := []) ⟨hx, hb, hml, hown, hts⟩ (c_isWithin l D cI cJ cZ x (nI 0) (nI (side - 1)) x.toInt ((0 : Nat) : Int) ((side - 1 : Nat) : Int) rfl (nI_t (by omega)) (nI_t (by omega))) ⟨va_cnB 3 hts (gd kc_SG_isWithin) rfl rfl rfl (hZ _ kn_318) (hts _ (List.mem_cons_of_mem _ k_1)) (by decide +kernel) ⟨Nat.le_of_ble_eq_true rfl, Nat.le_of_ble_eq_true rfl⟩, hts _ (List.mem_cons_of_mem _ k_280), trivial⟩ ⟨kR_blind, kR_at hP hK hZ [] rfl⟩ rfl rfl hl.1 rfl (lv_room (Nat.le_of_ble_eq_true rfl)) d_Lo_isCell_8 ⟨Nat.zero_le _, Nat.zero_le _⟩) ?_
  refine kb_eqP (tgt := 32) hx hb d_Lo_isCell_11 (by decide) (fun c_11 => ?_) (fun c_11 => ?_)
  · refine lv_iconst (v := nI 0) hx hb d_Lo_isCell_32 (by decide +kernel) ?_
    refine ka_i (y := pI ((0 ≤ x.toInt ∧ x.toInt < (side : Int)) ∧ 0 ≤ y.toInt ∧ y.toInt < (side : Int))) (pI_z (fun h => by omega)) ?_
    exact krdz (pI_narrow _) hx hb hr hlocks d_Lo_isCell_33
  · refine lv_iload_n hx hb d_Lo_isCell_14 rfl (lv_at hl 2 rfl) ?_
    refine lv_iconst (v := nI 0) hx hb d_Lo_isCell_15 (by decide +kernel) ?_
    refine lv_aload_n hx hb d_Lo_isCell_16 rfl (lv_at hl 0 rfl) ?_
    refine va_get (D := D) (ci := 3) (v := .int (nI side)) (C := R_Lo) (T := T_Lo) (N := 6) hx hb hts (fun w h => List.mem_cons_of_mem _ (iw_Lo w h)) hown hK hP 0 rfl rfl 0 (by decide) (hts _ (List.mem_cons_of_mem _ k_35)) (fun _ h9 => h9) rfl d_Lo_isCell_17 ?_
    refine lv_iconst (v := nI 1) hx hb d_Lo_isCell_20 (by decide +kernel) ?_
    refine lv_isub hx hb d_Lo_isCell_21 ?_
    refine ka_i (y := nI (side - 1)) (pk_sub (by omega)) ?_
    refine kcallR (r := .int (pI (((0 : Nat) : Int) ≤ y.toInt ∧ y.toInt ≤ ((side - 1 : Nat) : Int)))) (va_runSN (As := [.int y, .int (nI 0), .int (nI (side - 1))]) (rest := []) ⟨hx, hb, hml, hown, hts⟩ (c_isWithin l D cI cJ cZ y (nI 0) (nI (side - 1)) y.toInt ((0 : Nat) : Int) ((side - 1 : Nat) : Int) rfl (nI_t (by omega)) (nI_t (by omega))) ⟨va_cnB 3 hts (gd kc_SG_isWithin) rfl rfl rfl (hZ _ kn_318) (hts _ (List.mem_cons_of_mem _ k_1)) (by decide +kernel) ⟨Nat.le_of_ble_eq_true rfl, Nat.le_of_ble_eq_true rfl⟩, hts _ (List.mem_cons_of_mem _ k_280), trivial⟩ ⟨kR_blind, kR_at hP hK hZ [] rfl⟩ rfl rfl hl.1 rfl (lv_room (Nat.le_of_ble_eq_true rfl)) d_Lo_isCell_22 ⟨Nat.zero_le _, Nat.zero_le _⟩) ?_
    refine kb_eqP (tgt := 32) hx hb d_Lo_isCell_25 (by decide) (fun c_25 => ?_) (fun c_25 => ?_)
    · refine lv_iconst (v := nI 0) hx hb d_Lo_isCell_32 (by decide +kernel) ?_
      refine ka_i (y := pI ((0 ≤ x.toInt ∧ x.toInt < (side : Int)) ∧ 0 ≤ y.toInt ∧ y.toInt < (side : Int))) (pI_z (fun h => by omega)) ?_
      exact krdz (pI_narrow _) hx hb hr hlocks d_Lo_isCell_33
    · refine lv_iconst (v := nI 1) hx hb d_Lo_isCell_28 (by decide +kernel) ?_
      refine lv_goto (tgt := 33) hx hb d_Lo_isCell_29 (by decide) ?_
      refine ka_i (y := pI ((0 ≤ x.toInt ∧ x.toInt < (side : Int)) ∧ 0 ≤ y.toInt ∧ y.toInt < (side : Int))) (pI_1 (by omega)) ?_
      exact krdz (pI_narrow _) hx hb hr hlocks d_Lo_isCell_33
set_option maxHeartbeats 4000000 in
set_option maxRecDepth 100000 in
theorem c_has (l : Launch) (D : va_G) (cI cJ cZ : ClassId) (hz : Nat) (t1 : Nat) (t2 : Nat) (t3 : Nat) (t4 : Nat) (cn : Nat) (x : Int32) (n1 : cn ≤ 8) : kRead l y_Si_has w_Si_has ({ frames := 1, cells := 0, slots := 0, locals := 22 }) D vwCl (tyL cI cJ cZ) [(hz, .inr (5, [.ref t1, .ref t2, .ref t3, .ref t4, .int (nI cn)]))] [.ref hz, .int x] (.int (pI (0 ≤ x.toInt ∧ x.toInt < (cn : Int)))) := by
  refine Met.ofW (cc := b_Si_has) (maxL := 2) (ret := (some (.boolean))) (by decide) rfl ?_
  intro p e s m args below meth c s₁ B hml hv
  obtain ⟨rfl, hP, hK, hZ⟩ := hv
  have hx := B.exec
  have hb := B.bytes
  have hr := B.returns
  have hts := atoms_spec (ws := w_Si_has) B.pre
  have hown : s.vm.findClass R_Si = some m.cls := findClass_of_methodNamed B.named
  have hlocks := B.notSynchronized
  have hP : va_P D vwCl [(hz, .inr (5, [.ref t1, .ref t2, .ref t3, .ref t4, .int (nI cn)]))] s.heap := hP
  have hl := lv_entry ([.ref hz, .int x]) (n := 2) (Nat.le_of_ble_eq_true rfl)
  rw [lg_entry_eq]
  generalize (lg_sl ([.ref hz, .int x]) ++ List.replicate (2 - (lg_sl ([.ref hz, .int x])).length) Slot.unset).toArray = ls at hl ⊢
  have hl : lv_has ls 2 [(0, .ref hz), (1, .int x)] := hl
  refine lv_iload_n hx hb d_Si_has_0 rfl (lv_at hl 1 rfl) ?_
  refine lv_iconst (v := nI 0) hx hb d_Si_has_1 (by decide +kernel) ?_
  refine lv_aload_n hx hb d_Si_has_2 rfl (lv_at hl 0 rfl) ?_
  refine va_get (D := D) (ci := 5) (v := .int (nI cn)) (C := R_Si) (T := T_Si) (N := 5) hx hb hts (fun w h => List.mem_cons_of_mem _ (iw_Si w h)) hown hK hP 0 rfl rfl 4 (by decide) (hts _ (List.mem_cons_of_mem _ k_73)) (fun _ h9 => h9) rfl d_Si_has_3 ?_
  refine lv_iconst (v := nI 1) hx hb d_Si_has_6 (by decide +kernel) ?_
  refine lv_isub hx hb d_Si_has_7 ?_
  refine ka_i (y := iI (((cn : Nat) : Int) - ((1 : Nat) : Int))) (by rw [iI_of cn, iI_of 1]; exact iI_sub _ _) ?_
  refine kcallR (r := .int (pI (((0 : Nat) : Int) ≤ x.toInt ∧ x.toInt ≤ (((cn : Nat) : Int) - ((1 : Nat) : Int))))) (va_runSN (As := [.int x, .int (nI 0), .int (iI (((cn : Nat) : Int) - ((1 : Nat) : Int)))]) (rest := []) ⟨hx, hb, hml, hown, hts⟩ (c_isWithin l D cI cJ cZ x (nI 0) (iI (((cn : Nat) : Int) - ((1 : Nat) : Int))) x.toInt ((0 : Nat) : Int) (((cn : Nat) : Int) - ((1 : Nat) : Int)) rfl (nI_t (by omega)) (iI_t (by omega) (by omega))) ⟨va_cnB 3 hts (gd kc_SG_isWithin) rfl rfl rfl (hZ _ kn_279) (hts _ (List.mem_cons_of_mem _ k_1)) (by decide +kernel) ⟨Nat.le_of_ble_eq_true rfl, Nat.le_of_ble_eq_true rfl⟩, hts _ (List.mem_cons_of_mem _ k_280), trivial⟩ ⟨kR_blind, kR_at hP hK hZ [] rfl⟩ rfl rfl hl.1 rfl (lv_room (Nat.le_of_ble_eq_true rfl)) d_Si_has_8 ⟨Nat.zero_le _, Nat.zero_le _⟩) ?_
  refine ka_i (y := pI (0 ≤ x.toInt ∧ x.toInt < (cn : Int))) (pI_iff (by omega)) ?_
  exact krdz (pI_narrow _) hx hb hr hlocks d_Si_has_11
set_option maxHeartbeats 4000000 in
set_option maxRecDepth 100000 in
theorem c_alongX (l : Launch) (D : va_G) (cI cJ cZ : ClassId) (hz : Nat) (t1 : Nat) (t2 : Nat) (t3 : Nat) (t4 : Nat) (cn : Nat) (th : Nat → Nat) (wi : Nat → Nat) (i : Nat) (tn : Int32) (tz : Int) (i8 : i < 8) (et : tn.toInt = tz) : kRead l y_Si_alongX w_Si_alongX ({ frames := 0, cells := 0, slots := 0, locals := 0 }) D vwCl (tyL cI cJ cZ) [(hz, .inr (5, [.ref t1, .ref t2, .ref t3, .ref t4, .int (nI cn)])), (t1, .inl (cI, 8, .inl (fun j => nI (th j)))), (t2, .inl (cI, 8, .inl (fun j => nI (wi j))))] [.ref hz, .int (nI i), .int tn] (.int (nI (if tz = 0 then wi i else th i))) := by
  refine Met.ofW (cc := b_Si_alongX) (maxL := 3) (ret := (some (.int))) (by decide) rfl ?_
  intro p e s m args below meth c s₁ B hml hv
  obtain ⟨rfl, hP, hK, hZ⟩ := hv
  have hx := B.exec
  have hb := B.bytes
  have hr := B.returns
  have hts := atoms_spec (ws := w_Si_alongX) B.pre
  have hown : s.vm.findClass R_Si = some m.cls := findClass_of_methodNamed B.named
  have hlocks := B.notSynchronized
  have hP : va_P D vwCl [(hz, .inr (5, [.ref t1, .ref t2, .ref t3, .ref t4, .int (nI cn)])), (t1, .inl (cI, 8, .inl (fun j => nI (th j)))), (t2, .inl (cI, 8, .inl (fun j => nI (wi j))))] s.heap := hP
  have hl := lv_entry ([.ref hz, .int (nI i), .int tn]) (n := 3) (Nat.le_of_ble_eq_true rfl)
  rw [lg_entry_eq]
  generalize (lg_sl ([.ref hz, .int (nI i), .int tn]) ++ List.replicate (3 - (lg_sl ([.ref hz, .int (nI i), .int tn])).length) Slot.unset).toArray = ls at hl ⊢
  have hl : lv_has ls 3 [(0, .ref hz), (1, .int (nI i)), (2, .int tn)] := hl
  refine lv_iload_n hx hb d_Si_alongX_0 rfl (lv_at hl 2 rfl) ?_
  refine kb_ne (tgt := 13) rfl hx hb d_Si_alongX_1 (by decide) (fun c_1 => ?_) (fun c_1 => ?_)
  · refine lv_aload_n hx hb d_Si_alongX_13 rfl (lv_at hl 0 rfl) ?_
    refine va_get (D := D) (ci := 5) (v := .ref t1) (C := R_Si) (T := T_Si) (N := 5) hx hb hts (fun w h => List.mem_cons_of_mem _ (iw_Si w h)) hown hK hP 0 rfl rfl 0 (by decide) (hts _ (List.mem_cons_of_mem _ k_65)) (fun _ h9 => h9) rfl d_Si_alongX_14 ?_
    refine lv_iload_n hx hb d_Si_alongX_17 rfl (lv_at hl 1 rfl) ?_
    refine ka_iald (k := i) (n := 8) (f := fun j => nI (th j)) (nI_t (by omega)) (by omega) hx hb hK hP 1 0 rfl rfl d_Si_alongX_18 ?_
    refine ka_i (y := nI (if tz = 0 then wi i else th i)) (by rw [if_neg (by omega)]) ?_
    exact krdi hx hb hr hlocks d_Si_alongX_19
  · refine lv_aload_n hx hb d_Si_alongX_4 rfl (lv_at hl 0 rfl) ?_
    refine va_get (D := D) (ci := 5) (v := .ref t2) (C := R_Si) (T := T_Si) (N := 5) hx hb hts (fun w h => List.mem_cons_of_mem _ (iw_Si w h)) hown hK hP 0 rfl rfl 1 (by decide) (hts _ (List.mem_cons_of_mem _ k_67)) (fun _ h9 => h9) rfl d_Si_alongX_5 ?_
    refine lv_iload_n hx hb d_Si_alongX_8 rfl (lv_at hl 1 rfl) ?_
    refine ka_iald (k := i) (n := 8) (f := fun j => nI (wi j)) (nI_t (by omega)) (by omega) hx hb hK hP 2 0 rfl rfl d_Si_alongX_9 ?_
    refine lv_goto (tgt := 19) hx hb d_Si_alongX_10 (by decide) ?_
    refine ka_i (y := nI (if tz = 0 then wi i else th i)) (by rw [if_pos (by omega)]) ?_
    exact krdi hx hb hr hlocks d_Si_alongX_19
set_option maxHeartbeats 4000000 in
set_option maxRecDepth 100000 in
theorem c_alongY (l : Launch) (D : va_G) (cI cJ cZ : ClassId) (hz : Nat) (t1 : Nat) (t2 : Nat) (t3 : Nat) (t4 : Nat) (cn : Nat) (th : Nat → Nat) (wi : Nat → Nat) (i : Nat) (tn : Int32) (tz : Int) (i8 : i < 8) (et : tn.toInt = tz) : kRead l y_Si_alongY w_Si_alongY ({ frames := 0, cells := 0, slots := 0, locals := 0 }) D vwCl (tyL cI cJ cZ) [(hz, .inr (5, [.ref t1, .ref t2, .ref t3, .ref t4, .int (nI cn)])), (t1, .inl (cI, 8, .inl (fun j => nI (th j)))), (t2, .inl (cI, 8, .inl (fun j => nI (wi j))))] [.ref hz, .int (nI i), .int tn] (.int (nI (if tz = 0 then th i else wi i))) := by
  refine Met.ofW (cc := b_Si_alongY) (maxL := 3) (ret := (some (.int))) (by decide) rfl ?_
  intro p e s m args below meth c s₁ B hml hv
  obtain ⟨rfl, hP, hK, hZ⟩ := hv
  have hx := B.exec
  have hb := B.bytes
  have hr := B.returns
  have hts := atoms_spec (ws := w_Si_alongY) B.pre
  have hown : s.vm.findClass R_Si = some m.cls := findClass_of_methodNamed B.named
  have hlocks := B.notSynchronized
  have hP : va_P D vwCl [(hz, .inr (5, [.ref t1, .ref t2, .ref t3, .ref t4, .int (nI cn)])), (t1, .inl (cI, 8, .inl (fun j => nI (th j)))), (t2, .inl (cI, 8, .inl (fun j => nI (wi j))))] s.heap := hP
  have hl := lv_entry ([.ref hz, .int (nI i), .int tn]) (n := 3) (Nat.le_of_ble_eq_true rfl)
  rw [lg_entry_eq]
  generalize (lg_sl ([.ref hz, .int (nI i), .int tn]) ++ List.replicate (3 - (lg_sl ([.ref hz, .int (nI i), .int tn])).length) Slot.unset).toArray = ls at hl ⊢
  have hl : lv_has ls 3 [(0, .ref hz), (1, .int (nI i)), (2, .int tn)] := hl
  refine lv_iload_n hx hb d_Si_alongY_0 rfl (lv_at hl 2 rfl) ?_
  refine kb_ne (tgt := 13) rfl hx hb d_Si_alongY_1 (by decide) (fun c_1 => ?_) (fun c_1 => ?_)
  · refine lv_aload_n hx hb d_Si_alongY_13 rfl (lv_at hl 0 rfl) ?_
    refine va_get (D := D) (ci := 5) (v := .ref t2) (C := R_Si) (T := T_Si) (N := 5) hx hb hts (fun w h => List.mem_cons_of_mem _ (iw_Si w h)) hown hK hP 0 rfl rfl 1 (by decide) (hts _ (List.mem_cons_of_mem _ k_67)) (fun _ h9 => h9) rfl d_Si_alongY_14 ?_
    refine lv_iload_n hx hb d_Si_alongY_17 rfl (lv_at hl 1 rfl) ?_
    refine ka_iald (k := i) (n := 8) (f := fun j => nI (wi j)) (nI_t (by omega)) (by omega) hx hb hK hP 2 0 rfl rfl d_Si_alongY_18 ?_
    refine ka_i (y := nI (if tz = 0 then th i else wi i)) (by rw [if_neg (by omega)]) ?_
    exact krdi hx hb hr hlocks d_Si_alongY_19
  · refine lv_aload_n hx hb d_Si_alongY_4 rfl (lv_at hl 0 rfl) ?_
    refine va_get (D := D) (ci := 5) (v := .ref t1) (C := R_Si) (T := T_Si) (N := 5) hx hb hts (fun w h => List.mem_cons_of_mem _ (iw_Si w h)) hown hK hP 0 rfl rfl 0 (by decide) (hts _ (List.mem_cons_of_mem _ k_65)) (fun _ h9 => h9) rfl d_Si_alongY_5 ?_
    refine lv_iload_n hx hb d_Si_alongY_8 rfl (lv_at hl 1 rfl) ?_
    refine ka_iald (k := i) (n := 8) (f := fun j => nI (th j)) (nI_t (by omega)) (by omega) hx hb hK hP 1 0 rfl rfl d_Si_alongY_9 ?_
    refine lv_goto (tgt := 19) hx hb d_Si_alongY_10 (by decide) ?_
    refine ka_i (y := nI (if tz = 0 then th i else wi i)) (by rw [if_pos (by omega)]) ?_
    exact krdi hx hb hr hlocks d_Si_alongY_19
set_option maxHeartbeats 4000000 in
set_option maxRecDepth 100000 in
theorem c_xAt (l : Launch) (D : va_G) (cI cJ cZ : ClassId) (hb_ : Nat) (bo : Nat) (hz : Nat) (side : Nat) (kf : Nat) (tn : Nat) (r1 : Nat) (r2 : Nat) (r3 : Nat) (r4 : Nat) (row : Nat) (col : Nat) (tn1 : tn ≤ 1) : kRead l y_Be_xAt w_Be_xAt ({ frames := 0, cells := 0, slots := 0, locals := 0 }) D vwCl (tyL cI cJ cZ) [(hb_, .inr (1, [.ref bo, .ref hz, .int (nI side), .int (nI kf), .int (nI tn), .ref r1, .ref r2, .ref r3, .ref r4]))] [.ref hb_, .int (nI row), .int (nI col)] (.int (nI (if tn = 0 then col else row))) := by
  refine Met.ofW (cc := b_Be_xAt) (maxL := 3) (ret := (some (.int))) (by decide) rfl ?_
  intro p e s m args below meth c s₁ B hml hv
  obtain ⟨rfl, hP, hK, hZ⟩ := hv
  have hx := B.exec
  have hb := B.bytes
  have hr := B.returns
  have hts := atoms_spec (ws := w_Be_xAt) B.pre
  have hown : s.vm.findClass R_Be = some m.cls := findClass_of_methodNamed B.named
  have hlocks := B.notSynchronized
  have hP : va_P D vwCl [(hb_, .inr (1, [.ref bo, .ref hz, .int (nI side), .int (nI kf), .int (nI tn), .ref r1, .ref r2, .ref r3, .ref r4]))] s.heap := hP
  have hl := lv_entry ([.ref hb_, .int (nI row), .int (nI col)]) (n := 3) (Nat.le_of_ble_eq_true rfl)
  rw [lg_entry_eq]
  generalize (lg_sl ([.ref hb_, .int (nI row), .int (nI col)]) ++ List.replicate (3 - (lg_sl ([.ref hb_, .int (nI row), .int (nI col)])).length) Slot.unset).toArray = ls at hl ⊢
  have hl : lv_has ls 3 [(0, .ref hb_), (1, .int (nI row)), (2, .int (nI col))] := hl
  refine lv_aload_n hx hb d_Be_xAt_0 rfl (lv_at hl 0 rfl) ?_
  refine va_get (D := D) (ci := 1) (v := .int (nI tn)) (C := R_Be) (T := T_Be) (N := 9) hx hb hts (fun w h => List.mem_cons_of_mem _ (iw_Be w h)) hown hK hP 0 rfl rfl 4 (by decide) (hts _ (List.mem_cons_of_mem _ k_111)) (fun _ h9 => h9) rfl d_Be_xAt_1 ?_
  refine kb_ne (tgt := 11) (nI_t (by omega)) hx hb d_Be_xAt_4 (by decide) (fun c_4 => ?_) (fun c_4 => ?_)
  · refine lv_iload_n hx hb d_Be_xAt_11 rfl (lv_at hl 1 rfl) ?_
    refine ka_i (y := nI (if tn = 0 then col else row)) (by rw [if_neg (by omega)]) ?_
    exact krdi hx hb hr hlocks d_Be_xAt_12
  · refine lv_iload_n hx hb d_Be_xAt_7 rfl (lv_at hl 2 rfl) ?_
    refine lv_goto (tgt := 12) hx hb d_Be_xAt_8 (by decide) ?_
    refine ka_i (y := nI (if tn = 0 then col else row)) (by rw [if_pos (by omega)]) ?_
    exact krdi hx hb hr hlocks d_Be_xAt_12
set_option maxHeartbeats 4000000 in
set_option maxRecDepth 100000 in
theorem c_yAt (l : Launch) (D : va_G) (cI cJ cZ : ClassId) (hb_ : Nat) (bo : Nat) (hz : Nat) (side : Nat) (kf : Nat) (tn : Nat) (r1 : Nat) (r2 : Nat) (r3 : Nat) (r4 : Nat) (row : Nat) (col : Nat) (tn1 : tn ≤ 1) : kRead l y_Be_yAt w_Be_yAt ({ frames := 0, cells := 0, slots := 0, locals := 0 }) D vwCl (tyL cI cJ cZ) [(hb_, .inr (1, [.ref bo, .ref hz, .int (nI side), .int (nI kf), .int (nI tn), .ref r1, .ref r2, .ref r3, .ref r4]))] [.ref hb_, .int (nI row), .int (nI col)] (.int (nI (if tn = 0 then row else col))) := by
  refine Met.ofW (cc := b_Be_yAt) (maxL := 3) (ret := (some (.int))) (by decide) rfl ?_
  intro p e s m args below meth c s₁ B hml hv
  obtain ⟨rfl, hP, hK, hZ⟩ := hv
  have hx := B.exec
  have hb := B.bytes
  have hr := B.returns
  have hts := atoms_spec (ws := w_Be_yAt) B.pre
  have hown : s.vm.findClass R_Be = some m.cls := findClass_of_methodNamed B.named
  have hlocks := B.notSynchronized
  have hP : va_P D vwCl [(hb_, .inr (1, [.ref bo, .ref hz, .int (nI side), .int (nI kf), .int (nI tn), .ref r1, .ref r2, .ref r3, .ref r4]))] s.heap := hP
  have hl := lv_entry ([.ref hb_, .int (nI row), .int (nI col)]) (n := 3) (Nat.le_of_ble_eq_true rfl)
  rw [lg_entry_eq]
  generalize (lg_sl ([.ref hb_, .int (nI row), .int (nI col)]) ++ List.replicate (3 - (lg_sl ([.ref hb_, .int (nI row), .int (nI col)])).length) Slot.unset).toArray = ls at hl ⊢
  have hl : lv_has ls 3 [(0, .ref hb_), (1, .int (nI row)), (2, .int (nI col))] := hl
  refine lv_aload_n hx hb d_Be_yAt_0 rfl (lv_at hl 0 rfl) ?_
  refine va_get (D := D) (ci := 1) (v := .int (nI tn)) (C := R_Be) (T := T_Be) (N := 9) hx hb hts (fun w h => List.mem_cons_of_mem _ (iw_Be w h)) hown hK hP 0 rfl rfl 4 (by decide) (hts _ (List.mem_cons_of_mem _ k_111)) (fun _ h9 => h9) rfl d_Be_yAt_1 ?_
  refine kb_ne (tgt := 11) (nI_t (by omega)) hx hb d_Be_yAt_4 (by decide) (fun c_4 => ?_) (fun c_4 => ?_)
  · refine lv_iload_n hx hb d_Be_yAt_11 rfl (lv_at hl 2 rfl) ?_
    refine ka_i (y := nI (if tn = 0 then row else col)) (by rw [if_neg (by omega)]) ?_
    exact krdi hx hb hr hlocks d_Be_yAt_12
  · refine lv_iload_n hx hb d_Be_yAt_7 rfl (lv_at hl 1 rfl) ?_
    refine lv_goto (tgt := 12) hx hb d_Be_yAt_8 (by decide) ?_
    refine ka_i (y := nI (if tn = 0 then row else col)) (by rw [if_pos (by omega)]) ?_
    exact krdi hx hb hr hlocks d_Be_yAt_12
set_option maxHeartbeats 4000000 in
set_option maxRecDepth 100000 in
theorem c_sumIn (l : Launch) (D : va_G) (cI cJ cZ : ClassId) (h0 : Nat) (side : Nat) (a1 : Nat) (a2 : Nat) (a3 : Nat) (a4 : Nat) (sm : Prop) (ab : Nat) (F : Nat → Nat) (f : Nat → Nat → Nat) (x : Int32) (y : Int32) (zx : Int) (zy : Int) (ax : Nat) (ay : Nat) (s2 : side ≤ 20) (hax : ax ≤ 20) (hay : ay ≤ 20) (ex : x.toInt = zx) (ey : y.toInt = zy) (hF : ∀ X Y, X ≤ side → Y ≤ side → F (Y * (side + 1) + X) = psm f X Y) (hf : ∀ i j, i < side → j < side → f i j ≤ 10000) : kRead l y_Lo_sumIn w_Lo_sumIn ({ frames := 0, cells := 0, slots := 0, locals := 0 }) D vwCl (tyL cI cJ cZ) [(h0, .inr (3, [.int (nI side), .ref a1, .ref a2, .ref a3, .ref a4, .int (pI sm)])), (ab, .inl (cI, ((side + 1) * (side + 1)), .inl (fun j => nI (F j))))] [.ref h0, .ref ab, .int x, .int y, .int (nI ax), .int (nI ay)] (.int (iI (sumZ f side zx zy ax ay))) := by
  refine Met.ofW (cc := b_Lo_sumIn) (maxL := 8) (ret := (some (.int))) (by decide) rfl ?_
  intro p e s m args below meth c s₁ B hml hv
  obtain ⟨rfl, hP, hK, hZ⟩ := hv
  have hx := B.exec
  have hb := B.bytes
  have hr := B.returns
  have hts := atoms_spec (ws := w_Lo_sumIn) B.pre
  have hown : s.vm.findClass R_Lo = some m.cls := findClass_of_methodNamed B.named
  have hlocks := B.notSynchronized
  have hP : va_P D vwCl [(h0, .inr (3, [.int (nI side), .ref a1, .ref a2, .ref a3, .ref a4, .int (pI sm)])), (ab, .inl (cI, ((side + 1) * (side + 1)), .inl (fun j => nI (F j))))] s.heap := hP
  have hl := lv_entry ([.ref h0, .ref ab, .int x, .int y, .int (nI ax), .int (nI ay)]) (n := 8) (Nat.le_of_ble_eq_true rfl)
  rw [lg_entry_eq]
  generalize (lg_sl ([.ref h0, .ref ab, .int x, .int y, .int (nI ax), .int (nI ay)]) ++ List.replicate (8 - (lg_sl ([.ref h0, .ref ab, .int x, .int y, .int (nI ax), .int (nI ay)])).length) Slot.unset).toArray = ls at hl ⊢
  have hl : lv_has ls 8 [(0, .ref h0), (1, .ref ab), (2, .int x), (3, .int y), (4, .int (nI ax)), (5, .int (nI ay))] := hl
  refine lv_iload_n hx hb d_Lo_sumIn_0 rfl (lv_at hl 2 rfl) ?_
  refine kb_lt (tgt := 30) rfl hx hb d_Lo_sumIn_1 (by decide) (fun c1 => ?_) (fun c1 => ?_)
  · refine lv_iconst (v := iI (-1)) hx hb d_Lo_sumIn_30 (by decide +kernel) ?_
    refine ka_i (y := iI (sumZ f side zx zy ax ay)) (by rw [sumZ_no (by omega)]) ?_
    exact krdi hx hb hr hlocks d_Lo_sumIn_31
  · refine lv_iload_n hx hb d_Lo_sumIn_4 rfl (lv_at hl 3 rfl) ?_
    refine kb_lt (tgt := 30) rfl hx hb d_Lo_sumIn_5 (by decide) (fun c2 => ?_) (fun c2 => ?_)
    · refine lv_iconst (v := iI (-1)) hx hb d_Lo_sumIn_30 (by decide +kernel) ?_
      refine ka_i (y := iI (sumZ f side zx zy ax ay)) (by rw [sumZ_no (by omega)]) ?_
      exact krdi hx hb hr hlocks d_Lo_sumIn_31
    · refine lv_iload_n hx hb d_Lo_sumIn_8 rfl (lv_at hl 2 rfl) ?_
      refine lv_aload_n hx hb d_Lo_sumIn_9 rfl (lv_at hl 0 rfl) ?_
      refine va_get (D := D) (ci := 3) (v := .int (nI side)) (C := R_Lo) (T := T_Lo) (N := 6) hx hb hts (fun w h => List.mem_cons_of_mem _ (iw_Lo w h)) hown hK hP 0 rfl rfl 0 (by decide) (hts _ (List.mem_cons_of_mem _ k_35)) (fun _ h9 => h9) rfl d_Lo_sumIn_10 ?_
      refine lv_iload hx hb d_Lo_sumIn_13 (lv_at hl 4 rfl) ?_
      refine lv_isub hx hb d_Lo_sumIn_15 ?_
      refine ka_i (y := iI (((side : Nat) : Int) - ((ax : Nat) : Int))) (by rw [iI_of side, iI_of ax]; exact iI_sub _ _) ?_
      refine kb_cgt (tgt := 30) rfl (iI_t (by omega) (by omega)) hx hb d_Lo_sumIn_16 (by decide) (fun c3 => ?_) (fun c3 => ?_)
      · refine lv_iconst (v := iI (-1)) hx hb d_Lo_sumIn_30 (by decide +kernel) ?_
        refine ka_i (y := iI (sumZ f side zx zy ax ay)) (by rw [sumZ_no (by omega)]) ?_
        exact krdi hx hb hr hlocks d_Lo_sumIn_31
      · refine lv_iload_n hx hb d_Lo_sumIn_19 rfl (lv_at hl 3 rfl) ?_
        refine lv_aload_n hx hb d_Lo_sumIn_20 rfl (lv_at hl 0 rfl) ?_
        refine va_get (D := D) (ci := 3) (v := .int (nI side)) (C := R_Lo) (T := T_Lo) (N := 6) hx hb hts (fun w h => List.mem_cons_of_mem _ (iw_Lo w h)) hown hK hP 0 rfl rfl 0 (by decide) (hts _ (List.mem_cons_of_mem _ k_35)) (fun _ h9 => h9) rfl d_Lo_sumIn_21 ?_
        refine lv_iload hx hb d_Lo_sumIn_24 (lv_at hl 5 rfl) ?_
        refine lv_isub hx hb d_Lo_sumIn_26 ?_
        refine ka_i (y := iI (((side : Nat) : Int) - ((ay : Nat) : Int))) (by rw [iI_of side, iI_of ay]; exact iI_sub _ _) ?_
        refine kb_cle (tgt := 32) rfl (iI_t (by omega) (by omega)) hx hb d_Lo_sumIn_27 (by decide) (fun c4 => ?_) (fun c4 => ?_)
        · obtain ⟨X, hX, rfl, eX⟩ := nI_ofI c1
          obtain ⟨Y, hY, rfl, eY⟩ := nI_ofI c2
          have q1 := idxC (X := X) (Y := Y) (n := side) (by omega) (by omega)
          have q2 := idxC (X := X + ax) (Y := Y) (n := side) (by omega) (by omega)
          have q3 := idxC (X := X) (Y := Y + ay) (n := side) (by omega) (by omega)
          have q4 := idxC (X := X + ax) (Y := Y + ay) (n := side) (by omega) (by omega)
          have q5 := (sq20 s2).1
          refine lv_iload_n hx hb d_Lo_sumIn_32 rfl (lv_at hl 3 rfl) ?_
          refine lv_aload_n hx hb d_Lo_sumIn_33 rfl (lv_at hl 0 rfl) ?_
          refine va_get (D := D) (ci := 3) (v := .int (nI side)) (C := R_Lo) (T := T_Lo) (N := 6) hx hb hts (fun w h => List.mem_cons_of_mem _ (iw_Lo w h)) hown hK hP 0 rfl rfl 0 (by decide) (hts _ (List.mem_cons_of_mem _ k_35)) (fun _ h9 => h9) rfl d_Lo_sumIn_34 ?_
          refine lv_iconst (v := nI 1) hx hb d_Lo_sumIn_37 (by decide +kernel) ?_
          refine lv_iadd hx hb d_Lo_sumIn_38 ?_
          refine ka_i (y := nI (side + 1)) (nI_add _ _) ?_
          refine lv_imul hx hb d_Lo_sumIn_39 ?_
          refine ka_i (y := nI (Y * (side + 1))) (pk_mul _ _) ?_
          refine lv_iload_n hx hb d_Lo_sumIn_40 rfl (lv_at hl 2 rfl) ?_
          refine lv_iadd hx hb d_Lo_sumIn_41 ?_
          refine ka_i (y := nI ((Y * (side + 1)) + X)) (nI_add _ _) ?_
          refine lv_istore (lv' := [(6, .int (nI ((Y * (side + 1)) + X))), (0, .ref h0), (1, .ref ab), (2, .int (nI X)), (3, .int (nI Y)), (4, .int (nI ax)), (5, .int (nI ay))]) hx hb d_Lo_sumIn_42 hl (by decide) rfl (fun ls hl => ?_)
          refine lv_iload_n hx hb d_Lo_sumIn_44 rfl (lv_at hl 4 rfl) ?_
          refine lv_iload hx hb d_Lo_sumIn_45 (lv_at hl 6 rfl) ?_
          refine lv_iadd hx hb d_Lo_sumIn_47 ?_
          refine ka_i (y := nI (Y + ay)) (nI_add _ _) ?_
          refine lv_aload_n hx hb d_Lo_sumIn_48 rfl (lv_at hl 1 rfl) ?_
          refine va_get (D := D) (ci := 3) (v := .int (nI side)) (C := R_Lo) (T := T_Lo) (N := 6) hx hb hts (fun w h => List.mem_cons_of_mem _ (iw_Lo w h)) hown hK hP 0 rfl rfl 0 (by decide) (hts _ (List.mem_cons_of_mem _ k_35)) (fun _ h9 => h9) rfl d_Lo_sumIn_49 ?_
          refine lv_iconst (v := nI 1) hx hb d_Lo_sumIn_52 (by decide +kernel) ?_
          refine lv_iadd hx hb d_Lo_sumIn_53 ?_
          refine ka_i (y := nI (side + 1)) (nI_add _ _) ?_
          refine lv_imul hx hb d_Lo_sumIn_54 ?_
          refine ka_i (y := nI ((Y + ay) * (side + 1))) (pk_mul _ _) ?_
          refine lv_iload_n hx hb d_Lo_sumIn_55 rfl (lv_at hl 3 rfl) ?_
          refine lv_iadd hx hb d_Lo_sumIn_56 ?_
          refine ka_i (y := nI (((Y + ay) * (side + 1)) + X)) (nI_add _ _) ?_
          refine lv_istore (lv' := [(7, .int (nI (((Y + ay) * (side + 1)) + X))), (6, .int (nI ((Y * (side + 1)) + X))), (0, .ref h0), (1, .ref ab), (2, .int (nI X)), (3, .int (nI Y)), (4, .int (nI ax)), (5, .int (nI ay))]) hx hb d_Lo_sumIn_57 hl (by decide) rfl (fun ls hl => ?_)
          refine lv_aload_n hx hb d_Lo_sumIn_59 rfl (lv_at hl 3 rfl) ?_
          refine lv_iload hx hb d_Lo_sumIn_60 (lv_at hl 0 rfl) ?_
          refine lv_iload hx hb d_Lo_sumIn_62 (lv_at hl 6 rfl) ?_
          refine lv_iadd hx hb d_Lo_sumIn_64 ?_
          refine ka_i (y := nI ((((Y + ay) * (side + 1)) + X) + ax)) (nI_add _ _) ?_
          refine ka_iald (k := ((((Y + ay) * (side + 1)) + X) + ax)) (n := ((side + 1) * (side + 1))) (f := fun j => nI (F j)) (nI_t (by omega)) (by omega) hx hb hK hP 1 0 rfl rfl d_Lo_sumIn_65 ?_
          refine lv_aload_n hx hb d_Lo_sumIn_66 rfl (lv_at hl 3 rfl) ?_
          refine lv_iload hx hb d_Lo_sumIn_67 (lv_at hl 0 rfl) ?_
          refine ka_iald (k := (((Y + ay) * (side + 1)) + X)) (n := ((side + 1) * (side + 1))) (f := fun j => nI (F j)) (nI_t (by omega)) (by omega) hx hb hK hP 1 0 rfl rfl d_Lo_sumIn_69 ?_
          refine lv_isub hx hb d_Lo_sumIn_70 ?_
          refine ka_i (y := iI (((F ((((Y + ay) * (side + 1)) + X) + ax) : Nat) : Int) - ((F (((Y + ay) * (side + 1)) + X) : Nat) : Int))) (by rw [iI_of (F ((((Y + ay) * (side + 1)) + X) + ax)), iI_of (F (((Y + ay) * (side + 1)) + X))]; exact iI_sub _ _) ?_
          refine lv_aload_n hx hb d_Lo_sumIn_71 rfl (lv_at hl 3 rfl) ?_
          refine lv_iload hx hb d_Lo_sumIn_72 (lv_at hl 1 rfl) ?_
          refine lv_iload hx hb d_Lo_sumIn_74 (lv_at hl 6 rfl) ?_
          refine lv_iadd hx hb d_Lo_sumIn_76 ?_
          refine ka_i (y := nI (((Y * (side + 1)) + X) + ax)) (nI_add _ _) ?_
          refine ka_iald (k := (((Y * (side + 1)) + X) + ax)) (n := ((side + 1) * (side + 1))) (f := fun j => nI (F j)) (nI_t (by omega)) (by omega) hx hb hK hP 1 0 rfl rfl d_Lo_sumIn_77 ?_
          refine lv_isub hx hb d_Lo_sumIn_78 ?_
          refine ka_i (y := iI ((((F ((((Y + ay) * (side + 1)) + X) + ax) : Nat) : Int) - ((F (((Y + ay) * (side + 1)) + X) : Nat) : Int)) - ((F (((Y * (side + 1)) + X) + ax) : Nat) : Int))) (by rw [iI_of (F (((Y * (side + 1)) + X) + ax))]; exact iI_sub _ _) ?_
          refine lv_aload_n hx hb d_Lo_sumIn_79 rfl (lv_at hl 3 rfl) ?_
          refine lv_iload hx hb d_Lo_sumIn_80 (lv_at hl 1 rfl) ?_
          refine ka_iald (k := ((Y * (side + 1)) + X)) (n := ((side + 1) * (side + 1))) (f := fun j => nI (F j)) (nI_t (by omega)) (by omega) hx hb hK hP 1 0 rfl rfl d_Lo_sumIn_82 ?_
          refine lv_iadd hx hb d_Lo_sumIn_83 ?_
          refine ka_i (y := iI (((((F ((((Y + ay) * (side + 1)) + X) + ax) : Nat) : Int) - ((F (((Y + ay) * (side + 1)) + X) : Nat) : Int)) - ((F (((Y * (side + 1)) + X) + ax) : Nat) : Int)) + ((F ((Y * (side + 1)) + X) : Nat) : Int))) (by rw [iI_of (F ((Y * (side + 1)) + X))]; exact iI_add _ _) ?_
          refine ka_i (y := iI (sumZ f side zx zy ax ay)) (congrArg iI (by
            have e1 := hF X Y (by omega) (by omega)
            have e2 := hF (X + ax) Y (by omega) (by omega)
            have e3 := hF X (Y + ay) (by omega) (by omega)
            have e4 := hF (X + ax) (Y + ay) (by omega) (by omega)
            have k := rcs_psm f X Y ax ay
            rw [sumZ_in (X := X) (Y := Y) (by omega) (by omega) (by omega) (by omega)]
            rw [← Nat.add_assoc] at e2 e4
            omega)) ?_
          exact krdi hx hb hr hlocks d_Lo_sumIn_84
        · refine lv_iconst (v := iI (-1)) hx hb d_Lo_sumIn_30 (by decide +kernel) ?_
          refine ka_i (y := iI (sumZ f side zx zy ax ay)) (by rw [sumZ_no (by omega)]) ?_
          exact krdi hx hb hr hlocks d_Lo_sumIn_31
end
section
theorem d_Bo_fits_0 : decode b_Bo_fits 0 = .ok (.aload_n 0, 1) := by decide +kernel
theorem d_Bo_fits_1 : decode b_Bo_fits 1 = .ok (.getfield 9, 3) := by decide +kernel
theorem d_Bo_fits_4 : decode b_Bo_fits 4 = .ok (.aload_n 0, 1) := by decide +kernel
theorem d_Bo_fits_5 : decode b_Bo_fits 5 = .ok (.getfield 9, 3) := by decide +kernel
theorem d_Bo_fits_8 : decode b_Bo_fits 8 = .ok (.getfield 19, 3) := by decide +kernel
theorem d_Bo_fits_11 : decode b_Bo_fits 11 = .ok (.iload_n 2, 1) := by decide +kernel
theorem d_Bo_fits_12 : decode b_Bo_fits 12 = .ok (.iload_n 3, 1) := by decide +kernel
theorem d_Bo_fits_13 : decode b_Bo_fits 13 = .ok (.aload_n 0, 1) := by decide +kernel
theorem d_Bo_fits_14 : decode b_Bo_fits 14 = .ok (.getfield 15, 3) := by decide +kernel
theorem d_Bo_fits_17 : decode b_Bo_fits 17 = .ok (.iload_n 1, 1) := by decide +kernel
theorem d_Bo_fits_18 : decode b_Bo_fits 18 = .ok (.iload 4, 2) := by decide +kernel
theorem d_Bo_fits_20 : decode b_Bo_fits 20 = .ok (.invokevirtual 25, 3) := by decide +kernel
theorem d_Bo_fits_23 : decode b_Bo_fits 23 = .ok (.aload_n 0, 1) := by decide +kernel
theorem d_Bo_fits_24 : decode b_Bo_fits 24 = .ok (.getfield 15, 3) := by decide +kernel
theorem d_Bo_fits_27 : decode b_Bo_fits 27 = .ok (.iload_n 1, 1) := by decide +kernel
theorem d_Bo_fits_28 : decode b_Bo_fits 28 = .ok (.iload 4, 2) := by decide +kernel
theorem d_Bo_fits_30 : decode b_Bo_fits 30 = .ok (.invokevirtual 31, 3) := by decide +kernel
theorem d_Bo_fits_33 : decode b_Bo_fits 33 = .ok (.invokevirtual 34, 3) := by decide +kernel
theorem d_Bo_fits_36 : decode b_Bo_fits 36 = .ok (.istore 5, 2) := by decide +kernel
theorem d_Bo_fits_38 : decode b_Bo_fits 38 = .ok (.iload 5, 2) := by decide +kernel
theorem d_Bo_fits_40 : decode b_Bo_fits 40 = .ok (.iconst (-1), 1) := by decide +kernel
theorem d_Bo_fits_41 : decode b_Bo_fits 41 = .ok (.if_icmp .eq 21, 3) := by decide +kernel
theorem d_Bo_fits_44 : decode b_Bo_fits 44 = .ok (.iload 5, 2) := by decide +kernel
theorem d_Bo_fits_46 : decode b_Bo_fits 46 = .ok (.aload_n 0, 1) := by decide +kernel
theorem d_Bo_fits_47 : decode b_Bo_fits 47 = .ok (.getfield 15, 3) := by decide +kernel
theorem d_Bo_fits_50 : decode b_Bo_fits 50 = .ok (.getfield 38, 3) := by decide +kernel
theorem d_Bo_fits_53 : decode b_Bo_fits 53 = .ok (.iload_n 1, 1) := by decide +kernel
theorem d_Bo_fits_54 : decode b_Bo_fits 54 = .ok (.iaload, 1) := by decide +kernel
theorem d_Bo_fits_55 : decode b_Bo_fits 55 = .ok (.if_icmp .gt 7, 3) := by decide +kernel
theorem d_Bo_fits_58 : decode b_Bo_fits 58 = .ok (.iconst 1, 1) := by decide +kernel
theorem d_Bo_fits_59 : decode b_Bo_fits 59 = .ok (.goto 4, 3) := by decide +kernel
theorem d_Bo_fits_62 : decode b_Bo_fits 62 = .ok (.iconst 0, 1) := by decide +kernel
theorem d_Bo_fits_63 : decode b_Bo_fits 63 = .ok (.ireturn, 1) := by decide +kernel
theorem d_Bo_bareAt_0 : decode b_Bo_bareAt 0 = .ok (.aload_n 0, 1) := by decide +kernel
theorem d_Bo_bareAt_1 : decode b_Bo_bareAt 1 = .ok (.getfield 9, 3) := by decide +kernel
theorem d_Bo_bareAt_4 : decode b_Bo_bareAt 4 = .ok (.aload_n 0, 1) := by decide +kernel
theorem d_Bo_bareAt_5 : decode b_Bo_bareAt 5 = .ok (.getfield 9, 3) := by decide +kernel
theorem d_Bo_bareAt_8 : decode b_Bo_bareAt 8 = .ok (.getfield 19, 3) := by decide +kernel
theorem d_Bo_bareAt_11 : decode b_Bo_bareAt 11 = .ok (.iload_n 2, 1) := by decide +kernel
theorem d_Bo_bareAt_12 : decode b_Bo_bareAt 12 = .ok (.iload_n 3, 1) := by decide +kernel
theorem d_Bo_bareAt_13 : decode b_Bo_bareAt 13 = .ok (.aload_n 0, 1) := by decide +kernel
theorem d_Bo_bareAt_14 : decode b_Bo_bareAt 14 = .ok (.getfield 15, 3) := by decide +kernel
theorem d_Bo_bareAt_17 : decode b_Bo_bareAt 17 = .ok (.iload_n 1, 1) := by decide +kernel
theorem d_Bo_bareAt_18 : decode b_Bo_bareAt 18 = .ok (.iload 4, 2) := by decide +kernel
theorem d_Bo_bareAt_20 : decode b_Bo_bareAt 20 = .ok (.invokevirtual 25, 3) := by decide +kernel
theorem d_Bo_bareAt_23 : decode b_Bo_bareAt 23 = .ok (.aload_n 0, 1) := by decide +kernel
theorem d_Bo_bareAt_24 : decode b_Bo_bareAt 24 = .ok (.getfield 15, 3) := by decide +kernel
theorem d_Bo_bareAt_27 : decode b_Bo_bareAt 27 = .ok (.iload_n 1, 1) := by decide +kernel
theorem d_Bo_bareAt_28 : decode b_Bo_bareAt 28 = .ok (.iload 4, 2) := by decide +kernel
theorem d_Bo_bareAt_30 : decode b_Bo_bareAt 30 = .ok (.invokevirtual 31, 3) := by decide +kernel
theorem d_Bo_bareAt_33 : decode b_Bo_bareAt 33 = .ok (.invokevirtual 34, 3) := by decide +kernel
theorem d_Bo_bareAt_36 : decode b_Bo_bareAt 36 = .ok (.ireturn, 1) := by decide +kernel
theorem d_Bo_valueAt_0 : decode b_Bo_valueAt 0 = .ok (.aload_n 0, 1) := by decide +kernel
theorem d_Bo_valueAt_1 : decode b_Bo_valueAt 1 = .ok (.getfield 9, 3) := by decide +kernel
theorem d_Bo_valueAt_4 : decode b_Bo_valueAt 4 = .ok (.aload_n 0, 1) := by decide +kernel
theorem d_Bo_valueAt_5 : decode b_Bo_valueAt 5 = .ok (.getfield 9, 3) := by decide +kernel
theorem d_Bo_valueAt_8 : decode b_Bo_valueAt 8 = .ok (.getfield 41, 3) := by decide +kernel
theorem d_Bo_valueAt_11 : decode b_Bo_valueAt 11 = .ok (.iload_n 2, 1) := by decide +kernel
theorem d_Bo_valueAt_12 : decode b_Bo_valueAt 12 = .ok (.iload_n 3, 1) := by decide +kernel
theorem d_Bo_valueAt_13 : decode b_Bo_valueAt 13 = .ok (.aload_n 0, 1) := by decide +kernel
theorem d_Bo_valueAt_14 : decode b_Bo_valueAt 14 = .ok (.getfield 15, 3) := by decide +kernel
theorem d_Bo_valueAt_17 : decode b_Bo_valueAt 17 = .ok (.iload_n 1, 1) := by decide +kernel
theorem d_Bo_valueAt_18 : decode b_Bo_valueAt 18 = .ok (.iload 4, 2) := by decide +kernel
theorem d_Bo_valueAt_20 : decode b_Bo_valueAt 20 = .ok (.invokevirtual 25, 3) := by decide +kernel
theorem d_Bo_valueAt_23 : decode b_Bo_valueAt 23 = .ok (.aload_n 0, 1) := by decide +kernel
theorem d_Bo_valueAt_24 : decode b_Bo_valueAt 24 = .ok (.getfield 15, 3) := by decide +kernel
theorem d_Bo_valueAt_27 : decode b_Bo_valueAt 27 = .ok (.iload_n 1, 1) := by decide +kernel
theorem d_Bo_valueAt_28 : decode b_Bo_valueAt 28 = .ok (.iload 4, 2) := by decide +kernel
theorem d_Bo_valueAt_30 : decode b_Bo_valueAt 30 = .ok (.invokevirtual 31, 3) := by decide +kernel
theorem d_Bo_valueAt_33 : decode b_Bo_valueAt 33 = .ok (.invokevirtual 34, 3) := by decide +kernel
theorem d_Bo_valueAt_36 : decode b_Bo_valueAt 36 = .ok (.istore 5, 2) := by decide +kernel
theorem d_Bo_valueAt_38 : decode b_Bo_valueAt 38 = .ok (.iconst 0, 1) := by decide +kernel
theorem d_Bo_valueAt_39 : decode b_Bo_valueAt 39 = .ok (.aload_n 0, 1) := by decide +kernel
theorem d_Bo_valueAt_40 : decode b_Bo_valueAt 40 = .ok (.getfield 15, 3) := by decide +kernel
theorem d_Bo_valueAt_43 : decode b_Bo_valueAt 43 = .ok (.getfield 44, 3) := by decide +kernel
theorem d_Bo_valueAt_46 : decode b_Bo_valueAt 46 = .ok (.iload_n 1, 1) := by decide +kernel
theorem d_Bo_valueAt_47 : decode b_Bo_valueAt 47 = .ok (.iaload, 1) := by decide +kernel
theorem d_Bo_valueAt_48 : decode b_Bo_valueAt 48 = .ok (.iload 5, 2) := by decide +kernel
theorem d_Bo_valueAt_50 : decode b_Bo_valueAt 50 = .ok (.isub, 1) := by decide +kernel
theorem d_Bo_valueAt_51 : decode b_Bo_valueAt 51 = .ok (.invokestatic 47, 3) := by decide +kernel
theorem d_Bo_valueAt_54 : decode b_Bo_valueAt 54 = .ok (.ireturn, 1) := by decide +kernel
theorem d_Lo_woodCells_0 : decode b_Lo_woodCells 0 = .ok (.aload_n 0, 1) := by decide +kernel
theorem d_Lo_woodCells_1 : decode b_Lo_woodCells 1 = .ok (.getfield 9, 3) := by decide +kernel
theorem d_Lo_woodCells_4 : decode b_Lo_woodCells 4 = .ok (.aload_n 0, 1) := by decide +kernel
theorem d_Lo_woodCells_5 : decode b_Lo_woodCells 5 = .ok (.getfield 9, 3) := by decide +kernel
theorem d_Lo_woodCells_8 : decode b_Lo_woodCells 8 = .ok (.imul, 1) := by decide +kernel
theorem d_Lo_woodCells_9 : decode b_Lo_woodCells 9 = .ok (.aload_n 0, 1) := by decide +kernel
theorem d_Lo_woodCells_10 : decode b_Lo_woodCells 10 = .ok (.aload_n 0, 1) := by decide +kernel
theorem d_Lo_woodCells_11 : decode b_Lo_woodCells 11 = .ok (.getfield 23, 3) := by decide +kernel
theorem d_Lo_woodCells_14 : decode b_Lo_woodCells 14 = .ok (.iconst 0, 1) := by decide +kernel
theorem d_Lo_woodCells_15 : decode b_Lo_woodCells 15 = .ok (.iconst 0, 1) := by decide +kernel
theorem d_Lo_woodCells_16 : decode b_Lo_woodCells 16 = .ok (.aload_n 0, 1) := by decide +kernel
theorem d_Lo_woodCells_17 : decode b_Lo_woodCells 17 = .ok (.getfield 9, 3) := by decide +kernel
theorem d_Lo_woodCells_20 : decode b_Lo_woodCells 20 = .ok (.aload_n 0, 1) := by decide +kernel
theorem d_Lo_woodCells_21 : decode b_Lo_woodCells 21 = .ok (.getfield 9, 3) := by decide +kernel
theorem d_Lo_woodCells_24 : decode b_Lo_woodCells 24 = .ok (.invokevirtual 37, 3) := by decide +kernel
theorem d_Lo_woodCells_27 : decode b_Lo_woodCells 27 = .ok (.isub, 1) := by decide +kernel
theorem d_Lo_woodCells_28 : decode b_Lo_woodCells 28 = .ok (.ireturn, 1) := by decide +kernel
theorem d_SG_areApart_0 : decode b_SG_areApart 0 = .ok (.iload_n 1, 1) := by decide +kernel
theorem d_SG_areApart_1 : decode b_SG_areApart 1 = .ok (.iload_n 2, 1) := by decide +kernel
theorem d_SG_areApart_2 : decode b_SG_areApart 2 = .ok (.iadd, 1) := by decide +kernel
theorem d_SG_areApart_3 : decode b_SG_areApart 3 = .ok (.aload_n 0, 1) := by decide +kernel
theorem d_SG_areApart_4 : decode b_SG_areApart 4 = .ok (.getfield 18, 3) := by decide +kernel
theorem d_SG_areApart_7 : decode b_SG_areApart 7 = .ok (.iadd, 1) := by decide +kernel
theorem d_SG_areApart_8 : decode b_SG_areApart 8 = .ok (.iload_n 3, 1) := by decide +kernel
theorem d_SG_areApart_9 : decode b_SG_areApart 9 = .ok (.if_icmp .le 16, 3) := by decide +kernel
theorem d_SG_areApart_12 : decode b_SG_areApart 12 = .ok (.iload_n 3, 1) := by decide +kernel
theorem d_SG_areApart_13 : decode b_SG_areApart 13 = .ok (.iload 4, 2) := by decide +kernel
theorem d_SG_areApart_15 : decode b_SG_areApart 15 = .ok (.iadd, 1) := by decide +kernel
theorem d_SG_areApart_16 : decode b_SG_areApart 16 = .ok (.aload_n 0, 1) := by decide +kernel
theorem d_SG_areApart_17 : decode b_SG_areApart 17 = .ok (.getfield 18, 3) := by decide +kernel
theorem d_SG_areApart_20 : decode b_SG_areApart 20 = .ok (.iadd, 1) := by decide +kernel
theorem d_SG_areApart_21 : decode b_SG_areApart 21 = .ok (.iload_n 1, 1) := by decide +kernel
theorem d_SG_areApart_22 : decode b_SG_areApart 22 = .ok (.if_icmp .gt 7, 3) := by decide +kernel
theorem d_SG_areApart_25 : decode b_SG_areApart 25 = .ok (.iconst 1, 1) := by decide +kernel
theorem d_SG_areApart_26 : decode b_SG_areApart 26 = .ok (.goto 4, 3) := by decide +kernel
theorem d_SG_areApart_29 : decode b_SG_areApart 29 = .ok (.iconst 0, 1) := by decide +kernel
theorem d_SG_areApart_30 : decode b_SG_areApart 30 = .ok (.ireturn, 1) := by decide +kernel
theorem d_Si_haveThickness_0 : decode b_Si_haveThickness 0 = .ok (.iconst 0, 1) := by decide +kernel
theorem d_Si_haveThickness_1 : decode b_Si_haveThickness 1 = .ok (.istore_n 2, 1) := by decide +kernel
theorem d_Si_haveThickness_2 : decode b_Si_haveThickness 2 = .ok (.iload_n 2, 1) := by decide +kernel
theorem d_Si_haveThickness_3 : decode b_Si_haveThickness 3 = .ok (.aload_n 0, 1) := by decide +kernel
theorem d_Si_haveThickness_4 : decode b_Si_haveThickness 4 = .ok (.getfield 24, 3) := by decide +kernel
theorem d_Si_haveThickness_7 : decode b_Si_haveThickness 7 = .ok (.if_icmp .ge 21, 3) := by decide +kernel
theorem d_Si_haveThickness_10 : decode b_Si_haveThickness 10 = .ok (.aload_n 0, 1) := by decide +kernel
theorem d_Si_haveThickness_11 : decode b_Si_haveThickness 11 = .ok (.getfield 9, 3) := by decide +kernel
theorem d_Si_haveThickness_14 : decode b_Si_haveThickness 14 = .ok (.iload_n 2, 1) := by decide +kernel
theorem d_Si_haveThickness_15 : decode b_Si_haveThickness 15 = .ok (.iaload, 1) := by decide +kernel
theorem d_Si_haveThickness_16 : decode b_Si_haveThickness 16 = .ok (.iload_n 1, 1) := by decide +kernel
theorem d_Si_haveThickness_17 : decode b_Si_haveThickness 17 = .ok (.if_icmp .ne 5, 3) := by decide +kernel
theorem d_Si_haveThickness_20 : decode b_Si_haveThickness 20 = .ok (.iconst 1, 1) := by decide +kernel
theorem d_Si_haveThickness_21 : decode b_Si_haveThickness 21 = .ok (.ireturn, 1) := by decide +kernel
theorem d_Si_haveThickness_22 : decode b_Si_haveThickness 22 = .ok (.iinc 2 1, 3) := by decide +kernel
theorem d_Si_haveThickness_25 : decode b_Si_haveThickness 25 = .ok (.goto (-23), 3) := by decide +kernel
theorem d_Si_haveThickness_28 : decode b_Si_haveThickness 28 = .ok (.iconst 0, 1) := by decide +kernel
theorem d_Si_haveThickness_29 : decode b_Si_haveThickness 29 = .ok (.ireturn, 1) := by decide +kernel
set_option maxHeartbeats 4000000 in
set_option maxRecDepth 100000 in
theorem c_fits (l : Launch) (D : va_G) (cI cJ cZ : ClassId) (bo : Nat) (h0 : Nat) (side : Nat) (a1 : Nat) (a2 : Nat) (a3 : Nat) (a4 : Nat) (sm : Prop) (hz : Nat) (t1 : Nat) (t2 : Nat) (t3 : Nat) (t4 : Nat) (cn : Nat) (th : Nat → Nat) (wi : Nat → Nat) (wn : Nat → Nat) (F : Nat → Nat) (f : Nat → Nat → Nat) (i : Nat) (x : Int32) (y : Int32) (zx : Int) (zy : Int) (tn : Int32) (tz : Int) (s2 : side ≤ 20) (i8 : i < 8) (ht : ∀ k, k < 8 → th k ≤ 20) (hw : ∀ k, k < 8 → wi k ≤ 20) (ex : x.toInt = zx) (ey : y.toInt = zy) (et : tn.toInt = tz) (hF : ∀ X Y, X ≤ side → Y ≤ side → F (Y * (side + 1) + X) = psm f X Y) (hf : ∀ i j, i < side → j < side → f i j ≤ 10000) (hn : ∀ k, k < 8 → wn k ≤ 400) : kRead l y_Bo_fits w_Bo_fits ({ frames := 1, cells := 0, slots := 0, locals := 27 }) D vwCl (tyL cI cJ cZ) [(bo, .inr (2, [.ref hz, .ref h0])), (h0, .inr (3, [.int (nI side), .ref a1, .ref a2, .ref a3, .ref a4, .int (pI sm)])), (hz, .inr (5, [.ref t1, .ref t2, .ref t3, .ref t4, .int (nI cn)])), (t1, .inl (cI, 8, .inl (fun j => nI (th j)))), (t2, .inl (cI, 8, .inl (fun j => nI (wi j)))), (t4, .inl (cI, 8, .inl (fun j => nI (wn j)))), (a3, .inl (cI, ((side + 1) * (side + 1)), .inl (fun j => nI (F j))))] [.ref bo, .int (nI i), .int x, .int y, .int tn] (.int (pI (0 ≤ sumZ f side zx zy (if tz = 0 then wi i else th i) (if tz = 0 then th i else wi i) ∧ sumZ f side zx zy (if tz = 0 then wi i else th i) (if tz = 0 then th i else wi i) ≤ (wn i : Int)))) := by
  refine Met.ofW (cc := b_Bo_fits) (maxL := 6) (ret := (some (.boolean))) (by decide) rfl ?_
  intro p e s m args below meth c s₁ B hml hv
  obtain ⟨rfl, hP, hK, hZ⟩ := hv
  have hx := B.exec
  have hb := B.bytes
  have hr := B.returns
  have hts := atoms_spec (ws := w_Bo_fits) B.pre
  have hown : s.vm.findClass R_Bo = some m.cls := findClass_of_methodNamed B.named
  have hlocks := B.notSynchronized
  have hP : va_P D vwCl [(bo, .inr (2, [.ref hz, .ref h0])), (h0, .inr (3, [.int (nI side), .ref a1, .ref a2, .ref a3, .ref a4, .int (pI sm)])), (hz, .inr (5, [.ref t1, .ref t2, .ref t3, .ref t4, .int (nI cn)])), (t1, .inl (cI, 8, .inl (fun j => nI (th j)))), (t2, .inl (cI, 8, .inl (fun j => nI (wi j)))), (t4, .inl (cI, 8, .inl (fun j => nI (wn j)))), (a3, .inl (cI, ((side + 1) * (side + 1)), .inl (fun j => nI (F j))))] s.heap := hP
  have hl := lv_entry ([.ref bo, .int (nI i), .int x, .int y, .int tn]) (n := 6) (Nat.le_of_ble_eq_true rfl)
  rw [lg_entry_eq]
  generalize (lg_sl ([.ref bo, .int (nI i), .int x, .int y, .int tn]) ++ List.replicate (6 - (lg_sl ([.ref bo, .int (nI i), .int x, .int y, .int tn])).length) Slot.unset).toArray = ls at hl ⊢
  have hl : lv_has ls 6 [(0, .ref bo), (1, .int (nI i)), (2, .int x), (3, .int y), (4, .int tn)] := hl
  subst ex; subst ey; subst et
  have hAX : (if tn.toInt = 0 then wi i else th i) ≤ 20 := by
    have h1 := ht i i8
    have h2 := hw i i8
    split <;> omega
  have hAY : (if tn.toInt = 0 then th i else wi i) ≤ 20 := by
    have h1 := ht i i8
    have h2 := hw i i8
    split <;> omega
  have k1 := sumZ_lo f side x.toInt y.toInt (if tn.toInt = 0 then wi i else th i) (if tn.toInt = 0 then th i else wi i)
  have k2 := sumZ_hi (f := f) (side := side) x.toInt y.toInt (if tn.toInt = 0 then wi i else th i) (if tn.toInt = 0 then th i else wi i) s2 hf
  refine lv_aload_n hx hb d_Bo_fits_0 rfl (lv_at hl 0 rfl) ?_
  refine va_get (D := D) (ci := 2) (v := .ref h0) (C := R_Bo) (T := T_Bo) (N := 2) hx hb hts (fun w h => List.mem_cons_of_mem _ (iw_Bo w h)) hown hK hP 0 rfl rfl 1 (by decide) (hts _ (List.mem_cons_of_mem _ k_95)) (fun _ h9 => h9) rfl d_Bo_fits_1 ?_
  refine lv_aload_n hx hb d_Bo_fits_4 rfl (lv_at hl 0 rfl) ?_
  refine va_get (D := D) (ci := 2) (v := .ref h0) (C := R_Bo) (T := T_Bo) (N := 2) hx hb hts (fun w h => List.mem_cons_of_mem _ (iw_Bo w h)) hown hK hP 0 rfl rfl 1 (by decide) (hts _ (List.mem_cons_of_mem _ k_95)) (fun _ h9 => h9) rfl d_Bo_fits_5 ?_
  refine va_get (D := D) (ci := 3) (v := .ref a3) (C := R_Lo) (T := T_Lo) (N := 6) hx hb hts (fun w h => List.mem_cons_of_mem _ (iw_Lo w h)) hown hK hP 1 rfl rfl 3 (by decide) (hts _ (List.mem_cons_of_mem _ k_40)) (fun _ h9 => h9) rfl d_Bo_fits_8 ?_
  refine lv_iload_n hx hb d_Bo_fits_11 rfl (lv_at hl 2 rfl) ?_
  refine lv_iload_n hx hb d_Bo_fits_12 rfl (lv_at hl 3 rfl) ?_
  refine lv_aload_n hx hb d_Bo_fits_13 rfl (lv_at hl 0 rfl) ?_
  refine va_get (D := D) (ci := 2) (v := .ref hz) (C := R_Bo) (T := T_Bo) (N := 2) hx hb hts (fun w h => List.mem_cons_of_mem _ (iw_Bo w h)) hown hK hP 0 rfl rfl 0 (by decide) (hts _ (List.mem_cons_of_mem _ k_93)) (fun _ h9 => h9) rfl d_Bo_fits_14 ?_
  refine lv_iload_n hx hb d_Bo_fits_17 rfl (lv_at hl 1 rfl) ?_
  refine lv_iload hx hb d_Bo_fits_18 (lv_at hl 4 rfl) ?_
  refine kcallR (r := .int (nI (if tn.toInt = 0 then wi i else th i))) (va_runV (As := [.int (nI i), .int tn]) (rest := [.int y, .int x, .ref a3, .ref h0]) ⟨hx, hb, hml, hown, hts⟩ (c_alongX l D cI cJ cZ hz t1 t2 t3 t4 cn th wi i tn tn.toInt i8 rfl) ⟨callB_of 2 hts (gd kc_Si_alongX) rfl rfl rfl (hts _ (List.mem_cons_of_mem _ k_4)) (hts _ (List.mem_cons_of_mem _ k_244)) (by decide +kernel) ⟨Nat.le_of_ble_eq_true rfl, Nat.le_of_ble_eq_true rfl⟩, hts _ (List.mem_cons_of_mem _ k_245), hts _ (List.mem_cons_of_mem _ k_246)⟩ ⟨kR_blind, va_recv hK hP (ci := 5) (q0 := 2) rfl rfl, kR_at hP hK hZ [2, 3, 4] rfl⟩ rfl rfl hl.1 rfl (lv_room (Nat.le_of_ble_eq_true rfl)) d_Bo_fits_20 ⟨Nat.zero_le _, Nat.zero_le _⟩) ?_
  refine lv_aload_n hx hb d_Bo_fits_23 rfl (lv_at hl 0 rfl) ?_
  refine va_get (D := D) (ci := 2) (v := .ref hz) (C := R_Bo) (T := T_Bo) (N := 2) hx hb hts (fun w h => List.mem_cons_of_mem _ (iw_Bo w h)) hown hK hP 0 rfl rfl 0 (by decide) (hts _ (List.mem_cons_of_mem _ k_93)) (fun _ h9 => h9) rfl d_Bo_fits_24 ?_
  refine lv_iload_n hx hb d_Bo_fits_27 rfl (lv_at hl 1 rfl) ?_
  refine lv_iload hx hb d_Bo_fits_28 (lv_at hl 4 rfl) ?_
  refine kcallR (r := .int (nI (if tn.toInt = 0 then th i else wi i))) (va_runV (As := [.int (nI i), .int tn]) (rest := [.int (nI (if tn.toInt = 0 then wi i else th i)), .int y, .int x, .ref a3, .ref h0]) ⟨hx, hb, hml, hown, hts⟩ (c_alongY l D cI cJ cZ hz t1 t2 t3 t4 cn th wi i tn tn.toInt i8 rfl) ⟨callB_of 2 hts (gd kc_Si_alongY) rfl rfl rfl (hts _ (List.mem_cons_of_mem _ k_4)) (hts _ (List.mem_cons_of_mem _ k_248)) (by decide +kernel) ⟨Nat.le_of_ble_eq_true rfl, Nat.le_of_ble_eq_true rfl⟩, hts _ (List.mem_cons_of_mem _ k_249), hts _ (List.mem_cons_of_mem _ k_250)⟩ ⟨kR_blind, va_recv hK hP (ci := 5) (q0 := 2) rfl rfl, kR_at hP hK hZ [2, 3, 4] rfl⟩ rfl rfl hl.1 rfl (lv_room (Nat.le_of_ble_eq_true rfl)) d_Bo_fits_30 ⟨Nat.zero_le _, Nat.zero_le _⟩) ?_
  refine kcallR (r := .int (iI (sumZ f side x.toInt y.toInt (if tn.toInt = 0 then wi i else th i) (if tn.toInt = 0 then th i else wi i)))) (va_runV (As := [.ref a3, .int x, .int y, .int (nI (if tn.toInt = 0 then wi i else th i)), .int (nI (if tn.toInt = 0 then th i else wi i))]) (rest := []) ⟨hx, hb, hml, hown, hts⟩ (c_sumIn l D cI cJ cZ h0 side a1 a2 a3 a4 sm a3 F f x y x.toInt y.toInt (if tn.toInt = 0 then wi i else th i) (if tn.toInt = 0 then th i else wi i) s2 hAX hAY rfl rfl hF hf) ⟨callB_of 5 hts (gd kc_Lo_sumIn) rfl rfl rfl (hts _ (List.mem_cons_of_mem _ k_3)) (hts _ (List.mem_cons_of_mem _ k_252)) (by decide +kernel) ⟨Nat.le_of_ble_eq_true rfl, Nat.le_of_ble_eq_true rfl⟩, hts _ (List.mem_cons_of_mem _ k_253), hts _ (List.mem_cons_of_mem _ k_254)⟩ ⟨kR_blind, va_recv hK hP (ci := 3) (q0 := 1) rfl rfl, kR_at hP hK hZ [1, 6] rfl⟩ rfl rfl hl.1 rfl (lv_room (Nat.le_of_ble_eq_true rfl)) d_Bo_fits_33 ⟨Nat.zero_le _, Nat.zero_le _⟩) ?_
  have k3 := hn i i8
  refine lv_istore (lv' := [(5, .int (iI (sumZ f side x.toInt y.toInt (if tn.toInt = 0 then wi i else th i) (if tn.toInt = 0 then th i else wi i)))), (0, .ref bo), (1, .int (nI i)), (2, .int x), (3, .int y), (4, .int tn)]) hx hb d_Bo_fits_36 hl (by decide) rfl (fun ls hl => ?_)
  refine lv_iload hx hb d_Bo_fits_38 (lv_at hl 0 rfl) ?_
  refine lv_iconst (v := iI (-1)) hx hb d_Bo_fits_40 (by decide +kernel) ?_
  refine kb_ceq (tgt := 62) (iI_t (by omega) (by omega)) (iI_t (by omega) (by omega)) hx hb d_Bo_fits_41 (by decide) (fun c_41 => ?_) (fun c_41 => ?_)
  · refine lv_iconst (v := nI 0) hx hb d_Bo_fits_62 (by decide +kernel) ?_
    refine ka_i (y := pI (0 ≤ sumZ f side x.toInt y.toInt (if tn.toInt = 0 then wi i else th i) (if tn.toInt = 0 then th i else wi i) ∧ sumZ f side x.toInt y.toInt (if tn.toInt = 0 then wi i else th i) (if tn.toInt = 0 then th i else wi i) ≤ (wn i : Int))) (pI_z (fun h => by omega)) ?_
    exact krdz (pI_narrow _) hx hb hr hlocks d_Bo_fits_63
  · refine lv_iload hx hb d_Bo_fits_44 (lv_at hl 0 rfl) ?_
    refine lv_aload_n hx hb d_Bo_fits_46 rfl (lv_at hl 1 rfl) ?_
    refine va_get (D := D) (ci := 2) (v := .ref hz) (C := R_Bo) (T := T_Bo) (N := 2) hx hb hts (fun w h => List.mem_cons_of_mem _ (iw_Bo w h)) hown hK hP 0 rfl rfl 0 (by decide) (hts _ (List.mem_cons_of_mem _ k_93)) (fun _ h9 => h9) rfl d_Bo_fits_47 ?_
    refine va_get (D := D) (ci := 5) (v := .ref t4) (C := R_Si) (T := T_Si) (N := 5) hx hb hts (fun w h => List.mem_cons_of_mem _ (iw_Si w h)) hown hK hP 2 rfl rfl 3 (by decide) (hts _ (List.mem_cons_of_mem _ k_72)) (fun _ h9 => h9) rfl d_Bo_fits_50 ?_
    refine lv_iload_n hx hb d_Bo_fits_53 rfl (lv_at hl 2 rfl) ?_
    refine ka_iald (k := i) (n := 8) (f := fun j => nI (wn j)) (nI_t (by omega)) (by omega) hx hb hK hP 5 0 rfl rfl d_Bo_fits_54 ?_
    refine kb_cgt (tgt := 62) (iI_t (by omega) (by omega)) (nI_t (by omega)) hx hb d_Bo_fits_55 (by decide) (fun c_55 => ?_) (fun c_55 => ?_)
    · refine lv_iconst (v := nI 0) hx hb d_Bo_fits_62 (by decide +kernel) ?_
      refine ka_i (y := pI (0 ≤ sumZ f side x.toInt y.toInt (if tn.toInt = 0 then wi i else th i) (if tn.toInt = 0 then th i else wi i) ∧ sumZ f side x.toInt y.toInt (if tn.toInt = 0 then wi i else th i) (if tn.toInt = 0 then th i else wi i) ≤ (wn i : Int))) (pI_z (fun h => by omega)) ?_
      exact krdz (pI_narrow _) hx hb hr hlocks d_Bo_fits_63
    · refine lv_iconst (v := nI 1) hx hb d_Bo_fits_58 (by decide +kernel) ?_
      refine lv_goto (tgt := 63) hx hb d_Bo_fits_59 (by decide) ?_
      refine ka_i (y := pI (0 ≤ sumZ f side x.toInt y.toInt (if tn.toInt = 0 then wi i else th i) (if tn.toInt = 0 then th i else wi i) ∧ sumZ f side x.toInt y.toInt (if tn.toInt = 0 then wi i else th i) (if tn.toInt = 0 then th i else wi i) ≤ (wn i : Int))) (pI_1 (by omega)) ?_
      exact krdz (pI_narrow _) hx hb hr hlocks d_Bo_fits_63
set_option maxHeartbeats 4000000 in
set_option maxRecDepth 100000 in
theorem c_bareAt (l : Launch) (D : va_G) (cI cJ cZ : ClassId) (bo : Nat) (h0 : Nat) (side : Nat) (a1 : Nat) (a2 : Nat) (a3 : Nat) (a4 : Nat) (sm : Prop) (hz : Nat) (t1 : Nat) (t2 : Nat) (t3 : Nat) (t4 : Nat) (cn : Nat) (th : Nat → Nat) (wi : Nat → Nat) (F : Nat → Nat) (f : Nat → Nat → Nat) (i : Nat) (x : Int32) (y : Int32) (zx : Int) (zy : Int) (tn : Int32) (tz : Int) (s2 : side ≤ 20) (i8 : i < 8) (ht : ∀ k, k < 8 → th k ≤ 20) (hw : ∀ k, k < 8 → wi k ≤ 20) (ex : x.toInt = zx) (ey : y.toInt = zy) (et : tn.toInt = tz) (hF : ∀ X Y, X ≤ side → Y ≤ side → F (Y * (side + 1) + X) = psm f X Y) (hf : ∀ i j, i < side → j < side → f i j ≤ 10000) : kRead l y_Bo_bareAt w_Bo_bareAt ({ frames := 1, cells := 0, slots := 0, locals := 27 }) D vwCl (tyL cI cJ cZ) [(bo, .inr (2, [.ref hz, .ref h0])), (h0, .inr (3, [.int (nI side), .ref a1, .ref a2, .ref a3, .ref a4, .int (pI sm)])), (hz, .inr (5, [.ref t1, .ref t2, .ref t3, .ref t4, .int (nI cn)])), (t1, .inl (cI, 8, .inl (fun j => nI (th j)))), (t2, .inl (cI, 8, .inl (fun j => nI (wi j)))), (a3, .inl (cI, ((side + 1) * (side + 1)), .inl (fun j => nI (F j))))] [.ref bo, .int (nI i), .int x, .int y, .int tn] (.int (iI (sumZ f side zx zy (if tz = 0 then wi i else th i) (if tz = 0 then th i else wi i)))) := by
  refine Met.ofW (cc := b_Bo_bareAt) (maxL := 5) (ret := (some (.int))) (by decide) rfl ?_
  intro p e s m args below meth c s₁ B hml hv
  obtain ⟨rfl, hP, hK, hZ⟩ := hv
  have hx := B.exec
  have hb := B.bytes
  have hr := B.returns
  have hts := atoms_spec (ws := w_Bo_bareAt) B.pre
  have hown : s.vm.findClass R_Bo = some m.cls := findClass_of_methodNamed B.named
  have hlocks := B.notSynchronized
  have hP : va_P D vwCl [(bo, .inr (2, [.ref hz, .ref h0])), (h0, .inr (3, [.int (nI side), .ref a1, .ref a2, .ref a3, .ref a4, .int (pI sm)])), (hz, .inr (5, [.ref t1, .ref t2, .ref t3, .ref t4, .int (nI cn)])), (t1, .inl (cI, 8, .inl (fun j => nI (th j)))), (t2, .inl (cI, 8, .inl (fun j => nI (wi j)))), (a3, .inl (cI, ((side + 1) * (side + 1)), .inl (fun j => nI (F j))))] s.heap := hP
  have hl := lv_entry ([.ref bo, .int (nI i), .int x, .int y, .int tn]) (n := 5) (Nat.le_of_ble_eq_true rfl)
  rw [lg_entry_eq]
  generalize (lg_sl ([.ref bo, .int (nI i), .int x, .int y, .int tn]) ++ List.replicate (5 - (lg_sl ([.ref bo, .int (nI i), .int x, .int y, .int tn])).length) Slot.unset).toArray = ls at hl ⊢
  have hl : lv_has ls 5 [(0, .ref bo), (1, .int (nI i)), (2, .int x), (3, .int y), (4, .int tn)] := hl
  subst ex; subst ey; subst et
  have hAX : (if tn.toInt = 0 then wi i else th i) ≤ 20 := by
    have h1 := ht i i8
    have h2 := hw i i8
    split <;> omega
  have hAY : (if tn.toInt = 0 then th i else wi i) ≤ 20 := by
    have h1 := ht i i8
    have h2 := hw i i8
    split <;> omega
  have k1 := sumZ_lo f side x.toInt y.toInt (if tn.toInt = 0 then wi i else th i) (if tn.toInt = 0 then th i else wi i)
  have k2 := sumZ_hi (f := f) (side := side) x.toInt y.toInt (if tn.toInt = 0 then wi i else th i) (if tn.toInt = 0 then th i else wi i) s2 hf
  refine lv_aload_n hx hb d_Bo_bareAt_0 rfl (lv_at hl 0 rfl) ?_
  refine va_get (D := D) (ci := 2) (v := .ref h0) (C := R_Bo) (T := T_Bo) (N := 2) hx hb hts (fun w h => List.mem_cons_of_mem _ (iw_Bo w h)) hown hK hP 0 rfl rfl 1 (by decide) (hts _ (List.mem_cons_of_mem _ k_95)) (fun _ h9 => h9) rfl d_Bo_bareAt_1 ?_
  refine lv_aload_n hx hb d_Bo_bareAt_4 rfl (lv_at hl 0 rfl) ?_
  refine va_get (D := D) (ci := 2) (v := .ref h0) (C := R_Bo) (T := T_Bo) (N := 2) hx hb hts (fun w h => List.mem_cons_of_mem _ (iw_Bo w h)) hown hK hP 0 rfl rfl 1 (by decide) (hts _ (List.mem_cons_of_mem _ k_95)) (fun _ h9 => h9) rfl d_Bo_bareAt_5 ?_
  refine va_get (D := D) (ci := 3) (v := .ref a3) (C := R_Lo) (T := T_Lo) (N := 6) hx hb hts (fun w h => List.mem_cons_of_mem _ (iw_Lo w h)) hown hK hP 1 rfl rfl 3 (by decide) (hts _ (List.mem_cons_of_mem _ k_40)) (fun _ h9 => h9) rfl d_Bo_bareAt_8 ?_
  refine lv_iload_n hx hb d_Bo_bareAt_11 rfl (lv_at hl 2 rfl) ?_
  refine lv_iload_n hx hb d_Bo_bareAt_12 rfl (lv_at hl 3 rfl) ?_
  refine lv_aload_n hx hb d_Bo_bareAt_13 rfl (lv_at hl 0 rfl) ?_
  refine va_get (D := D) (ci := 2) (v := .ref hz) (C := R_Bo) (T := T_Bo) (N := 2) hx hb hts (fun w h => List.mem_cons_of_mem _ (iw_Bo w h)) hown hK hP 0 rfl rfl 0 (by decide) (hts _ (List.mem_cons_of_mem _ k_93)) (fun _ h9 => h9) rfl d_Bo_bareAt_14 ?_
  refine lv_iload_n hx hb d_Bo_bareAt_17 rfl (lv_at hl 1 rfl) ?_
  refine lv_iload hx hb d_Bo_bareAt_18 (lv_at hl 4 rfl) ?_
  refine kcallR (r := .int (nI (if tn.toInt = 0 then wi i else th i))) (va_runV (As := [.int (nI i), .int tn]) (rest := [.int y, .int x, .ref a3, .ref h0]) ⟨hx, hb, hml, hown, hts⟩ (c_alongX l D cI cJ cZ hz t1 t2 t3 t4 cn th wi i tn tn.toInt i8 rfl) ⟨callB_of 2 hts (gd kc_Si_alongX) rfl rfl rfl (hts _ (List.mem_cons_of_mem _ k_4)) (hts _ (List.mem_cons_of_mem _ k_244)) (by decide +kernel) ⟨Nat.le_of_ble_eq_true rfl, Nat.le_of_ble_eq_true rfl⟩, hts _ (List.mem_cons_of_mem _ k_245), hts _ (List.mem_cons_of_mem _ k_246)⟩ ⟨kR_blind, va_recv hK hP (ci := 5) (q0 := 2) rfl rfl, kR_at hP hK hZ [2, 3, 4] rfl⟩ rfl rfl hl.1 rfl (lv_room (Nat.le_of_ble_eq_true rfl)) d_Bo_bareAt_20 ⟨Nat.zero_le _, Nat.zero_le _⟩) ?_
  refine lv_aload_n hx hb d_Bo_bareAt_23 rfl (lv_at hl 0 rfl) ?_
  refine va_get (D := D) (ci := 2) (v := .ref hz) (C := R_Bo) (T := T_Bo) (N := 2) hx hb hts (fun w h => List.mem_cons_of_mem _ (iw_Bo w h)) hown hK hP 0 rfl rfl 0 (by decide) (hts _ (List.mem_cons_of_mem _ k_93)) (fun _ h9 => h9) rfl d_Bo_bareAt_24 ?_
  refine lv_iload_n hx hb d_Bo_bareAt_27 rfl (lv_at hl 1 rfl) ?_
  refine lv_iload hx hb d_Bo_bareAt_28 (lv_at hl 4 rfl) ?_
  refine kcallR (r := .int (nI (if tn.toInt = 0 then th i else wi i))) (va_runV (As := [.int (nI i), .int tn]) (rest := [.int (nI (if tn.toInt = 0 then wi i else th i)), .int y, .int x, .ref a3, .ref h0]) ⟨hx, hb, hml, hown, hts⟩ (c_alongY l D cI cJ cZ hz t1 t2 t3 t4 cn th wi i tn tn.toInt i8 rfl) ⟨callB_of 2 hts (gd kc_Si_alongY) rfl rfl rfl (hts _ (List.mem_cons_of_mem _ k_4)) (hts _ (List.mem_cons_of_mem _ k_248)) (by decide +kernel) ⟨Nat.le_of_ble_eq_true rfl, Nat.le_of_ble_eq_true rfl⟩, hts _ (List.mem_cons_of_mem _ k_249), hts _ (List.mem_cons_of_mem _ k_250)⟩ ⟨kR_blind, va_recv hK hP (ci := 5) (q0 := 2) rfl rfl, kR_at hP hK hZ [2, 3, 4] rfl⟩ rfl rfl hl.1 rfl (lv_room (Nat.le_of_ble_eq_true rfl)) d_Bo_bareAt_30 ⟨Nat.zero_le _, Nat.zero_le _⟩) ?_
  refine kcallR (r := .int (iI (sumZ f side x.toInt y.toInt (if tn.toInt = 0 then wi i else th i) (if tn.toInt = 0 then th i else wi i)))) (va_runV (As := [.ref a3, .int x, .int y, .int (nI (if tn.toInt = 0 then wi i else th i)), .int (nI (if tn.toInt = 0 then th i else wi i))]) (rest := []) ⟨hx, hb, hml, hown, hts⟩ (c_sumIn l D cI cJ cZ h0 side a1 a2 a3 a4 sm a3 F f x y x.toInt y.toInt (if tn.toInt = 0 then wi i else th i) (if tn.toInt = 0 then th i else wi i) s2 hAX hAY rfl rfl hF hf) ⟨callB_of 5 hts (gd kc_Lo_sumIn) rfl rfl rfl (hts _ (List.mem_cons_of_mem _ k_3)) (hts _ (List.mem_cons_of_mem _ k_252)) (by decide +kernel) ⟨Nat.le_of_ble_eq_true rfl, Nat.le_of_ble_eq_true rfl⟩, hts _ (List.mem_cons_of_mem _ k_253), hts _ (List.mem_cons_of_mem _ k_254)⟩ ⟨kR_blind, va_recv hK hP (ci := 3) (q0 := 1) rfl rfl, kR_at hP hK hZ [1, 5] rfl⟩ rfl rfl hl.1 rfl (lv_room (Nat.le_of_ble_eq_true rfl)) d_Bo_bareAt_33 ⟨Nat.zero_le _, Nat.zero_le _⟩) ?_
  exact krdi hx hb hr hlocks d_Bo_bareAt_36
set_option maxHeartbeats 4000000 in
set_option maxRecDepth 100000 in
theorem c_valueAt (l : Launch) (D : va_G) (cI cJ cZ : ClassId) (bo : Nat) (h0 : Nat) (side : Nat) (a1 : Nat) (a2 : Nat) (a3 : Nat) (a4 : Nat) (sm : Prop) (hz : Nat) (t1 : Nat) (t2 : Nat) (t3 : Nat) (t4 : Nat) (cn : Nat) (th : Nat → Nat) (wi : Nat → Nat) (wo : Nat → Nat) (F : Nat → Nat) (f : Nat → Nat → Nat) (i : Nat) (x : Int32) (y : Int32) (zx : Int) (zy : Int) (tn : Int32) (tz : Int) (s2 : side ≤ 20) (i8 : i < 8) (ht : ∀ k, k < 8 → th k ≤ 20) (hw : ∀ k, k < 8 → wi k ≤ 20) (ex : x.toInt = zx) (ey : y.toInt = zy) (et : tn.toInt = tz) (hF : ∀ X Y, X ≤ side → Y ≤ side → F (Y * (side + 1) + X) = psm f X Y) (hf : ∀ i j, i < side → j < side → f i j ≤ 10000) (ho : ∀ k, k < 8 → wo k ≤ 100000) : kRead l y_Bo_valueAt w_Bo_valueAt ({ frames := 1, cells := 0, slots := 0, locals := 27 }) D vwCl (tyL cI cJ cZ) [(bo, .inr (2, [.ref hz, .ref h0])), (h0, .inr (3, [.int (nI side), .ref a1, .ref a2, .ref a3, .ref a4, .int (pI sm)])), (hz, .inr (5, [.ref t1, .ref t2, .ref t3, .ref t4, .int (nI cn)])), (t1, .inl (cI, 8, .inl (fun j => nI (th j)))), (t2, .inl (cI, 8, .inl (fun j => nI (wi j)))), (t3, .inl (cI, 8, .inl (fun j => nI (wo j)))), (a4, .inl (cI, ((side + 1) * (side + 1)), .inl (fun j => nI (F j))))] [.ref bo, .int (nI i), .int x, .int y, .int tn] (.int (iI (max 0 ((wo i : Int) - sumZ f side zx zy (if tz = 0 then wi i else th i) (if tz = 0 then th i else wi i))))) := by
  refine Met.ofW (cc := b_Bo_valueAt) (maxL := 6) (ret := (some (.int))) (by decide) rfl ?_
  intro p e s m args below meth c s₁ B hml hv
  obtain ⟨rfl, hP, hK, hZ⟩ := hv
  have hx := B.exec
  have hb := B.bytes
  have hr := B.returns
  have hts := atoms_spec (ws := w_Bo_valueAt) B.pre
  have hown : s.vm.findClass R_Bo = some m.cls := findClass_of_methodNamed B.named
  have hlocks := B.notSynchronized
  have hP : va_P D vwCl [(bo, .inr (2, [.ref hz, .ref h0])), (h0, .inr (3, [.int (nI side), .ref a1, .ref a2, .ref a3, .ref a4, .int (pI sm)])), (hz, .inr (5, [.ref t1, .ref t2, .ref t3, .ref t4, .int (nI cn)])), (t1, .inl (cI, 8, .inl (fun j => nI (th j)))), (t2, .inl (cI, 8, .inl (fun j => nI (wi j)))), (t3, .inl (cI, 8, .inl (fun j => nI (wo j)))), (a4, .inl (cI, ((side + 1) * (side + 1)), .inl (fun j => nI (F j))))] s.heap := hP
  have hl := lv_entry ([.ref bo, .int (nI i), .int x, .int y, .int tn]) (n := 6) (Nat.le_of_ble_eq_true rfl)
  rw [lg_entry_eq]
  generalize (lg_sl ([.ref bo, .int (nI i), .int x, .int y, .int tn]) ++ List.replicate (6 - (lg_sl ([.ref bo, .int (nI i), .int x, .int y, .int tn])).length) Slot.unset).toArray = ls at hl ⊢
  have hl : lv_has ls 6 [(0, .ref bo), (1, .int (nI i)), (2, .int x), (3, .int y), (4, .int tn)] := hl
  subst ex; subst ey; subst et
  have hAX : (if tn.toInt = 0 then wi i else th i) ≤ 20 := by
    have h1 := ht i i8
    have h2 := hw i i8
    split <;> omega
  have hAY : (if tn.toInt = 0 then th i else wi i) ≤ 20 := by
    have h1 := ht i i8
    have h2 := hw i i8
    split <;> omega
  have k1 := sumZ_lo f side x.toInt y.toInt (if tn.toInt = 0 then wi i else th i) (if tn.toInt = 0 then th i else wi i)
  have k2 := sumZ_hi (f := f) (side := side) x.toInt y.toInt (if tn.toInt = 0 then wi i else th i) (if tn.toInt = 0 then th i else wi i) s2 hf
  refine lv_aload_n hx hb d_Bo_valueAt_0 rfl (lv_at hl 0 rfl) ?_
  refine va_get (D := D) (ci := 2) (v := .ref h0) (C := R_Bo) (T := T_Bo) (N := 2) hx hb hts (fun w h => List.mem_cons_of_mem _ (iw_Bo w h)) hown hK hP 0 rfl rfl 1 (by decide) (hts _ (List.mem_cons_of_mem _ k_95)) (fun _ h9 => h9) rfl d_Bo_valueAt_1 ?_
  refine lv_aload_n hx hb d_Bo_valueAt_4 rfl (lv_at hl 0 rfl) ?_
  refine va_get (D := D) (ci := 2) (v := .ref h0) (C := R_Bo) (T := T_Bo) (N := 2) hx hb hts (fun w h => List.mem_cons_of_mem _ (iw_Bo w h)) hown hK hP 0 rfl rfl 1 (by decide) (hts _ (List.mem_cons_of_mem _ k_95)) (fun _ h9 => h9) rfl d_Bo_valueAt_5 ?_
  refine va_get (D := D) (ci := 3) (v := .ref a4) (C := R_Lo) (T := T_Lo) (N := 6) hx hb hts (fun w h => List.mem_cons_of_mem _ (iw_Lo w h)) hown hK hP 1 rfl rfl 4 (by decide) (hts _ (List.mem_cons_of_mem _ k_42)) (fun _ h9 => h9) rfl d_Bo_valueAt_8 ?_
  refine lv_iload_n hx hb d_Bo_valueAt_11 rfl (lv_at hl 2 rfl) ?_
  refine lv_iload_n hx hb d_Bo_valueAt_12 rfl (lv_at hl 3 rfl) ?_
  refine lv_aload_n hx hb d_Bo_valueAt_13 rfl (lv_at hl 0 rfl) ?_
  refine va_get (D := D) (ci := 2) (v := .ref hz) (C := R_Bo) (T := T_Bo) (N := 2) hx hb hts (fun w h => List.mem_cons_of_mem _ (iw_Bo w h)) hown hK hP 0 rfl rfl 0 (by decide) (hts _ (List.mem_cons_of_mem _ k_93)) (fun _ h9 => h9) rfl d_Bo_valueAt_14 ?_
  refine lv_iload_n hx hb d_Bo_valueAt_17 rfl (lv_at hl 1 rfl) ?_
  refine lv_iload hx hb d_Bo_valueAt_18 (lv_at hl 4 rfl) ?_
  refine kcallR (r := .int (nI (if tn.toInt = 0 then wi i else th i))) (va_runV (As := [.int (nI i), .int tn]) (rest := [.int y, .int x, .ref a4, .ref h0]) ⟨hx, hb, hml, hown, hts⟩ (c_alongX l D cI cJ cZ hz t1 t2 t3 t4 cn th wi i tn tn.toInt i8 rfl) ⟨callB_of 2 hts (gd kc_Si_alongX) rfl rfl rfl (hts _ (List.mem_cons_of_mem _ k_4)) (hts _ (List.mem_cons_of_mem _ k_244)) (by decide +kernel) ⟨Nat.le_of_ble_eq_true rfl, Nat.le_of_ble_eq_true rfl⟩, hts _ (List.mem_cons_of_mem _ k_245), hts _ (List.mem_cons_of_mem _ k_246)⟩ ⟨kR_blind, va_recv hK hP (ci := 5) (q0 := 2) rfl rfl, kR_at hP hK hZ [2, 3, 4] rfl⟩ rfl rfl hl.1 rfl (lv_room (Nat.le_of_ble_eq_true rfl)) d_Bo_valueAt_20 ⟨Nat.zero_le _, Nat.zero_le _⟩) ?_
  refine lv_aload_n hx hb d_Bo_valueAt_23 rfl (lv_at hl 0 rfl) ?_
  refine va_get (D := D) (ci := 2) (v := .ref hz) (C := R_Bo) (T := T_Bo) (N := 2) hx hb hts (fun w h => List.mem_cons_of_mem _ (iw_Bo w h)) hown hK hP 0 rfl rfl 0 (by decide) (hts _ (List.mem_cons_of_mem _ k_93)) (fun _ h9 => h9) rfl d_Bo_valueAt_24 ?_
  refine lv_iload_n hx hb d_Bo_valueAt_27 rfl (lv_at hl 1 rfl) ?_
  refine lv_iload hx hb d_Bo_valueAt_28 (lv_at hl 4 rfl) ?_
  refine kcallR (r := .int (nI (if tn.toInt = 0 then th i else wi i))) (va_runV (As := [.int (nI i), .int tn]) (rest := [.int (nI (if tn.toInt = 0 then wi i else th i)), .int y, .int x, .ref a4, .ref h0]) ⟨hx, hb, hml, hown, hts⟩ (c_alongY l D cI cJ cZ hz t1 t2 t3 t4 cn th wi i tn tn.toInt i8 rfl) ⟨callB_of 2 hts (gd kc_Si_alongY) rfl rfl rfl (hts _ (List.mem_cons_of_mem _ k_4)) (hts _ (List.mem_cons_of_mem _ k_248)) (by decide +kernel) ⟨Nat.le_of_ble_eq_true rfl, Nat.le_of_ble_eq_true rfl⟩, hts _ (List.mem_cons_of_mem _ k_249), hts _ (List.mem_cons_of_mem _ k_250)⟩ ⟨kR_blind, va_recv hK hP (ci := 5) (q0 := 2) rfl rfl, kR_at hP hK hZ [2, 3, 4] rfl⟩ rfl rfl hl.1 rfl (lv_room (Nat.le_of_ble_eq_true rfl)) d_Bo_valueAt_30 ⟨Nat.zero_le _, Nat.zero_le _⟩) ?_
  refine kcallR (r := .int (iI (sumZ f side x.toInt y.toInt (if tn.toInt = 0 then wi i else th i) (if tn.toInt = 0 then th i else wi i)))) (va_runV (As := [.ref a4, .int x, .int y, .int (nI (if tn.toInt = 0 then wi i else th i)), .int (nI (if tn.toInt = 0 then th i else wi i))]) (rest := []) ⟨hx, hb, hml, hown, hts⟩ (c_sumIn l D cI cJ cZ h0 side a1 a2 a3 a4 sm a4 F f x y x.toInt y.toInt (if tn.toInt = 0 then wi i else th i) (if tn.toInt = 0 then th i else wi i) s2 hAX hAY rfl rfl hF hf) ⟨callB_of 5 hts (gd kc_Lo_sumIn) rfl rfl rfl (hts _ (List.mem_cons_of_mem _ k_3)) (hts _ (List.mem_cons_of_mem _ k_252)) (by decide +kernel) ⟨Nat.le_of_ble_eq_true rfl, Nat.le_of_ble_eq_true rfl⟩, hts _ (List.mem_cons_of_mem _ k_253), hts _ (List.mem_cons_of_mem _ k_254)⟩ ⟨kR_blind, va_recv hK hP (ci := 3) (q0 := 1) rfl rfl, kR_at hP hK hZ [1, 6] rfl⟩ rfl rfl hl.1 rfl (lv_room (Nat.le_of_ble_eq_true rfl)) d_Bo_valueAt_33 ⟨Nat.zero_le _, Nat.zero_le _⟩) ?_
  have k3 := ho i i8
  refine lv_istore (lv' := [(5, .int (iI (sumZ f side x.toInt y.toInt (if tn.toInt = 0 then wi i else th i) (if tn.toInt = 0 then th i else wi i)))), (0, .ref bo), (1, .int (nI i)), (2, .int x), (3, .int y), (4, .int tn)]) hx hb d_Bo_valueAt_36 hl (by decide) rfl (fun ls hl => ?_)
  refine lv_iconst (v := nI 0) hx hb d_Bo_valueAt_38 (by decide +kernel) ?_
  refine lv_aload_n hx hb d_Bo_valueAt_39 rfl (lv_at hl 1 rfl) ?_
  refine va_get (D := D) (ci := 2) (v := .ref hz) (C := R_Bo) (T := T_Bo) (N := 2) hx hb hts (fun w h => List.mem_cons_of_mem _ (iw_Bo w h)) hown hK hP 0 rfl rfl 0 (by decide) (hts _ (List.mem_cons_of_mem _ k_93)) (fun _ h9 => h9) rfl d_Bo_valueAt_40 ?_
  refine va_get (D := D) (ci := 5) (v := .ref t3) (C := R_Si) (T := T_Si) (N := 5) hx hb hts (fun w h => List.mem_cons_of_mem _ (iw_Si w h)) hown hK hP 2 rfl rfl 2 (by decide) (hts _ (List.mem_cons_of_mem _ k_70)) (fun _ h9 => h9) rfl d_Bo_valueAt_43 ?_
  refine lv_iload_n hx hb d_Bo_valueAt_46 rfl (lv_at hl 2 rfl) ?_
  refine ka_iald (k := i) (n := 8) (f := fun j => nI (wo j)) (nI_t (by omega)) (by omega) hx hb hK hP 5 0 rfl rfl d_Bo_valueAt_47 ?_
  refine lv_iload hx hb d_Bo_valueAt_48 (lv_at hl 0 rfl) ?_
  refine lv_isub hx hb d_Bo_valueAt_50 ?_
  refine ka_i (y := iI (((wo i : Nat) : Int) - (sumZ f side x.toInt y.toInt (if tn.toInt = 0 then wi i else th i) (if tn.toInt = 0 then th i else wi i)))) (by rw [iI_of (wo i)]; exact iI_sub _ _) ?_
  refine va_mmax hx hb (hml.trans hl.1.symm) hown (hts _ (List.mem_cons_of_mem _ k_260)) (hts _ (List.mem_cons_of_mem _ k_27)) (hts _ (List.mem_cons_of_mem _ k_2)) (hts _ (List.mem_cons_of_mem _ k_28)) (Nat.le_of_ble_eq_true rfl) (Nat.le_of_ble_eq_true rfl) (Nat.zero_le _) (Nat.zero_le _) d_Bo_valueAt_51 ?_
  refine ka_i (y := iI (max ((0 : Nat) : Int) (((wo i : Nat) : Int) - (sumZ f side x.toInt y.toInt (if tn.toInt = 0 then wi i else th i) (if tn.toInt = 0 then th i else wi i))))) (mmax32 (nI_t (by omega)) (iI_t (by omega) (by omega))) ?_
  refine ka_i (y := iI (max 0 ((wo i : Int) - sumZ f side x.toInt y.toInt (if tn.toInt = 0 then wi i else th i) (if tn.toInt = 0 then th i else wi i)))) (rfl) ?_
  exact krdi hx hb hr hlocks d_Bo_valueAt_54
set_option maxHeartbeats 4000000 in
set_option maxRecDepth 100000 in
theorem c_woodCells (l : Launch) (D : va_G) (cI cJ cZ : ClassId) (h0 : Nat) (side : Nat) (a1 : Nat) (a2 : Nat) (a3 : Nat) (a4 : Nat) (sm : Prop) (F : Nat → Nat) (f : Nat → Nat → Nat) (s2 : side ≤ 20) (hF : ∀ X Y, X ≤ side → Y ≤ side → F (Y * (side + 1) + X) = psm f X Y) (hf : ∀ i j, i < side → j < side → f i j ≤ 10000) : kRead l y_Lo_woodCells w_Lo_woodCells ({ frames := 1, cells := 0, slots := 0, locals := 27 }) D vwCl (tyL cI cJ cZ) [(h0, .inr (3, [.int (nI side), .ref a1, .ref a2, .ref a3, .ref a4, .int (pI sm)])), (a3, .inl (cI, ((side + 1) * (side + 1)), .inl (fun j => nI (F j))))] [.ref h0] (.int (iI (((side * side : Nat) : Int) - (rcs f 0 0 side side : Int)))) := by
  refine Met.ofW (cc := b_Lo_woodCells) (maxL := 1) (ret := (some (.int))) (by decide) rfl ?_
  intro p e s m args below meth c s₁ B hml hv
  obtain ⟨rfl, hP, hK, hZ⟩ := hv
  have hx := B.exec
  have hb := B.bytes
  have hr := B.returns
  have hts := atoms_spec (ws := w_Lo_woodCells) B.pre
  have hown : s.vm.findClass R_Lo = some m.cls := findClass_of_methodNamed B.named
  have hlocks := B.notSynchronized
  have hP : va_P D vwCl [(h0, .inr (3, [.int (nI side), .ref a1, .ref a2, .ref a3, .ref a4, .int (pI sm)])), (a3, .inl (cI, ((side + 1) * (side + 1)), .inl (fun j => nI (F j))))] s.heap := hP
  have hl := lv_entry ([.ref h0]) (n := 1) (Nat.le_of_ble_eq_true rfl)
  rw [lg_entry_eq]
  generalize (lg_sl ([.ref h0]) ++ List.replicate (1 - (lg_sl ([.ref h0])).length) Slot.unset).toArray = ls at hl ⊢
  have hl : lv_has ls 1 [(0, .ref h0)] := hl
  refine lv_aload_n hx hb d_Lo_woodCells_0 rfl (lv_at hl 0 rfl) ?_
  refine va_get (D := D) (ci := 3) (v := .int (nI side)) (C := R_Lo) (T := T_Lo) (N := 6) hx hb hts (fun w h => List.mem_cons_of_mem _ (iw_Lo w h)) hown hK hP 0 rfl rfl 0 (by decide) (hts _ (List.mem_cons_of_mem _ k_35)) (fun _ h9 => h9) rfl d_Lo_woodCells_1 ?_
  refine lv_aload_n hx hb d_Lo_woodCells_4 rfl (lv_at hl 0 rfl) ?_
  refine va_get (D := D) (ci := 3) (v := .int (nI side)) (C := R_Lo) (T := T_Lo) (N := 6) hx hb hts (fun w h => List.mem_cons_of_mem _ (iw_Lo w h)) hown hK hP 0 rfl rfl 0 (by decide) (hts _ (List.mem_cons_of_mem _ k_35)) (fun _ h9 => h9) rfl d_Lo_woodCells_5 ?_
  refine lv_imul hx hb d_Lo_woodCells_8 ?_
  refine ka_i (y := nI (side * side)) (pk_mul _ _) ?_
  refine lv_aload_n hx hb d_Lo_woodCells_9 rfl (lv_at hl 0 rfl) ?_
  refine lv_aload_n hx hb d_Lo_woodCells_10 rfl (lv_at hl 0 rfl) ?_
  refine va_get (D := D) (ci := 3) (v := .ref a3) (C := R_Lo) (T := T_Lo) (N := 6) hx hb hts (fun w h => List.mem_cons_of_mem _ (iw_Lo w h)) hown hK hP 0 rfl rfl 3 (by decide) (hts _ (List.mem_cons_of_mem _ k_39)) (fun _ h9 => h9) rfl d_Lo_woodCells_11 ?_
  refine lv_iconst (v := nI 0) hx hb d_Lo_woodCells_14 (by decide +kernel) ?_
  refine lv_iconst (v := nI 0) hx hb d_Lo_woodCells_15 (by decide +kernel) ?_
  refine lv_aload_n hx hb d_Lo_woodCells_16 rfl (lv_at hl 0 rfl) ?_
  refine va_get (D := D) (ci := 3) (v := .int (nI side)) (C := R_Lo) (T := T_Lo) (N := 6) hx hb hts (fun w h => List.mem_cons_of_mem _ (iw_Lo w h)) hown hK hP 0 rfl rfl 0 (by decide) (hts _ (List.mem_cons_of_mem _ k_35)) (fun _ h9 => h9) rfl d_Lo_woodCells_17 ?_
  refine lv_aload_n hx hb d_Lo_woodCells_20 rfl (lv_at hl 0 rfl) ?_
  refine va_get (D := D) (ci := 3) (v := .int (nI side)) (C := R_Lo) (T := T_Lo) (N := 6) hx hb hts (fun w h => List.mem_cons_of_mem _ (iw_Lo w h)) hown hK hP 0 rfl rfl 0 (by decide) (hts _ (List.mem_cons_of_mem _ k_35)) (fun _ h9 => h9) rfl d_Lo_woodCells_21 ?_
  refine kcallR (r := .int (iI (sumZ f side ((0 : Nat) : Int) ((0 : Nat) : Int) side side))) (va_runV (As := [.ref a3, .int (nI 0), .int (nI 0), .int (nI side), .int (nI side)]) (rest := [.int (nI (side * side))]) ⟨hx, hb, hml, hown, hts⟩ (c_sumIn l D cI cJ cZ h0 side a1 a2 a3 a4 sm a3 F f (nI 0) (nI 0) ((0 : Nat) : Int) ((0 : Nat) : Int) side side (by omega) (by omega) (by omega) (nI_t (by omega)) (nI_t (by omega)) hF hf) ⟨callB_of 5 hts (gd kc_Lo_sumIn) rfl rfl rfl (hts _ (List.mem_cons_of_mem _ k_3)) (hts _ (List.mem_cons_of_mem _ k_298)) (by decide +kernel) ⟨Nat.le_of_ble_eq_true rfl, Nat.le_of_ble_eq_true rfl⟩, hts _ (List.mem_cons_of_mem _ k_253), hts _ (List.mem_cons_of_mem _ k_254)⟩ ⟨kR_blind, va_recv hK hP (ci := 3) (q0 := 0) rfl rfl, kR_at hP hK hZ [0, 1] rfl⟩ rfl rfl hl.1 rfl (lv_room (Nat.le_of_ble_eq_true rfl)) d_Lo_woodCells_24 ⟨Nat.zero_le _, Nat.zero_le _⟩) ?_
  refine ka_i (y := iI (rcs f 0 0 side side : Int)) (congrArg iI (sumZ_in (X := 0) (Y := 0) rfl rfl (by omega) (by omega))) ?_
  refine lv_isub hx hb d_Lo_woodCells_27 ?_
  refine ka_i (y := iI (((side * side : Nat) : Int) - (rcs f 0 0 side side : Int))) (by rw [iI_of (side * side)]; exact iI_sub _ _) ?_
  exact krdi hx hb hr hlocks d_Lo_woodCells_28
set_option maxHeartbeats 4000000 in
set_option maxRecDepth 100000 in
theorem c_areApart (l : Launch) (D : va_G) (cI cJ cZ : ClassId) (hs : Nat) (kf : Nat) (h0 : Nat) (hz : Nat) (bo : Nat) (hb_ : Nat) (hp : Nat) (sw : Prop) (p1 : Nat) (q1 : Nat) (p2 : Nat) (q2 : Nat) (b1 : p1 ≤ 20) (b2 : q1 ≤ 20) (b3 : p2 ≤ 20) (b4 : q2 ≤ 20) (b5 : kf ≤ 4) : kRead l y_SG_areApart w_SG_areApart ({ frames := 0, cells := 0, slots := 0, locals := 0 }) D vwCl (tyL cI cJ cZ) [(hs, .inr (0, [.int (nI kf), .ref h0, .ref hz, .ref bo, .ref hb_, .ref hp, .int (pI sw)]))] [.ref hs, .int (nI p1), .int (nI q1), .int (nI p2), .int (nI q2)] (.int (pI (p1 + q1 + kf ≤ p2 ∨ p2 + q2 + kf ≤ p1))) := by
  refine Met.ofW (cc := b_SG_areApart) (maxL := 5) (ret := (some (.boolean))) (by decide) rfl ?_
  intro p e s m args below meth c s₁ B hml hv
  obtain ⟨rfl, hP, hK, hZ⟩ := hv
  have hx := B.exec
  have hb := B.bytes
  have hr := B.returns
  have hts := atoms_spec (ws := w_SG_areApart) B.pre
  have hown : s.vm.findClass R_SG = some m.cls := findClass_of_methodNamed B.named
  have hlocks := B.notSynchronized
  have hP : va_P D vwCl [(hs, .inr (0, [.int (nI kf), .ref h0, .ref hz, .ref bo, .ref hb_, .ref hp, .int (pI sw)]))] s.heap := hP
  have hl := lv_entry ([.ref hs, .int (nI p1), .int (nI q1), .int (nI p2), .int (nI q2)]) (n := 5) (Nat.le_of_ble_eq_true rfl)
  rw [lg_entry_eq]
  generalize (lg_sl ([.ref hs, .int (nI p1), .int (nI q1), .int (nI p2), .int (nI q2)]) ++ List.replicate (5 - (lg_sl ([.ref hs, .int (nI p1), .int (nI q1), .int (nI p2), .int (nI q2)])).length) Slot.unset).toArray = ls at hl ⊢
  have hl : lv_has ls 5 [(0, .ref hs), (1, .int (nI p1)), (2, .int (nI q1)), (3, .int (nI p2)), (4, .int (nI q2))] := hl
  refine lv_iload_n hx hb d_SG_areApart_0 rfl (lv_at hl 1 rfl) ?_
  refine lv_iload_n hx hb d_SG_areApart_1 rfl (lv_at hl 2 rfl) ?_
  refine lv_iadd hx hb d_SG_areApart_2 ?_
  refine ka_i (y := nI (p1 + q1)) (nI_add _ _) ?_
  refine lv_aload_n hx hb d_SG_areApart_3 rfl (lv_at hl 0 rfl) ?_
  refine va_get (D := D) (ci := 0) (v := .int (nI kf)) (C := R_SG) (T := T_SG) (N := 7) hx hb hts (fun w h => List.mem_cons_of_mem _ (iw_SG w h)) hown hK hP 0 rfl rfl 0 (by decide) (hts _ (List.mem_cons_of_mem _ k_178)) (fun _ h9 => h9) rfl d_SG_areApart_4 ?_
  refine lv_iadd hx hb d_SG_areApart_7 ?_
  refine ka_i (y := nI ((p1 + q1) + kf)) (nI_add _ _) ?_
  refine lv_iload_n hx hb d_SG_areApart_8 rfl (lv_at hl 3 rfl) ?_
  refine kb_cle (tgt := 25) (nI_t (by omega)) (nI_t (by omega)) hx hb d_SG_areApart_9 (by decide) (fun c_9 => ?_) (fun c_9 => ?_)
  · refine lv_iconst (v := nI 1) hx hb d_SG_areApart_25 (by decide +kernel) ?_
    refine lv_goto (tgt := 30) hx hb d_SG_areApart_26 (by decide) ?_
    refine ka_i (y := pI (p1 + q1 + kf ≤ p2 ∨ p2 + q2 + kf ≤ p1)) (pI_1 (by omega)) ?_
    exact krdz (pI_narrow _) hx hb hr hlocks d_SG_areApart_30
  · refine lv_iload_n hx hb d_SG_areApart_12 rfl (lv_at hl 3 rfl) ?_
    refine lv_iload hx hb d_SG_areApart_13 (lv_at hl 4 rfl) ?_
    refine lv_iadd hx hb d_SG_areApart_15 ?_
    refine ka_i (y := nI (p2 + q2)) (nI_add _ _) ?_
    refine lv_aload_n hx hb d_SG_areApart_16 rfl (lv_at hl 0 rfl) ?_
    refine va_get (D := D) (ci := 0) (v := .int (nI kf)) (C := R_SG) (T := T_SG) (N := 7) hx hb hts (fun w h => List.mem_cons_of_mem _ (iw_SG w h)) hown hK hP 0 rfl rfl 0 (by decide) (hts _ (List.mem_cons_of_mem _ k_178)) (fun _ h9 => h9) rfl d_SG_areApart_17 ?_
    refine lv_iadd hx hb d_SG_areApart_20 ?_
    refine ka_i (y := nI ((p2 + q2) + kf)) (nI_add _ _) ?_
    refine lv_iload_n hx hb d_SG_areApart_21 rfl (lv_at hl 1 rfl) ?_
    refine kb_cgt (tgt := 29) (nI_t (by omega)) (nI_t (by omega)) hx hb d_SG_areApart_22 (by decide) (fun c_22 => ?_) (fun c_22 => ?_)
    · refine lv_iconst (v := nI 0) hx hb d_SG_areApart_29 (by decide +kernel) ?_
      refine ka_i (y := pI (p1 + q1 + kf ≤ p2 ∨ p2 + q2 + kf ≤ p1)) (pI_z (fun h => by omega)) ?_
      exact krdz (pI_narrow _) hx hb hr hlocks d_SG_areApart_30
    · refine lv_iconst (v := nI 1) hx hb d_SG_areApart_25 (by decide +kernel) ?_
      refine lv_goto (tgt := 30) hx hb d_SG_areApart_26 (by decide) ?_
      refine ka_i (y := pI (p1 + q1 + kf ≤ p2 ∨ p2 + q2 + kf ≤ p1)) (pI_1 (by omega)) ?_
      exact krdz (pI_narrow _) hx hb hr hlocks d_SG_areApart_30
set_option maxHeartbeats 4000000 in
set_option maxRecDepth 100000 in
theorem c_haveT (l : Launch) (D : va_G) (cI cJ cZ : ClassId) (hz : Nat) (t1 : Nat) (t2 : Nat) (t3 : Nat) (t4 : Nat) (cn : Nat) (th : Nat → Nat) (x : Nat) (n8 : cn ≤ 8) (xb : x ≤ 20) (ht : ∀ k, k < 8 → th k ≤ 20) : kRead l y_Si_haveThickness w_Si_haveThickness ({ frames := 0, cells := 0, slots := 0, locals := 0 }) D vwCl (tyL cI cJ cZ) [(hz, .inr (5, [.ref t1, .ref t2, .ref t3, .ref t4, .int (nI cn)])), (t1, .inl (cI, 8, .inl (fun j => nI (th j))))] [.ref hz, .int (nI x)] (.int (pI (∃ k_, k_ < cn ∧ th k_ = x))) := by
  refine Met.ofW (cc := b_Si_haveThickness) (maxL := 3) (ret := (some (.boolean))) (by decide) rfl ?_
  intro p e s m args below meth c s₁ B hml hv
  obtain ⟨rfl, hP, hK, hZ⟩ := hv
  have hx := B.exec
  have hb := B.bytes
  have hr := B.returns
  have hts := atoms_spec (ws := w_Si_haveThickness) B.pre
  have hown : s.vm.findClass R_Si = some m.cls := findClass_of_methodNamed B.named
  have hlocks := B.notSynchronized
  have hP : va_P D vwCl [(hz, .inr (5, [.ref t1, .ref t2, .ref t3, .ref t4, .int (nI cn)])), (t1, .inl (cI, 8, .inl (fun j => nI (th j))))] s.heap := hP
  have hl := lv_entry ([.ref hz, .int (nI x)]) (n := 3) (Nat.le_of_ble_eq_true rfl)
  rw [lg_entry_eq]
  generalize (lg_sl ([.ref hz, .int (nI x)]) ++ List.replicate (3 - (lg_sl ([.ref hz, .int (nI x)])).length) Slot.unset).toArray = ls at hl ⊢
  have hl : lv_has ls 3 [(0, .ref hz), (1, .int (nI x))] := hl
  refine lv_iconst (v := nI 0) hx hb d_Si_haveThickness_0 (by decide +kernel) ?_
  refine lv_istore_n (lv' := [(2, .int (nI 0)), (0, .ref hz), (1, .int (nI x))]) hx hb d_Si_haveThickness_1 rfl hl (by decide) rfl (fun ls hl => ?_)
  have lp : ∀ (n : Nat) (i : Nat), (i + n = cn) → (∀ k, k < i → ¬ th k = x) → ∀ ls : Array Slot, lv_has ls 3 [(2, .int (nI i)), (0, .ref hz), (1, .int (nI x))] → W p l e (headSpec w_Si_haveThickness ({ frames := 0, cells := 0, slots := 0, locals := 0 })).room s m ([.ref hz, .int (nI x)]).toArray below meth c s.heap [] 0 0 (MQ below (k2_QcV (.int (pI (∃ k_, k_ < cn ∧ th k_ = x)))) ([.ref hz, .int (nI x)]).toArray s 0 0 (fun _ => False)) (F0 m 2 ls []) := by
    intro n
    induction n with
    | zero =>
      intro i hi no ls hl
      refine lv_iload_n hx hb d_Si_haveThickness_2 rfl (lv_at hl 0 rfl) ?_
      refine lv_aload_n hx hb d_Si_haveThickness_3 rfl (lv_at hl 1 rfl) ?_
      refine va_get (D := D) (ci := 5) (v := .int (nI cn)) (C := R_Si) (T := T_Si) (N := 5) hx hb hts (fun w h => List.mem_cons_of_mem _ (iw_Si w h)) hown hK hP 0 rfl rfl 4 (by decide) (hts _ (List.mem_cons_of_mem _ k_73)) (fun _ h9 => h9) rfl d_Si_haveThickness_4 ?_
      refine kb_cge (tgt := 28) (nI_t (by omega)) (nI_t (by omega)) hx hb d_Si_haveThickness_7 (by decide) (fun c_7 => ?_) (fun c_7 => ?_)
      · refine lv_iconst (v := nI 0) hx hb d_Si_haveThickness_28 (by decide +kernel) ?_
        refine ka_i (y := pI (∃ k_, k_ < cn ∧ th k_ = x)) (pI_z (fun ⟨k, hk, e⟩ => no k (by omega) e)) ?_
        exact krdz (pI_narrow _) hx hb hr hlocks d_Si_haveThickness_29
      · exfalso; omega
    | succ n ih =>
      intro i hi no ls hl
      refine lv_iload_n hx hb d_Si_haveThickness_2 rfl (lv_at hl 0 rfl) ?_
      refine lv_aload_n hx hb d_Si_haveThickness_3 rfl (lv_at hl 1 rfl) ?_
      refine va_get (D := D) (ci := 5) (v := .int (nI cn)) (C := R_Si) (T := T_Si) (N := 5) hx hb hts (fun w h => List.mem_cons_of_mem _ (iw_Si w h)) hown hK hP 0 rfl rfl 4 (by decide) (hts _ (List.mem_cons_of_mem _ k_73)) (fun _ h9 => h9) rfl d_Si_haveThickness_4 ?_
      refine kb_cge (tgt := 28) (nI_t (by omega)) (nI_t (by omega)) hx hb d_Si_haveThickness_7 (by decide) (fun c_7 => ?_) (fun c_7 => ?_)
      · exfalso; omega
      · have q := ht i (by omega)
        refine lv_aload_n hx hb d_Si_haveThickness_10 rfl (lv_at hl 1 rfl) ?_
        refine va_get (D := D) (ci := 5) (v := .ref t1) (C := R_Si) (T := T_Si) (N := 5) hx hb hts (fun w h => List.mem_cons_of_mem _ (iw_Si w h)) hown hK hP 0 rfl rfl 0 (by decide) (hts _ (List.mem_cons_of_mem _ k_65)) (fun _ h9 => h9) rfl d_Si_haveThickness_11 ?_
        refine lv_iload_n hx hb d_Si_haveThickness_14 rfl (lv_at hl 0 rfl) ?_
        refine ka_iald (k := i) (n := 8) (f := fun j => nI (th j)) (nI_t (by omega)) (by omega) hx hb hK hP 1 0 rfl rfl d_Si_haveThickness_15 ?_
        refine lv_iload_n hx hb d_Si_haveThickness_16 rfl (lv_at hl 2 rfl) ?_
        refine kb_cne (tgt := 22) (nI_t (by omega)) (nI_t (by omega)) hx hb d_Si_haveThickness_17 (by decide) (fun c_17 => ?_) (fun c_17 => ?_)
        · refine lv_iinc (v := nI (i + 1)) (lv' := [(2, .int (nI (i + 1))), (0, .ref hz), (1, .int (nI x))]) hx hb d_Si_haveThickness_22 hl (k := 0) rfl (nI_add _ 1) (by decide) rfl (fun ls hl => ?_)
          refine lv_goto (tgt := 2) hx hb d_Si_haveThickness_25 (by decide) ?_
          exact ih (i + 1) (by omega) (fun k hk => by
              rcases Nat.lt_or_ge k i with q | q
              · exact no k q
              · have e : k = i := by omega
                subst e
                omega) ls (lv_sub hl [0, 1, 2] rfl)
        · refine lv_iconst (v := nI 1) hx hb d_Si_haveThickness_20 (by decide +kernel) ?_
          refine ka_i (y := pI (∃ k_, k_ < cn ∧ th k_ = x)) (pI_1 (⟨i, by omega, by omega⟩)) ?_
          exact krdz (pI_narrow _) hx hb hr hlocks d_Si_haveThickness_21
  exact lp cn 0 (by omega) (fun k hk => absurd hk (Nat.not_lt_zero k)) ls (lv_sub hl [0, 1, 2] rfl)
end
section
theorem d_Lo_mark_0 : decode b_Lo_mark 0 = .ok (.iload_n 1, 1) := by decide +kernel
theorem d_Lo_mark_1 : decode b_Lo_mark 1 = .ok (.aload_n 0, 1) := by decide +kernel
theorem d_Lo_mark_2 : decode b_Lo_mark 2 = .ok (.getfield 9, 3) := by decide +kernel
theorem d_Lo_mark_5 : decode b_Lo_mark 5 = .ok (.imul, 1) := by decide +kernel
theorem d_Lo_mark_6 : decode b_Lo_mark 6 = .ok (.aload_n 0, 1) := by decide +kernel
theorem d_Lo_mark_7 : decode b_Lo_mark 7 = .ok (.getfield 9, 3) := by decide +kernel
theorem d_Lo_mark_10 : decode b_Lo_mark 10 = .ok (.imul, 1) := by decide +kernel
theorem d_Lo_mark_11 : decode b_Lo_mark 11 = .ok (.iload_n 3, 1) := by decide +kernel
theorem d_Lo_mark_12 : decode b_Lo_mark 12 = .ok (.aload_n 0, 1) := by decide +kernel
theorem d_Lo_mark_13 : decode b_Lo_mark 13 = .ok (.getfield 9, 3) := by decide +kernel
theorem d_Lo_mark_16 : decode b_Lo_mark 16 = .ok (.imul, 1) := by decide +kernel
theorem d_Lo_mark_17 : decode b_Lo_mark 17 = .ok (.iadd, 1) := by decide +kernel
theorem d_Lo_mark_18 : decode b_Lo_mark 18 = .ok (.iload_n 2, 1) := by decide +kernel
theorem d_Lo_mark_19 : decode b_Lo_mark 19 = .ok (.iadd, 1) := by decide +kernel
theorem d_Lo_mark_20 : decode b_Lo_mark 20 = .ok (.istore 5, 2) := by decide +kernel
theorem d_Lo_mark_22 : decode b_Lo_mark 22 = .ok (.aload_n 0, 1) := by decide +kernel
theorem d_Lo_mark_23 : decode b_Lo_mark 23 = .ok (.getfield 15, 3) := by decide +kernel
theorem d_Lo_mark_26 : decode b_Lo_mark 26 = .ok (.iload 5, 2) := by decide +kernel
theorem d_Lo_mark_28 : decode b_Lo_mark 28 = .ok (.baload, 1) := by decide +kernel
theorem d_Lo_mark_29 : decode b_Lo_mark 29 = .ok (.iload 4, 2) := by decide +kernel
theorem d_Lo_mark_31 : decode b_Lo_mark 31 = .ok (.if_icmp .eq 7, 3) := by decide +kernel
theorem d_Lo_mark_34 : decode b_Lo_mark 34 = .ok (.iconst 1, 1) := by decide +kernel
theorem d_Lo_mark_35 : decode b_Lo_mark 35 = .ok (.goto 4, 3) := by decide +kernel
theorem d_Lo_mark_38 : decode b_Lo_mark 38 = .ok (.iconst 0, 1) := by decide +kernel
theorem d_Lo_mark_39 : decode b_Lo_mark 39 = .ok (.istore 6, 2) := by decide +kernel
theorem d_Lo_mark_41 : decode b_Lo_mark 41 = .ok (.aload_n 0, 1) := by decide +kernel
theorem d_Lo_mark_42 : decode b_Lo_mark 42 = .ok (.getfield 15, 3) := by decide +kernel
theorem d_Lo_mark_45 : decode b_Lo_mark 45 = .ok (.iload 5, 2) := by decide +kernel
theorem d_Lo_mark_47 : decode b_Lo_mark 47 = .ok (.iload 4, 2) := by decide +kernel
theorem d_Lo_mark_49 : decode b_Lo_mark 49 = .ok (.bastore, 1) := by decide +kernel
theorem d_Lo_mark_50 : decode b_Lo_mark 50 = .ok (.aload_n 0, 1) := by decide +kernel
theorem d_Lo_mark_51 : decode b_Lo_mark 51 = .ok (.iconst 0, 1) := by decide +kernel
theorem d_Lo_mark_52 : decode b_Lo_mark 52 = .ok (.putfield 33, 3) := by decide +kernel
theorem d_Lo_mark_55 : decode b_Lo_mark 55 = .ok (.iload 6, 2) := by decide +kernel
theorem d_Lo_mark_57 : decode b_Lo_mark 57 = .ok (.ireturn, 1) := by decide +kernel
theorem d_Lo_tie_0 : decode b_Lo_tie 0 = .ok (.iload_n 2, 1) := by decide +kernel
theorem d_Lo_tie_1 : decode b_Lo_tie 1 = .ok (.aload_n 0, 1) := by decide +kernel
theorem d_Lo_tie_2 : decode b_Lo_tie 2 = .ok (.getfield 9, 3) := by decide +kernel
theorem d_Lo_tie_5 : decode b_Lo_tie 5 = .ok (.imul, 1) := by decide +kernel
theorem d_Lo_tie_6 : decode b_Lo_tie 6 = .ok (.iload_n 1, 1) := by decide +kernel
theorem d_Lo_tie_7 : decode b_Lo_tie 7 = .ok (.iadd, 1) := by decide +kernel
theorem d_Lo_tie_8 : decode b_Lo_tie 8 = .ok (.istore 4, 2) := by decide +kernel
theorem d_Lo_tie_10 : decode b_Lo_tie 10 = .ok (.aload_n 0, 1) := by decide +kernel
theorem d_Lo_tie_11 : decode b_Lo_tie 11 = .ok (.getfield 19, 3) := by decide +kernel
theorem d_Lo_tie_14 : decode b_Lo_tie 14 = .ok (.iload 4, 2) := by decide +kernel
theorem d_Lo_tie_16 : decode b_Lo_tie 16 = .ok (.iaload, 1) := by decide +kernel
theorem d_Lo_tie_17 : decode b_Lo_tie 17 = .ok (.iload_n 3, 1) := by decide +kernel
theorem d_Lo_tie_18 : decode b_Lo_tie 18 = .ok (.if_icmp .eq 7, 3) := by decide +kernel
theorem d_Lo_tie_21 : decode b_Lo_tie 21 = .ok (.iconst 1, 1) := by decide +kernel
theorem d_Lo_tie_22 : decode b_Lo_tie 22 = .ok (.goto 4, 3) := by decide +kernel
theorem d_Lo_tie_25 : decode b_Lo_tie 25 = .ok (.iconst 0, 1) := by decide +kernel
theorem d_Lo_tie_26 : decode b_Lo_tie 26 = .ok (.istore 5, 2) := by decide +kernel
theorem d_Lo_tie_28 : decode b_Lo_tie 28 = .ok (.aload_n 0, 1) := by decide +kernel
theorem d_Lo_tie_29 : decode b_Lo_tie 29 = .ok (.getfield 19, 3) := by decide +kernel
theorem d_Lo_tie_32 : decode b_Lo_tie 32 = .ok (.iload 4, 2) := by decide +kernel
theorem d_Lo_tie_34 : decode b_Lo_tie 34 = .ok (.iload_n 3, 1) := by decide +kernel
theorem d_Lo_tie_35 : decode b_Lo_tie 35 = .ok (.iastore, 1) := by decide +kernel
theorem d_Lo_tie_36 : decode b_Lo_tie 36 = .ok (.aload_n 0, 1) := by decide +kernel
theorem d_Lo_tie_37 : decode b_Lo_tie 37 = .ok (.iconst 0, 1) := by decide +kernel
theorem d_Lo_tie_38 : decode b_Lo_tie 38 = .ok (.putfield 33, 3) := by decide +kernel
theorem d_Lo_tie_41 : decode b_Lo_tie 41 = .ok (.iload 5, 2) := by decide +kernel
theorem d_Lo_tie_43 : decode b_Lo_tie 43 = .ok (.ireturn, 1) := by decide +kernel
theorem d_Lo_sumUpRow_0 : decode b_Lo_sumUpRow 0 = .ok (.iconst 0, 1) := by decide +kernel
theorem d_Lo_sumUpRow_1 : decode b_Lo_sumUpRow 1 = .ok (.istore_n 2, 1) := by decide +kernel
theorem d_Lo_sumUpRow_2 : decode b_Lo_sumUpRow 2 = .ok (.iconst 0, 1) := by decide +kernel
theorem d_Lo_sumUpRow_3 : decode b_Lo_sumUpRow 3 = .ok (.istore_n 3, 1) := by decide +kernel
theorem d_Lo_sumUpRow_4 : decode b_Lo_sumUpRow 4 = .ok (.iconst 0, 1) := by decide +kernel
theorem d_Lo_sumUpRow_5 : decode b_Lo_sumUpRow 5 = .ok (.istore 4, 2) := by decide +kernel
theorem d_Lo_sumUpRow_7 : decode b_Lo_sumUpRow 7 = .ok (.iload 4, 2) := by decide +kernel
theorem d_Lo_sumUpRow_9 : decode b_Lo_sumUpRow 9 = .ok (.aload_n 0, 1) := by decide +kernel
theorem d_Lo_sumUpRow_10 : decode b_Lo_sumUpRow 10 = .ok (.getfield 9, 3) := by decide +kernel
theorem d_Lo_sumUpRow_13 : decode b_Lo_sumUpRow 13 = .ok (.if_icmp .ge 126, 3) := by decide +kernel
theorem d_Lo_sumUpRow_16 : decode b_Lo_sumUpRow 16 = .ok (.iload_n 1, 1) := by decide +kernel
theorem d_Lo_sumUpRow_17 : decode b_Lo_sumUpRow 17 = .ok (.aload_n 0, 1) := by decide +kernel
theorem d_Lo_sumUpRow_18 : decode b_Lo_sumUpRow 18 = .ok (.getfield 9, 3) := by decide +kernel
theorem d_Lo_sumUpRow_21 : decode b_Lo_sumUpRow 21 = .ok (.imul, 1) := by decide +kernel
theorem d_Lo_sumUpRow_22 : decode b_Lo_sumUpRow 22 = .ok (.iload 4, 2) := by decide +kernel
theorem d_Lo_sumUpRow_24 : decode b_Lo_sumUpRow 24 = .ok (.iadd, 1) := by decide +kernel
theorem d_Lo_sumUpRow_25 : decode b_Lo_sumUpRow 25 = .ok (.istore 5, 2) := by decide +kernel
theorem d_Lo_sumUpRow_27 : decode b_Lo_sumUpRow 27 = .ok (.iload_n 2, 1) := by decide +kernel
theorem d_Lo_sumUpRow_28 : decode b_Lo_sumUpRow 28 = .ok (.aload_n 0, 1) := by decide +kernel
theorem d_Lo_sumUpRow_29 : decode b_Lo_sumUpRow 29 = .ok (.getfield 15, 3) := by decide +kernel
theorem d_Lo_sumUpRow_32 : decode b_Lo_sumUpRow 32 = .ok (.iload 5, 2) := by decide +kernel
theorem d_Lo_sumUpRow_34 : decode b_Lo_sumUpRow 34 = .ok (.baload, 1) := by decide +kernel
theorem d_Lo_sumUpRow_35 : decode b_Lo_sumUpRow 35 = .ok (.ifCond .eq 27, 3) := by decide +kernel
theorem d_Lo_sumUpRow_38 : decode b_Lo_sumUpRow 38 = .ok (.aload_n 0, 1) := by decide +kernel
theorem d_Lo_sumUpRow_39 : decode b_Lo_sumUpRow 39 = .ok (.getfield 15, 3) := by decide +kernel
theorem d_Lo_sumUpRow_42 : decode b_Lo_sumUpRow 42 = .ok (.aload_n 0, 1) := by decide +kernel
theorem d_Lo_sumUpRow_43 : decode b_Lo_sumUpRow 43 = .ok (.getfield 9, 3) := by decide +kernel
theorem d_Lo_sumUpRow_46 : decode b_Lo_sumUpRow 46 = .ok (.aload_n 0, 1) := by decide +kernel
theorem d_Lo_sumUpRow_47 : decode b_Lo_sumUpRow 47 = .ok (.getfield 9, 3) := by decide +kernel
theorem d_Lo_sumUpRow_50 : decode b_Lo_sumUpRow 50 = .ok (.imul, 1) := by decide +kernel
theorem d_Lo_sumUpRow_51 : decode b_Lo_sumUpRow 51 = .ok (.iload 5, 2) := by decide +kernel
theorem d_Lo_sumUpRow_53 : decode b_Lo_sumUpRow 53 = .ok (.iadd, 1) := by decide +kernel
theorem d_Lo_sumUpRow_54 : decode b_Lo_sumUpRow 54 = .ok (.baload, 1) := by decide +kernel
theorem d_Lo_sumUpRow_55 : decode b_Lo_sumUpRow 55 = .ok (.ifCond .eq 7, 3) := by decide +kernel
theorem d_Lo_sumUpRow_58 : decode b_Lo_sumUpRow 58 = .ok (.iconst 0, 1) := by decide +kernel
theorem d_Lo_sumUpRow_59 : decode b_Lo_sumUpRow 59 = .ok (.goto 4, 3) := by decide +kernel
theorem d_Lo_sumUpRow_62 : decode b_Lo_sumUpRow 62 = .ok (.iconst 1, 1) := by decide +kernel
theorem d_Lo_sumUpRow_63 : decode b_Lo_sumUpRow 63 = .ok (.iadd, 1) := by decide +kernel
theorem d_Lo_sumUpRow_64 : decode b_Lo_sumUpRow 64 = .ok (.istore_n 2, 1) := by decide +kernel
theorem d_Lo_sumUpRow_65 : decode b_Lo_sumUpRow 65 = .ok (.iload_n 3, 1) := by decide +kernel
theorem d_Lo_sumUpRow_66 : decode b_Lo_sumUpRow 66 = .ok (.aload_n 0, 1) := by decide +kernel
theorem d_Lo_sumUpRow_67 : decode b_Lo_sumUpRow 67 = .ok (.getfield 19, 3) := by decide +kernel
theorem d_Lo_sumUpRow_70 : decode b_Lo_sumUpRow 70 = .ok (.iload 5, 2) := by decide +kernel
theorem d_Lo_sumUpRow_72 : decode b_Lo_sumUpRow 72 = .ok (.iaload, 1) := by decide +kernel
theorem d_Lo_sumUpRow_73 : decode b_Lo_sumUpRow 73 = .ok (.iadd, 1) := by decide +kernel
theorem d_Lo_sumUpRow_74 : decode b_Lo_sumUpRow 74 = .ok (.istore_n 3, 1) := by decide +kernel
theorem d_Lo_sumUpRow_75 : decode b_Lo_sumUpRow 75 = .ok (.iload_n 1, 1) := by decide +kernel
theorem d_Lo_sumUpRow_76 : decode b_Lo_sumUpRow 76 = .ok (.aload_n 0, 1) := by decide +kernel
theorem d_Lo_sumUpRow_77 : decode b_Lo_sumUpRow 77 = .ok (.getfield 9, 3) := by decide +kernel
theorem d_Lo_sumUpRow_80 : decode b_Lo_sumUpRow 80 = .ok (.iconst 1, 1) := by decide +kernel
theorem d_Lo_sumUpRow_81 : decode b_Lo_sumUpRow 81 = .ok (.iadd, 1) := by decide +kernel
theorem d_Lo_sumUpRow_82 : decode b_Lo_sumUpRow 82 = .ok (.imul, 1) := by decide +kernel
theorem d_Lo_sumUpRow_83 : decode b_Lo_sumUpRow 83 = .ok (.iload 4, 2) := by decide +kernel
theorem d_Lo_sumUpRow_85 : decode b_Lo_sumUpRow 85 = .ok (.iadd, 1) := by decide +kernel
theorem d_Lo_sumUpRow_86 : decode b_Lo_sumUpRow 86 = .ok (.iconst 1, 1) := by decide +kernel
theorem d_Lo_sumUpRow_87 : decode b_Lo_sumUpRow 87 = .ok (.iadd, 1) := by decide +kernel
theorem d_Lo_sumUpRow_88 : decode b_Lo_sumUpRow 88 = .ok (.istore 6, 2) := by decide +kernel
theorem d_Lo_sumUpRow_90 : decode b_Lo_sumUpRow 90 = .ok (.iload 6, 2) := by decide +kernel
theorem d_Lo_sumUpRow_92 : decode b_Lo_sumUpRow 92 = .ok (.aload_n 0, 1) := by decide +kernel
theorem d_Lo_sumUpRow_93 : decode b_Lo_sumUpRow 93 = .ok (.getfield 9, 3) := by decide +kernel
theorem d_Lo_sumUpRow_96 : decode b_Lo_sumUpRow 96 = .ok (.iadd, 1) := by decide +kernel
theorem d_Lo_sumUpRow_97 : decode b_Lo_sumUpRow 97 = .ok (.iconst 1, 1) := by decide +kernel
theorem d_Lo_sumUpRow_98 : decode b_Lo_sumUpRow 98 = .ok (.iadd, 1) := by decide +kernel
theorem d_Lo_sumUpRow_99 : decode b_Lo_sumUpRow 99 = .ok (.istore 7, 2) := by decide +kernel
theorem d_Lo_sumUpRow_101 : decode b_Lo_sumUpRow 101 = .ok (.aload_n 0, 1) := by decide +kernel
theorem d_Lo_sumUpRow_102 : decode b_Lo_sumUpRow 102 = .ok (.getfield 23, 3) := by decide +kernel
theorem d_Lo_sumUpRow_105 : decode b_Lo_sumUpRow 105 = .ok (.iload 7, 2) := by decide +kernel
theorem d_Lo_sumUpRow_107 : decode b_Lo_sumUpRow 107 = .ok (.aload_n 0, 1) := by decide +kernel
theorem d_Lo_sumUpRow_108 : decode b_Lo_sumUpRow 108 = .ok (.getfield 23, 3) := by decide +kernel
theorem d_Lo_sumUpRow_111 : decode b_Lo_sumUpRow 111 = .ok (.iload 6, 2) := by decide +kernel
theorem d_Lo_sumUpRow_113 : decode b_Lo_sumUpRow 113 = .ok (.iaload, 1) := by decide +kernel
theorem d_Lo_sumUpRow_114 : decode b_Lo_sumUpRow 114 = .ok (.iload_n 2, 1) := by decide +kernel
theorem d_Lo_sumUpRow_115 : decode b_Lo_sumUpRow 115 = .ok (.iadd, 1) := by decide +kernel
theorem d_Lo_sumUpRow_116 : decode b_Lo_sumUpRow 116 = .ok (.iastore, 1) := by decide +kernel
theorem d_Lo_sumUpRow_117 : decode b_Lo_sumUpRow 117 = .ok (.aload_n 0, 1) := by decide +kernel
theorem d_Lo_sumUpRow_118 : decode b_Lo_sumUpRow 118 = .ok (.getfield 26, 3) := by decide +kernel
theorem d_Lo_sumUpRow_121 : decode b_Lo_sumUpRow 121 = .ok (.iload 7, 2) := by decide +kernel
theorem d_Lo_sumUpRow_123 : decode b_Lo_sumUpRow 123 = .ok (.aload_n 0, 1) := by decide +kernel
theorem d_Lo_sumUpRow_124 : decode b_Lo_sumUpRow 124 = .ok (.getfield 26, 3) := by decide +kernel
theorem d_Lo_sumUpRow_127 : decode b_Lo_sumUpRow 127 = .ok (.iload 6, 2) := by decide +kernel
theorem d_Lo_sumUpRow_129 : decode b_Lo_sumUpRow 129 = .ok (.iaload, 1) := by decide +kernel
theorem d_Lo_sumUpRow_130 : decode b_Lo_sumUpRow 130 = .ok (.iload_n 3, 1) := by decide +kernel
theorem d_Lo_sumUpRow_131 : decode b_Lo_sumUpRow 131 = .ok (.iadd, 1) := by decide +kernel
theorem d_Lo_sumUpRow_132 : decode b_Lo_sumUpRow 132 = .ok (.iastore, 1) := by decide +kernel
theorem d_Lo_sumUpRow_133 : decode b_Lo_sumUpRow 133 = .ok (.iinc 4 1, 3) := by decide +kernel
theorem d_Lo_sumUpRow_136 : decode b_Lo_sumUpRow 136 = .ok (.goto (-129), 3) := by decide +kernel
theorem d_Lo_sumUpRow_139 : decode b_Lo_sumUpRow 139 = .ok (.return_, 1) := by decide +kernel
theorem d_Lo_sumUp_0 : decode b_Lo_sumUp 0 = .ok (.aload_n 0, 1) := by decide +kernel
theorem d_Lo_sumUp_1 : decode b_Lo_sumUp 1 = .ok (.getfield 33, 3) := by decide +kernel
theorem d_Lo_sumUp_4 : decode b_Lo_sumUp 4 = .ok (.ifCond .eq 4, 3) := by decide +kernel
theorem d_Lo_sumUp_7 : decode b_Lo_sumUp 7 = .ok (.return_, 1) := by decide +kernel
theorem d_Lo_sumUp_8 : decode b_Lo_sumUp 8 = .ok (.iconst 0, 1) := by decide +kernel
theorem d_Lo_sumUp_9 : decode b_Lo_sumUp 9 = .ok (.istore_n 1, 1) := by decide +kernel
theorem d_Lo_sumUp_10 : decode b_Lo_sumUp 10 = .ok (.iload_n 1, 1) := by decide +kernel
theorem d_Lo_sumUp_11 : decode b_Lo_sumUp 11 = .ok (.aload_n 0, 1) := by decide +kernel
theorem d_Lo_sumUp_12 : decode b_Lo_sumUp 12 = .ok (.getfield 9, 3) := by decide +kernel
theorem d_Lo_sumUp_15 : decode b_Lo_sumUp 15 = .ok (.if_icmp .ge 14, 3) := by decide +kernel
theorem d_Lo_sumUp_18 : decode b_Lo_sumUp 18 = .ok (.aload_n 0, 1) := by decide +kernel
theorem d_Lo_sumUp_19 : decode b_Lo_sumUp 19 = .ok (.iload_n 1, 1) := by decide +kernel
theorem d_Lo_sumUp_20 : decode b_Lo_sumUp 20 = .ok (.invokevirtual 41, 3) := by decide +kernel
theorem d_Lo_sumUp_23 : decode b_Lo_sumUp 23 = .ok (.iinc 1 1, 3) := by decide +kernel
theorem d_Lo_sumUp_26 : decode b_Lo_sumUp 26 = .ok (.goto (-16), 3) := by decide +kernel
theorem d_Lo_sumUp_29 : decode b_Lo_sumUp 29 = .ok (.aload_n 0, 1) := by decide +kernel
theorem d_Lo_sumUp_30 : decode b_Lo_sumUp 30 = .ok (.iconst 1, 1) := by decide +kernel
theorem d_Lo_sumUp_31 : decode b_Lo_sumUp 31 = .ok (.putfield 33, 3) := by decide +kernel
theorem d_Lo_sumUp_34 : decode b_Lo_sumUp 34 = .ok (.return_, 1) := by decide +kernel
set_option maxHeartbeats 4000000 in
set_option maxRecDepth 100000 in
theorem c_mark (l : Launch) (D : va_G) (cI cJ cZ : ClassId) (sz : Nat) (h0 : Nat) (side : Nat) (a1 : Nat) (a2 : Nat) (a3 : Nat) (a4 : Nat) (sm : Prop) (IN : Nat → Prop) (en : Nat) (x : Nat) (y : Nat) (b : Prop) (s2 : side ≤ 20) (he : en ≤ 1) (hx_ : x < side) (hy_ : y < side) : Met l y_Lo_mark w_Lo_mark ({ frames := 0, cells := 0, slots := 0, locals := 0 }) (va_Pc [.ref h0, .int (nI en), .int (nI x), .int (nI y), .int (pI b)] (kB D vwCl (tyL cI cJ cZ) sz [(h0, .inr (3, [.int (nI side), .ref a1, .ref a2, .ref a3, .ref a4, .int (pI sm)])), (a1, .inl (cZ, ((2 * side) * side), .inl (fun j => pI (IN j))))])) (va_Qi (fun (r : Int32) (_ : Unit) => r = pI (¬ (IN ((en * side) * side + y * side + x) ↔ b))) (fun (_ : Unit) t => kE D vwCl (va_A [(h0, .inr (3, [.int (nI side), .ref a1, .ref a2, .ref a3, .ref a4, .int (pI sm)])), (a1, .inl (cZ, ((2 * side) * side), .inl (fun j => pI (IN j))))] sz) [(h0, .inr (3, [.int (nI side), .ref a1, .ref a2, .ref a3, .ref a4, .int (pI False)])), (a1, .inl (cZ, ((2 * side) * side), .inl (fun j => pI ((va_up IN ((en * side) * side + y * side + x) b) j))))] t) (va_A [(h0, .inr (3, [.int (nI side), .ref a1, .ref a2, .ref a3, .ref a4, .int (pI sm)])), (a1, .inl (cZ, ((2 * side) * side), .inl (fun j => pI (IN j))))] sz)) 0 0 (va_A [(h0, .inr (3, [.int (nI side), .ref a1, .ref a2, .ref a3, .ref a4, .int (pI sm)])), (a1, .inl (cZ, ((2 * side) * side), .inl (fun j => pI (IN j))))] sz) := by
  refine Met.ofW (cc := b_Lo_mark) (maxL := 7) (ret := (some (.boolean))) (by decide) rfl ?_
  intro p e s m args below meth c s₁ B hml hv
  obtain ⟨rfl, hsz, hP, hK, hD0, hZ⟩ := hv
  have hx := B.exec
  have hb := B.bytes
  have hr := B.returns
  have hts := atoms_spec (ws := w_Lo_mark) B.pre
  have hown : s.vm.findClass R_Lo = some m.cls := findClass_of_methodNamed B.named
  have hlocks := B.notSynchronized
  subst hsz
  have hD := hD0.self (sz := s.heap.size)
  generalize hAe : va_A [(h0, .inr (3, [.int (nI side), .ref a1, .ref a2, .ref a3, .ref a4, .int (pI sm)])), (a1, .inl (cZ, ((2 * side) * side), .inl (fun j => pI (IN j))))] s.heap.size = A at hD ⊢
  have hA : ∀ q : Nat, s.heap.size ≤ q → A q := fun q h => by rw [← hAe]; exact Or.inr h
  have hS : va_S A s.heap s.heap [] := va_S.rf
  have hP : va_P D vwCl [(h0, .inr (3, [.int (nI side), .ref a1, .ref a2, .ref a3, .ref a4, .int (pI sm)])), (a1, .inl (cZ, ((2 * side) * side), .inl (fun j => pI (IN j))))] s.heap := hP
  have hl := lv_entry ([.ref h0, .int (nI en), .int (nI x), .int (nI y), .int (pI b)]) (n := 7) (Nat.le_of_ble_eq_true rfl)
  rw [lg_entry_eq]
  generalize (lg_sl ([.ref h0, .int (nI en), .int (nI x), .int (nI y), .int (pI b)]) ++ List.replicate (7 - (lg_sl ([.ref h0, .int (nI en), .int (nI x), .int (nI y), .int (pI b)])).length) Slot.unset).toArray = ls at hl ⊢
  have hl : lv_has ls 7 [(0, .ref h0), (1, .int (nI en)), (2, .int (nI x)), (3, .int (nI y)), (4, .int (pI b))] := hl
  have q1 := idxE he hx_ hy_
  have q2 := sq2 s2
  refine lv_iload_n hx hb d_Lo_mark_0 rfl (lv_at hl 1 rfl) ?_
  refine lv_aload_n hx hb d_Lo_mark_1 rfl (lv_at hl 0 rfl) ?_
  refine va_get (D := D) (ci := 3) (v := .int (nI side)) (C := R_Lo) (T := T_Lo) (N := 6) hx hb hts (fun w h => List.mem_cons_of_mem _ (iw_Lo w h)) hown hK hP 0 rfl rfl 0 (by decide) (hts _ (List.mem_cons_of_mem _ k_35)) (fun _ h9 => h9) rfl d_Lo_mark_2 ?_
  refine lv_imul hx hb d_Lo_mark_5 ?_
  refine ka_i (y := nI (en * side)) (pk_mul _ _) ?_
  refine lv_aload_n hx hb d_Lo_mark_6 rfl (lv_at hl 0 rfl) ?_
  refine va_get (D := D) (ci := 3) (v := .int (nI side)) (C := R_Lo) (T := T_Lo) (N := 6) hx hb hts (fun w h => List.mem_cons_of_mem _ (iw_Lo w h)) hown hK hP 0 rfl rfl 0 (by decide) (hts _ (List.mem_cons_of_mem _ k_35)) (fun _ h9 => h9) rfl d_Lo_mark_7 ?_
  refine lv_imul hx hb d_Lo_mark_10 ?_
  refine ka_i (y := nI ((en * side) * side)) (pk_mul _ _) ?_
  refine lv_iload_n hx hb d_Lo_mark_11 rfl (lv_at hl 3 rfl) ?_
  refine lv_aload_n hx hb d_Lo_mark_12 rfl (lv_at hl 0 rfl) ?_
  refine va_get (D := D) (ci := 3) (v := .int (nI side)) (C := R_Lo) (T := T_Lo) (N := 6) hx hb hts (fun w h => List.mem_cons_of_mem _ (iw_Lo w h)) hown hK hP 0 rfl rfl 0 (by decide) (hts _ (List.mem_cons_of_mem _ k_35)) (fun _ h9 => h9) rfl d_Lo_mark_13 ?_
  refine lv_imul hx hb d_Lo_mark_16 ?_
  refine ka_i (y := nI (y * side)) (pk_mul _ _) ?_
  refine lv_iadd hx hb d_Lo_mark_17 ?_
  refine ka_i (y := nI (((en * side) * side) + (y * side))) (nI_add _ _) ?_
  refine lv_iload_n hx hb d_Lo_mark_18 rfl (lv_at hl 2 rfl) ?_
  refine lv_iadd hx hb d_Lo_mark_19 ?_
  refine ka_i (y := nI ((((en * side) * side) + (y * side)) + x)) (nI_add _ _) ?_
  refine lv_istore (lv' := [(5, .int (nI ((((en * side) * side) + (y * side)) + x))), (0, .ref h0), (1, .int (nI en)), (2, .int (nI x)), (3, .int (nI y)), (4, .int (pI b))]) hx hb d_Lo_mark_20 hl (by decide) rfl (fun ls hl => ?_)
  refine lv_aload_n hx hb d_Lo_mark_22 rfl (lv_at hl 1 rfl) ?_
  refine va_get (D := D) (ci := 3) (v := .ref a1) (C := R_Lo) (T := T_Lo) (N := 6) hx hb hts (fun w h => List.mem_cons_of_mem _ (iw_Lo w h)) hown hK hP 0 rfl rfl 1 (by decide) (hts _ (List.mem_cons_of_mem _ k_37)) (fun _ h9 => h9) rfl d_Lo_mark_23 ?_
  refine lv_iload hx hb d_Lo_mark_26 (lv_at hl 0 rfl) ?_
  refine ka_zald (k := ((((en * side) * side) + (y * side)) + x)) (n := ((2 * side) * side)) (f := fun j => pI (IN j)) (nI_t (by omega)) (by omega) hx hb hK hP 1 2 rfl rfl d_Lo_mark_28 ?_
  refine lv_iload hx hb d_Lo_mark_29 (lv_at hl 5 rfl) ?_
  refine kb_ceqP (tgt := 38) hx hb d_Lo_mark_31 (by decide) (fun ce => ?_) (fun ce => ?_)
  · refine lv_iconst (v := nI 0) hx hb d_Lo_mark_38 (by decide +kernel) ?_
    refine ka_i (y := pI (¬ (IN ((en * side) * side + y * side + x) ↔ b))) (pI_z (fun h => h ce)) ?_
    refine lv_istore (lv' := [(6, .int (pI (¬ (IN ((en * side) * side + y * side + x) ↔ b)))), (5, .int (nI ((((en * side) * side) + (y * side)) + x))), (0, .ref h0), (1, .int (nI en)), (2, .int (nI x)), (3, .int (nI y)), (4, .int (pI b))]) hx hb d_Lo_mark_39 hl (by decide) rfl (fun ls hl => ?_)
    refine lv_aload_n hx hb d_Lo_mark_41 rfl (lv_at hl 2 rfl) ?_
    refine va_get (D := D) (ci := 3) (v := .ref a1) (C := R_Lo) (T := T_Lo) (N := 6) hx hb hts (fun w h => List.mem_cons_of_mem _ (iw_Lo w h)) hown hK hP 0 rfl rfl 1 (by decide) (hts _ (List.mem_cons_of_mem _ k_37)) (fun _ h9 => h9) rfl d_Lo_mark_42 ?_
    refine lv_iload hx hb d_Lo_mark_45 (lv_at hl 1 rfl) ?_
    refine lv_iload hx hb d_Lo_mark_47 (lv_at hl 6 rfl) ?_
    refine ka_zastP (F := IN) (v := b) (k := ((((en * side) * side) + (y * side)) + x)) (n := ((2 * side) * side)) (nI_t (by omega)) (by omega) hx hb hK hP hD hS 1 2 rfl rfl d_Lo_mark_49 (fun H locs hP hD hS => ?_)
    have hP : va_P D vwCl [(h0, .inr (3, [.int (nI side), .ref a1, .ref a2, .ref a3, .ref a4, .int (pI sm)])), (a1, .inl (cZ, ((2 * side) * side), .inl (fun j => pI ((va_up IN ((((en * side) * side) + (y * side)) + x) b) j))))] H := hP
    have hD : va_D A [(h0, .inr (3, [.int (nI side), .ref a1, .ref a2, .ref a3, .ref a4, .int (pI sm)])), (a1, .inl (cZ, ((2 * side) * side), .inl (fun j => pI ((va_up IN ((((en * side) * side) + (y * side)) + x) b) j))))] := hD
    refine lv_aload_n hx hb d_Lo_mark_50 rfl (lv_at hl 2 rfl) ?_
    refine lv_iconst (v := nI 0) hx hb d_Lo_mark_51 (by decide +kernel) ?_
    refine ka_i (y := pI False) (pI_z (fun h => h)) ?_
    refine va_put (D := D) (ci := 3) (v := .int (pI False)) (ty := .boolean) (C := R_Lo) (T := T_Lo) (N := 6) hx hb hts (fun w h => List.mem_cons_of_mem _ (iw_Lo w h)) ty_Lo tyok_Lo nm_Lo hown hK hP hD hS 0 rfl rfl 5 (by decide) (hts _ (List.mem_cons_of_mem _ k_43)) (fun _ h9 => h9) rfl (by decide +kernel) (pI_narrow _) (pI_fits _) (Nat.le_of_ble_eq_true rfl) d_Lo_mark_52 (fun H locs hP hD hS => ?_)
    have hP : va_P D vwCl [(h0, .inr (3, [.int (nI side), .ref a1, .ref a2, .ref a3, .ref a4, .int (pI False)])), (a1, .inl (cZ, ((2 * side) * side), .inl (fun j => pI ((va_up IN ((((en * side) * side) + (y * side)) + x) b) j))))] H := hP
    have hD : va_D A [(h0, .inr (3, [.int (nI side), .ref a1, .ref a2, .ref a3, .ref a4, .int (pI False)])), (a1, .inl (cZ, ((2 * side) * side), .inl (fun j => pI ((va_up IN ((((en * side) * side) + (y * side)) + x) b) j))))] := hD
    refine lv_iload hx hb d_Lo_mark_55 (lv_at hl 0 rfl) ?_
    exact kretz (u := ()) (pI_narrow _) hx hb hr hP hD hS hlocks rfl (rfl) d_Lo_mark_57
  · refine lv_iconst (v := nI 1) hx hb d_Lo_mark_34 (by decide +kernel) ?_
    refine ka_i (y := pI (¬ (IN ((en * side) * side + y * side + x) ↔ b))) (pI_1 (ce)) ?_
    refine lv_goto (tgt := 39) hx hb d_Lo_mark_35 (by decide) ?_
    refine lv_istore (lv' := [(6, .int (pI (¬ (IN ((en * side) * side + y * side + x) ↔ b)))), (5, .int (nI ((((en * side) * side) + (y * side)) + x))), (0, .ref h0), (1, .int (nI en)), (2, .int (nI x)), (3, .int (nI y)), (4, .int (pI b))]) hx hb d_Lo_mark_39 hl (by decide) rfl (fun ls hl => ?_)
    refine lv_aload_n hx hb d_Lo_mark_41 rfl (lv_at hl 2 rfl) ?_
    refine va_get (D := D) (ci := 3) (v := .ref a1) (C := R_Lo) (T := T_Lo) (N := 6) hx hb hts (fun w h => List.mem_cons_of_mem _ (iw_Lo w h)) hown hK hP 0 rfl rfl 1 (by decide) (hts _ (List.mem_cons_of_mem _ k_37)) (fun _ h9 => h9) rfl d_Lo_mark_42 ?_
    refine lv_iload hx hb d_Lo_mark_45 (lv_at hl 1 rfl) ?_
    refine lv_iload hx hb d_Lo_mark_47 (lv_at hl 6 rfl) ?_
    refine ka_zastP (F := IN) (v := b) (k := ((((en * side) * side) + (y * side)) + x)) (n := ((2 * side) * side)) (nI_t (by omega)) (by omega) hx hb hK hP hD hS 1 2 rfl rfl d_Lo_mark_49 (fun H locs hP hD hS => ?_)
    have hP : va_P D vwCl [(h0, .inr (3, [.int (nI side), .ref a1, .ref a2, .ref a3, .ref a4, .int (pI sm)])), (a1, .inl (cZ, ((2 * side) * side), .inl (fun j => pI ((va_up IN ((((en * side) * side) + (y * side)) + x) b) j))))] H := hP
    have hD : va_D A [(h0, .inr (3, [.int (nI side), .ref a1, .ref a2, .ref a3, .ref a4, .int (pI sm)])), (a1, .inl (cZ, ((2 * side) * side), .inl (fun j => pI ((va_up IN ((((en * side) * side) + (y * side)) + x) b) j))))] := hD
    refine lv_aload_n hx hb d_Lo_mark_50 rfl (lv_at hl 2 rfl) ?_
    refine lv_iconst (v := nI 0) hx hb d_Lo_mark_51 (by decide +kernel) ?_
    refine ka_i (y := pI False) (pI_z (fun h => h)) ?_
    refine va_put (D := D) (ci := 3) (v := .int (pI False)) (ty := .boolean) (C := R_Lo) (T := T_Lo) (N := 6) hx hb hts (fun w h => List.mem_cons_of_mem _ (iw_Lo w h)) ty_Lo tyok_Lo nm_Lo hown hK hP hD hS 0 rfl rfl 5 (by decide) (hts _ (List.mem_cons_of_mem _ k_43)) (fun _ h9 => h9) rfl (by decide +kernel) (pI_narrow _) (pI_fits _) (Nat.le_of_ble_eq_true rfl) d_Lo_mark_52 (fun H locs hP hD hS => ?_)
    have hP : va_P D vwCl [(h0, .inr (3, [.int (nI side), .ref a1, .ref a2, .ref a3, .ref a4, .int (pI False)])), (a1, .inl (cZ, ((2 * side) * side), .inl (fun j => pI ((va_up IN ((((en * side) * side) + (y * side)) + x) b) j))))] H := hP
    have hD : va_D A [(h0, .inr (3, [.int (nI side), .ref a1, .ref a2, .ref a3, .ref a4, .int (pI False)])), (a1, .inl (cZ, ((2 * side) * side), .inl (fun j => pI ((va_up IN ((((en * side) * side) + (y * side)) + x) b) j))))] := hD
    refine lv_iload hx hb d_Lo_mark_55 (lv_at hl 0 rfl) ?_
    exact kretz (u := ()) (pI_narrow _) hx hb hr hP hD hS hlocks rfl (rfl) d_Lo_mark_57
set_option maxHeartbeats 4000000 in
set_option maxRecDepth 100000 in
theorem c_tie (l : Launch) (D : va_G) (cI cJ cZ : ClassId) (sz : Nat) (h0 : Nat) (side : Nat) (a1 : Nat) (a2 : Nat) (a3 : Nat) (a4 : Nat) (sm : Prop) (LO : Nat → Nat) (x : Nat) (y : Nat) (v : Nat) (s2 : side ≤ 20) (hx_ : x < side) (hy_ : y < side) (hv : v ≤ 10000) (hL : ∀ k, k < side * side → LO k ≤ 10000) : Met l y_Lo_tie w_Lo_tie ({ frames := 0, cells := 0, slots := 0, locals := 0 }) (va_Pc [.ref h0, .int (nI x), .int (nI y), .int (nI v)] (kB D vwCl (tyL cI cJ cZ) sz [(h0, .inr (3, [.int (nI side), .ref a1, .ref a2, .ref a3, .ref a4, .int (pI sm)])), (a2, .inl (cI, (side * side), .inl (fun j => nI (LO j))))])) (va_Qi (fun (r : Int32) (_ : Unit) => r = pI (¬ LO (y * side + x) = v)) (fun (_ : Unit) t => kE D vwCl (va_A [(h0, .inr (3, [.int (nI side), .ref a1, .ref a2, .ref a3, .ref a4, .int (pI sm)])), (a2, .inl (cI, (side * side), .inl (fun j => nI (LO j))))] sz) [(h0, .inr (3, [.int (nI side), .ref a1, .ref a2, .ref a3, .ref a4, .int (pI False)])), (a2, .inl (cI, (side * side), .inl (fun j => nI ((va_up LO (y * side + x) v) j))))] t) (va_A [(h0, .inr (3, [.int (nI side), .ref a1, .ref a2, .ref a3, .ref a4, .int (pI sm)])), (a2, .inl (cI, (side * side), .inl (fun j => nI (LO j))))] sz)) 0 0 (va_A [(h0, .inr (3, [.int (nI side), .ref a1, .ref a2, .ref a3, .ref a4, .int (pI sm)])), (a2, .inl (cI, (side * side), .inl (fun j => nI (LO j))))] sz) := by
  refine Met.ofW (cc := b_Lo_tie) (maxL := 6) (ret := (some (.boolean))) (by decide) rfl ?_
  intro p e s m args below meth c s₁ B hml hv
  obtain ⟨rfl, hsz, hP, hK, hD0, hZ⟩ := hv
  have hx := B.exec
  have hb := B.bytes
  have hr := B.returns
  have hts := atoms_spec (ws := w_Lo_tie) B.pre
  have hown : s.vm.findClass R_Lo = some m.cls := findClass_of_methodNamed B.named
  have hlocks := B.notSynchronized
  subst hsz
  have hD := hD0.self (sz := s.heap.size)
  generalize hAe : va_A [(h0, .inr (3, [.int (nI side), .ref a1, .ref a2, .ref a3, .ref a4, .int (pI sm)])), (a2, .inl (cI, (side * side), .inl (fun j => nI (LO j))))] s.heap.size = A at hD ⊢
  have hA : ∀ q : Nat, s.heap.size ≤ q → A q := fun q h => by rw [← hAe]; exact Or.inr h
  have hS : va_S A s.heap s.heap [] := va_S.rf
  have hP : va_P D vwCl [(h0, .inr (3, [.int (nI side), .ref a1, .ref a2, .ref a3, .ref a4, .int (pI sm)])), (a2, .inl (cI, (side * side), .inl (fun j => nI (LO j))))] s.heap := hP
  have hl := lv_entry ([.ref h0, .int (nI x), .int (nI y), .int (nI v)]) (n := 6) (Nat.le_of_ble_eq_true rfl)
  rw [lg_entry_eq]
  generalize (lg_sl ([.ref h0, .int (nI x), .int (nI y), .int (nI v)]) ++ List.replicate (6 - (lg_sl ([.ref h0, .int (nI x), .int (nI y), .int (nI v)])).length) Slot.unset).toArray = ls at hl ⊢
  have hl : lv_has ls 6 [(0, .ref h0), (1, .int (nI x)), (2, .int (nI y)), (3, .int (nI v))] := hl
  have q1 := idxS hx_ hy_
  have q2 := (sq20 s2).2
  have q3 := hL _ q1
  refine lv_iload_n hx hb d_Lo_tie_0 rfl (lv_at hl 2 rfl) ?_
  refine lv_aload_n hx hb d_Lo_tie_1 rfl (lv_at hl 0 rfl) ?_
  refine va_get (D := D) (ci := 3) (v := .int (nI side)) (C := R_Lo) (T := T_Lo) (N := 6) hx hb hts (fun w h => List.mem_cons_of_mem _ (iw_Lo w h)) hown hK hP 0 rfl rfl 0 (by decide) (hts _ (List.mem_cons_of_mem _ k_35)) (fun _ h9 => h9) rfl d_Lo_tie_2 ?_
  refine lv_imul hx hb d_Lo_tie_5 ?_
  refine ka_i (y := nI (y * side)) (pk_mul _ _) ?_
  refine lv_iload_n hx hb d_Lo_tie_6 rfl (lv_at hl 1 rfl) ?_
  refine lv_iadd hx hb d_Lo_tie_7 ?_
  refine ka_i (y := nI ((y * side) + x)) (nI_add _ _) ?_
  refine lv_istore (lv' := [(4, .int (nI ((y * side) + x))), (0, .ref h0), (1, .int (nI x)), (2, .int (nI y)), (3, .int (nI v))]) hx hb d_Lo_tie_8 hl (by decide) rfl (fun ls hl => ?_)
  refine lv_aload_n hx hb d_Lo_tie_10 rfl (lv_at hl 1 rfl) ?_
  refine va_get (D := D) (ci := 3) (v := .ref a2) (C := R_Lo) (T := T_Lo) (N := 6) hx hb hts (fun w h => List.mem_cons_of_mem _ (iw_Lo w h)) hown hK hP 0 rfl rfl 2 (by decide) (hts _ (List.mem_cons_of_mem _ k_38)) (fun _ h9 => h9) rfl d_Lo_tie_11 ?_
  refine lv_iload hx hb d_Lo_tie_14 (lv_at hl 0 rfl) ?_
  refine ka_iald (k := ((y * side) + x)) (n := (side * side)) (f := fun j => nI (LO j)) (nI_t (by omega)) (by omega) hx hb hK hP 1 0 rfl rfl d_Lo_tie_16 ?_
  refine lv_iload_n hx hb d_Lo_tie_17 rfl (lv_at hl 4 rfl) ?_
  refine kb_ceq (tgt := 25) (nI_t (by omega)) (nI_t (by omega)) hx hb d_Lo_tie_18 (by decide) (fun ce => ?_) (fun ce => ?_)
  · refine lv_iconst (v := nI 0) hx hb d_Lo_tie_25 (by decide +kernel) ?_
    refine ka_i (y := pI (¬ LO (y * side + x) = v)) (pI_z (fun h => h (by omega))) ?_
    refine lv_istore (lv' := [(5, .int (pI (¬ LO (y * side + x) = v))), (4, .int (nI ((y * side) + x))), (0, .ref h0), (1, .int (nI x)), (2, .int (nI y)), (3, .int (nI v))]) hx hb d_Lo_tie_26 hl (by decide) rfl (fun ls hl => ?_)
    refine lv_aload_n hx hb d_Lo_tie_28 rfl (lv_at hl 2 rfl) ?_
    refine va_get (D := D) (ci := 3) (v := .ref a2) (C := R_Lo) (T := T_Lo) (N := 6) hx hb hts (fun w h => List.mem_cons_of_mem _ (iw_Lo w h)) hown hK hP 0 rfl rfl 2 (by decide) (hts _ (List.mem_cons_of_mem _ k_38)) (fun _ h9 => h9) rfl d_Lo_tie_29 ?_
    refine lv_iload hx hb d_Lo_tie_32 (lv_at hl 1 rfl) ?_
    refine lv_iload_n hx hb d_Lo_tie_34 rfl (lv_at hl 5 rfl) ?_
    refine ka_iastN (F := LO) (v := v) (k := ((y * side) + x)) (n := (side * side)) (nI_t (by omega)) (by omega) hx hb hK hP hD hS 1 0 rfl rfl d_Lo_tie_35 (fun H locs hP hD hS => ?_)
    have hP : va_P D vwCl [(h0, .inr (3, [.int (nI side), .ref a1, .ref a2, .ref a3, .ref a4, .int (pI sm)])), (a2, .inl (cI, (side * side), .inl (fun j => nI ((va_up LO ((y * side) + x) v) j))))] H := hP
    have hD : va_D A [(h0, .inr (3, [.int (nI side), .ref a1, .ref a2, .ref a3, .ref a4, .int (pI sm)])), (a2, .inl (cI, (side * side), .inl (fun j => nI ((va_up LO ((y * side) + x) v) j))))] := hD
    refine lv_aload_n hx hb d_Lo_tie_36 rfl (lv_at hl 2 rfl) ?_
    refine lv_iconst (v := nI 0) hx hb d_Lo_tie_37 (by decide +kernel) ?_
    refine ka_i (y := pI False) (pI_z (fun h => h)) ?_
    refine va_put (D := D) (ci := 3) (v := .int (pI False)) (ty := .boolean) (C := R_Lo) (T := T_Lo) (N := 6) hx hb hts (fun w h => List.mem_cons_of_mem _ (iw_Lo w h)) ty_Lo tyok_Lo nm_Lo hown hK hP hD hS 0 rfl rfl 5 (by decide) (hts _ (List.mem_cons_of_mem _ k_43)) (fun _ h9 => h9) rfl (by decide +kernel) (pI_narrow _) (pI_fits _) (Nat.le_of_ble_eq_true rfl) d_Lo_tie_38 (fun H locs hP hD hS => ?_)
    have hP : va_P D vwCl [(h0, .inr (3, [.int (nI side), .ref a1, .ref a2, .ref a3, .ref a4, .int (pI False)])), (a2, .inl (cI, (side * side), .inl (fun j => nI ((va_up LO ((y * side) + x) v) j))))] H := hP
    have hD : va_D A [(h0, .inr (3, [.int (nI side), .ref a1, .ref a2, .ref a3, .ref a4, .int (pI False)])), (a2, .inl (cI, (side * side), .inl (fun j => nI ((va_up LO ((y * side) + x) v) j))))] := hD
    refine lv_iload hx hb d_Lo_tie_41 (lv_at hl 0 rfl) ?_
    exact kretz (u := ()) (pI_narrow _) hx hb hr hP hD hS hlocks rfl (rfl) d_Lo_tie_43
  · refine lv_iconst (v := nI 1) hx hb d_Lo_tie_21 (by decide +kernel) ?_
    refine ka_i (y := pI (¬ LO (y * side + x) = v)) (pI_1 (by omega)) ?_
    refine lv_goto (tgt := 26) hx hb d_Lo_tie_22 (by decide) ?_
    refine lv_istore (lv' := [(5, .int (pI (¬ LO (y * side + x) = v))), (4, .int (nI ((y * side) + x))), (0, .ref h0), (1, .int (nI x)), (2, .int (nI y)), (3, .int (nI v))]) hx hb d_Lo_tie_26 hl (by decide) rfl (fun ls hl => ?_)
    refine lv_aload_n hx hb d_Lo_tie_28 rfl (lv_at hl 2 rfl) ?_
    refine va_get (D := D) (ci := 3) (v := .ref a2) (C := R_Lo) (T := T_Lo) (N := 6) hx hb hts (fun w h => List.mem_cons_of_mem _ (iw_Lo w h)) hown hK hP 0 rfl rfl 2 (by decide) (hts _ (List.mem_cons_of_mem _ k_38)) (fun _ h9 => h9) rfl d_Lo_tie_29 ?_
    refine lv_iload hx hb d_Lo_tie_32 (lv_at hl 1 rfl) ?_
    refine lv_iload_n hx hb d_Lo_tie_34 rfl (lv_at hl 5 rfl) ?_
    refine ka_iastN (F := LO) (v := v) (k := ((y * side) + x)) (n := (side * side)) (nI_t (by omega)) (by omega) hx hb hK hP hD hS 1 0 rfl rfl d_Lo_tie_35 (fun H locs hP hD hS => ?_)
    have hP : va_P D vwCl [(h0, .inr (3, [.int (nI side), .ref a1, .ref a2, .ref a3, .ref a4, .int (pI sm)])), (a2, .inl (cI, (side * side), .inl (fun j => nI ((va_up LO ((y * side) + x) v) j))))] H := hP
    have hD : va_D A [(h0, .inr (3, [.int (nI side), .ref a1, .ref a2, .ref a3, .ref a4, .int (pI sm)])), (a2, .inl (cI, (side * side), .inl (fun j => nI ((va_up LO ((y * side) + x) v) j))))] := hD
    refine lv_aload_n hx hb d_Lo_tie_36 rfl (lv_at hl 2 rfl) ?_
    refine lv_iconst (v := nI 0) hx hb d_Lo_tie_37 (by decide +kernel) ?_
    refine ka_i (y := pI False) (pI_z (fun h => h)) ?_
    refine va_put (D := D) (ci := 3) (v := .int (pI False)) (ty := .boolean) (C := R_Lo) (T := T_Lo) (N := 6) hx hb hts (fun w h => List.mem_cons_of_mem _ (iw_Lo w h)) ty_Lo tyok_Lo nm_Lo hown hK hP hD hS 0 rfl rfl 5 (by decide) (hts _ (List.mem_cons_of_mem _ k_43)) (fun _ h9 => h9) rfl (by decide +kernel) (pI_narrow _) (pI_fits _) (Nat.le_of_ble_eq_true rfl) d_Lo_tie_38 (fun H locs hP hD hS => ?_)
    have hP : va_P D vwCl [(h0, .inr (3, [.int (nI side), .ref a1, .ref a2, .ref a3, .ref a4, .int (pI False)])), (a2, .inl (cI, (side * side), .inl (fun j => nI ((va_up LO ((y * side) + x) v) j))))] H := hP
    have hD : va_D A [(h0, .inr (3, [.int (nI side), .ref a1, .ref a2, .ref a3, .ref a4, .int (pI False)])), (a2, .inl (cI, (side * side), .inl (fun j => nI ((va_up LO ((y * side) + x) v) j))))] := hD
    refine lv_iload hx hb d_Lo_tie_41 (lv_at hl 0 rfl) ?_
    exact kretz (u := ()) (pI_narrow _) hx hb hr hP hD hS hlocks rfl (rfl) d_Lo_tie_43
set_option maxHeartbeats 4000000 in
set_option maxRecDepth 100000 in
theorem c_sumUpRow (l : Launch) (D : va_G) (cI cJ cZ : ClassId) (sz : Nat) (h0 : Nat) (side : Nat) (a1 : Nat) (a2 : Nat) (a3 : Nat) (a4 : Nat) (sm : Prop) (IN : Nat → Prop) (LO : Nat → Nat) (F3 : Nat → Nat) (F4 : Nat → Nat) (y : Nat) (s2 : side ≤ 20) (hy_ : y < side) : Met l y_Lo_sumUpRow w_Lo_sumUpRow ({ frames := 0, cells := 0, slots := 0, locals := 0 }) (va_Pc [.ref h0, .int (nI y)] (kB D vwCl (tyL cI cJ cZ) sz [(h0, .inr (3, [.int (nI side), .ref a1, .ref a2, .ref a3, .ref a4, .int (pI sm)])), (a1, .inl (cZ, ((2 * side) * side), .inl (fun j => pI (IN j)))), (a2, .inl (cI, (side * side), .inl (fun j => nI (LO j)))), (a3, .inl (cI, ((side + 1) * (side + 1)), .inl (fun j => nI (F3 j)))), (a4, .inl (cI, ((side + 1) * (side + 1)), .inl (fun j => nI (F4 j))))])) (va_Qv (fun (_ : Unit) => True) (fun (_ : Unit) t => kE D vwCl (va_A [(h0, .inr (3, [.int (nI side), .ref a1, .ref a2, .ref a3, .ref a4, .int (pI sm)])), (a1, .inl (cZ, ((2 * side) * side), .inl (fun j => pI (IN j)))), (a2, .inl (cI, (side * side), .inl (fun j => nI (LO j)))), (a3, .inl (cI, ((side + 1) * (side + 1)), .inl (fun j => nI (F3 j)))), (a4, .inl (cI, ((side + 1) * (side + 1)), .inl (fun j => nI (F4 j))))] sz) [(h0, .inr (3, [.int (nI side), .ref a1, .ref a2, .ref a3, .ref a4, .int (pI sm)])), (a1, .inl (cZ, ((2 * side) * side), .inl (fun j => pI (IN j)))), (a2, .inl (cI, (side * side), .inl (fun j => nI (LO j)))), (a3, .inl (cI, ((side + 1) * (side + 1)), .inl (fun j => nI ((rowUp side y (fun i_ => fbare side IN i_ y) F3 side) j)))), (a4, .inl (cI, ((side + 1) * (side + 1)), .inl (fun j => nI ((rowUp side y (fun i_ => floss side LO i_ y) F4 side) j))))] t) (va_A [(h0, .inr (3, [.int (nI side), .ref a1, .ref a2, .ref a3, .ref a4, .int (pI sm)])), (a1, .inl (cZ, ((2 * side) * side), .inl (fun j => pI (IN j)))), (a2, .inl (cI, (side * side), .inl (fun j => nI (LO j)))), (a3, .inl (cI, ((side + 1) * (side + 1)), .inl (fun j => nI (F3 j)))), (a4, .inl (cI, ((side + 1) * (side + 1)), .inl (fun j => nI (F4 j))))] sz)) 0 0 (va_A [(h0, .inr (3, [.int (nI side), .ref a1, .ref a2, .ref a3, .ref a4, .int (pI sm)])), (a1, .inl (cZ, ((2 * side) * side), .inl (fun j => pI (IN j)))), (a2, .inl (cI, (side * side), .inl (fun j => nI (LO j)))), (a3, .inl (cI, ((side + 1) * (side + 1)), .inl (fun j => nI (F3 j)))), (a4, .inl (cI, ((side + 1) * (side + 1)), .inl (fun j => nI (F4 j))))] sz) := by
  refine Met.ofW (cc := b_Lo_sumUpRow) (maxL := 8) (ret := none) (by decide) rfl ?_
  intro p e s m args below meth c s₁ B hml hv
  obtain ⟨rfl, hsz, hP, hK, hD0, hZ⟩ := hv
  have hx := B.exec
  have hb := B.bytes
  have hr := B.returns
  have hts := atoms_spec (ws := w_Lo_sumUpRow) B.pre
  have hown : s.vm.findClass R_Lo = some m.cls := findClass_of_methodNamed B.named
  have hlocks := B.notSynchronized
  subst hsz
  have hD := hD0.self (sz := s.heap.size)
  generalize hAe : va_A [(h0, .inr (3, [.int (nI side), .ref a1, .ref a2, .ref a3, .ref a4, .int (pI sm)])), (a1, .inl (cZ, ((2 * side) * side), .inl (fun j => pI (IN j)))), (a2, .inl (cI, (side * side), .inl (fun j => nI (LO j)))), (a3, .inl (cI, ((side + 1) * (side + 1)), .inl (fun j => nI (F3 j)))), (a4, .inl (cI, ((side + 1) * (side + 1)), .inl (fun j => nI (F4 j))))] s.heap.size = A at hD ⊢
  have hA : ∀ q : Nat, s.heap.size ≤ q → A q := fun q h => by rw [← hAe]; exact Or.inr h
  have hS : va_S A s.heap s.heap [] := va_S.rf
  have hP : va_P D vwCl [(h0, .inr (3, [.int (nI side), .ref a1, .ref a2, .ref a3, .ref a4, .int (pI sm)])), (a1, .inl (cZ, ((2 * side) * side), .inl (fun j => pI (IN j)))), (a2, .inl (cI, (side * side), .inl (fun j => nI (LO j)))), (a3, .inl (cI, ((side + 1) * (side + 1)), .inl (fun j => nI (F3 j)))), (a4, .inl (cI, ((side + 1) * (side + 1)), .inl (fun j => nI (F4 j))))] s.heap := hP
  have hl := lv_entry ([.ref h0, .int (nI y)]) (n := 8) (Nat.le_of_ble_eq_true rfl)
  rw [lg_entry_eq]
  generalize (lg_sl ([.ref h0, .int (nI y)]) ++ List.replicate (8 - (lg_sl ([.ref h0, .int (nI y)])).length) Slot.unset).toArray = ls at hl ⊢
  have hl : lv_has ls 8 [(0, .ref h0), (1, .int (nI y))] := hl
  have q2 := (sq20 s2).2
  have q5 := (sq20 s2).1
  have q6 := sq2 s2
  have q7 : 2 * side * side = side * side + side * side := by rw [Nat.mul_assoc]; omega
  refine lv_iconst (v := nI 0) hx hb d_Lo_sumUpRow_0 (by decide +kernel) ?_
  refine lv_istore_n (lv' := [(2, .int (nI 0)), (0, .ref h0), (1, .int (nI y))]) hx hb d_Lo_sumUpRow_1 rfl hl (by decide) rfl (fun ls hl => ?_)
  refine lv_iconst (v := nI 0) hx hb d_Lo_sumUpRow_2 (by decide +kernel) ?_
  refine lv_istore_n (lv' := [(3, .int (nI 0)), (2, .int (nI 0)), (0, .ref h0), (1, .int (nI y))]) hx hb d_Lo_sumUpRow_3 rfl hl (by decide) rfl (fun ls hl => ?_)
  refine lv_iconst (v := nI 0) hx hb d_Lo_sumUpRow_4 (by decide +kernel) ?_
  refine lv_istore (lv' := [(4, .int (nI 0)), (3, .int (nI 0)), (2, .int (nI 0)), (0, .ref h0), (1, .int (nI y))]) hx hb d_Lo_sumUpRow_5 hl (by decide) rfl (fun ls hl => ?_)
  have lp : ∀ (n : Nat) (t : Nat), (t + n = side) → ∀ (H : Heap) (locs : List Loc), va_P D vwCl [(h0, .inr (3, [.int (nI side), .ref a1, .ref a2, .ref a3, .ref a4, .int (pI sm)])), (a1, .inl (cZ, ((2 * side) * side), .inl (fun j => pI (IN j)))), (a2, .inl (cI, (side * side), .inl (fun j => nI (LO j)))), (a3, .inl (cI, ((side + 1) * (side + 1)), .inl (fun j => nI ((rowUp side y (fun i_ => fbare side IN i_ y) F3 t) j)))), (a4, .inl (cI, ((side + 1) * (side + 1)), .inl (fun j => nI ((rowUp side y (fun i_ => floss side LO i_ y) F4 t) j))))] H → va_D A [(h0, .inr (3, [.int (nI side), .ref a1, .ref a2, .ref a3, .ref a4, .int (pI sm)])), (a1, .inl (cZ, ((2 * side) * side), .inl (fun j => pI (IN j)))), (a2, .inl (cI, (side * side), .inl (fun j => nI (LO j)))), (a3, .inl (cI, ((side + 1) * (side + 1)), .inl (fun j => nI ((rowUp side y (fun i_ => fbare side IN i_ y) F3 t) j)))), (a4, .inl (cI, ((side + 1) * (side + 1)), .inl (fun j => nI ((rowUp side y (fun i_ => floss side LO i_ y) F4 t) j))))] → va_S A s.heap H locs → ∀ ls : Array Slot, lv_has ls 8 [(4, .int (nI t)), (3, .int (nI (sN (fun i_ => floss side LO i_ y) t))), (2, .int (nI (sN (fun i_ => fbare side IN i_ y) t))), (0, .ref h0), (1, .int (nI y))] → W p l e (headSpec w_Lo_sumUpRow ({ frames := 0, cells := 0, slots := 0, locals := 0 })).room s m ([.ref h0, .int (nI y)]).toArray below meth c H locs 0 0 (MQ below (va_Qv (fun (_ : Unit) => True) (fun (_ : Unit) t => kE D vwCl A [(h0, .inr (3, [.int (nI side), .ref a1, .ref a2, .ref a3, .ref a4, .int (pI sm)])), (a1, .inl (cZ, ((2 * side) * side), .inl (fun j => pI (IN j)))), (a2, .inl (cI, (side * side), .inl (fun j => nI (LO j)))), (a3, .inl (cI, ((side + 1) * (side + 1)), .inl (fun j => nI ((rowUp side y (fun i_ => fbare side IN i_ y) F3 side) j)))), (a4, .inl (cI, ((side + 1) * (side + 1)), .inl (fun j => nI ((rowUp side y (fun i_ => floss side LO i_ y) F4 side) j))))] t) A) ([.ref h0, .int (nI y)]).toArray s 0 0 A) (F0 m 7 ls []) := by
    intro n
    induction n with
    | zero =>
      intro t hi H locs hP hD hS ls hl
      refine lv_iload hx hb d_Lo_sumUpRow_7 (lv_at hl 0 rfl) ?_
      refine lv_aload_n hx hb d_Lo_sumUpRow_9 rfl (lv_at hl 3 rfl) ?_
      refine va_get (D := D) (ci := 3) (v := .int (nI side)) (C := R_Lo) (T := T_Lo) (N := 6) hx hb hts (fun w h => List.mem_cons_of_mem _ (iw_Lo w h)) hown hK hP 0 rfl rfl 0 (by decide) (hts _ (List.mem_cons_of_mem _ k_35)) (fun _ h9 => h9) rfl d_Lo_sumUpRow_10 ?_
      refine kb_cge (tgt := 139) (nI_t (by omega)) (nI_t (by omega)) hx hb d_Lo_sumUpRow_13 (by decide) (fun c_13 => ?_) (fun c_13 => ?_)
      · have et : side = t := by omega
        subst et
        exact kretv (u := ()) hx hb hr hP hD hS hlocks rfl (trivial) d_Lo_sumUpRow_139
      · exfalso; omega
    | succ n ih =>
      intro t hi H locs hP hD hS ls hl
      refine lv_iload hx hb d_Lo_sumUpRow_7 (lv_at hl 0 rfl) ?_
      refine lv_aload_n hx hb d_Lo_sumUpRow_9 rfl (lv_at hl 3 rfl) ?_
      refine va_get (D := D) (ci := 3) (v := .int (nI side)) (C := R_Lo) (T := T_Lo) (N := 6) hx hb hts (fun w h => List.mem_cons_of_mem _ (iw_Lo w h)) hown hK hP 0 rfl rfl 0 (by decide) (hts _ (List.mem_cons_of_mem _ k_35)) (fun _ h9 => h9) rfl d_Lo_sumUpRow_10 ?_
      refine kb_cge (tgt := 139) (nI_t (by omega)) (nI_t (by omega)) hx hb d_Lo_sumUpRow_13 (by decide) (fun c_13 => ?_) (fun c_13 => ?_)
      · exfalso; omega
      · have q1 := idxS (X := t) (Y := y) (n := side) (by omega) hy_
        have q8 := idxC (X := t + 1) (Y := y) (n := side) (by omega) (by omega)
        have q9 := idxC (X := t + 1) (Y := y + 1) (n := side) (by omega) (by omega)
        have q10 := corner_eq side y t
        refine lv_iload_n hx hb d_Lo_sumUpRow_16 rfl (lv_at hl 4 rfl) ?_
        refine lv_aload_n hx hb d_Lo_sumUpRow_17 rfl (lv_at hl 3 rfl) ?_
        refine va_get (D := D) (ci := 3) (v := .int (nI side)) (C := R_Lo) (T := T_Lo) (N := 6) hx hb hts (fun w h => List.mem_cons_of_mem _ (iw_Lo w h)) hown hK hP 0 rfl rfl 0 (by decide) (hts _ (List.mem_cons_of_mem _ k_35)) (fun _ h9 => h9) rfl d_Lo_sumUpRow_18 ?_
        refine lv_imul hx hb d_Lo_sumUpRow_21 ?_
        refine ka_i (y := nI (y * side)) (pk_mul _ _) ?_
        refine lv_iload hx hb d_Lo_sumUpRow_22 (lv_at hl 0 rfl) ?_
        refine lv_iadd hx hb d_Lo_sumUpRow_24 ?_
        refine ka_i (y := nI ((y * side) + t)) (nI_add _ _) ?_
        refine lv_istore (lv' := [(5, .int (nI ((y * side) + t))), (4, .int (nI t)), (3, .int (nI (sN (fun i_ => floss side LO i_ y) t))), (2, .int (nI (sN (fun i_ => fbare side IN i_ y) t))), (0, .ref h0), (1, .int (nI y))]) hx hb d_Lo_sumUpRow_25 hl (by decide) rfl (fun ls hl => ?_)
        refine lv_iload_n hx hb d_Lo_sumUpRow_27 rfl (lv_at hl 3 rfl) ?_
        refine lv_aload_n hx hb d_Lo_sumUpRow_28 rfl (lv_at hl 4 rfl) ?_
        refine va_get (D := D) (ci := 3) (v := .ref a1) (C := R_Lo) (T := T_Lo) (N := 6) hx hb hts (fun w h => List.mem_cons_of_mem _ (iw_Lo w h)) hown hK hP 0 rfl rfl 1 (by decide) (hts _ (List.mem_cons_of_mem _ k_37)) (fun _ h9 => h9) rfl d_Lo_sumUpRow_29 ?_
        refine lv_iload hx hb d_Lo_sumUpRow_32 (lv_at hl 0 rfl) ?_
        refine ka_zald (k := ((y * side) + t)) (n := ((2 * side) * side)) (f := fun j => pI (IN j)) (nI_t (by omega)) (by omega) hx hb hK hP 1 2 rfl rfl d_Lo_sumUpRow_34 ?_
        refine kb_eqP (tgt := 62) hx hb d_Lo_sumUpRow_35 (by decide) (fun w1 => ?_) (fun w1 => ?_)
        · refine lv_iconst (v := nI 1) hx hb d_Lo_sumUpRow_62 (by decide +kernel) ?_
          refine lv_iadd hx hb d_Lo_sumUpRow_63 ?_
          refine ka_i (y := nI ((sN (fun i_ => fbare side IN i_ y) t) + 1)) (nI_add _ _) ?_
          refine ka_i (y := nI (sN (fun i_ => fbare side IN i_ y) (t + 1))) (congrArg nI (by
            show _ = sN (fun i_ => fbare side IN i_ y) t + bareN (IN (y * side + t) ∧ IN (side * side + (y * side + t)))
            rw [bareN_f (fun h => w1 h.1)])) ?_
          refine lv_istore_n (lv' := [(2, .int (nI (sN (fun i_ => fbare side IN i_ y) (t + 1)))), (5, .int (nI ((y * side) + t))), (4, .int (nI t)), (3, .int (nI (sN (fun i_ => floss side LO i_ y) t))), (0, .ref h0), (1, .int (nI y))]) hx hb d_Lo_sumUpRow_64 rfl hl (by decide) rfl (fun ls hl => ?_)
          refine lv_iload_n hx hb d_Lo_sumUpRow_65 rfl (lv_at hl 3 rfl) ?_
          refine lv_aload_n hx hb d_Lo_sumUpRow_66 rfl (lv_at hl 4 rfl) ?_
          refine va_get (D := D) (ci := 3) (v := .ref a2) (C := R_Lo) (T := T_Lo) (N := 6) hx hb hts (fun w h => List.mem_cons_of_mem _ (iw_Lo w h)) hown hK hP 0 rfl rfl 2 (by decide) (hts _ (List.mem_cons_of_mem _ k_38)) (fun _ h9 => h9) rfl d_Lo_sumUpRow_67 ?_
          refine lv_iload hx hb d_Lo_sumUpRow_70 (lv_at hl 1 rfl) ?_
          refine ka_iald (k := ((y * side) + t)) (n := (side * side)) (f := fun j => nI (LO j)) (nI_t (by omega)) (by omega) hx hb hK hP 2 0 rfl rfl d_Lo_sumUpRow_72 ?_
          refine lv_iadd hx hb d_Lo_sumUpRow_73 ?_
          refine ka_i (y := nI ((sN (fun i_ => floss side LO i_ y) t) + (LO ((y * side) + t)))) (nI_add _ _) ?_
          refine ka_i (y := nI (sN (fun i_ => floss side LO i_ y) (t + 1))) (rfl) ?_
          refine lv_istore_n (lv' := [(3, .int (nI (sN (fun i_ => floss side LO i_ y) (t + 1)))), (2, .int (nI (sN (fun i_ => fbare side IN i_ y) (t + 1)))), (5, .int (nI ((y * side) + t))), (4, .int (nI t)), (0, .ref h0), (1, .int (nI y))]) hx hb d_Lo_sumUpRow_74 rfl hl (by decide) rfl (fun ls hl => ?_)
          refine lv_iload_n hx hb d_Lo_sumUpRow_75 rfl (lv_at hl 5 rfl) ?_
          refine lv_aload_n hx hb d_Lo_sumUpRow_76 rfl (lv_at hl 4 rfl) ?_
          refine va_get (D := D) (ci := 3) (v := .int (nI side)) (C := R_Lo) (T := T_Lo) (N := 6) hx hb hts (fun w h => List.mem_cons_of_mem _ (iw_Lo w h)) hown hK hP 0 rfl rfl 0 (by decide) (hts _ (List.mem_cons_of_mem _ k_35)) (fun _ h9 => h9) rfl d_Lo_sumUpRow_77 ?_
          refine lv_iconst (v := nI 1) hx hb d_Lo_sumUpRow_80 (by decide +kernel) ?_
          refine lv_iadd hx hb d_Lo_sumUpRow_81 ?_
          refine ka_i (y := nI (side + 1)) (nI_add _ _) ?_
          refine lv_imul hx hb d_Lo_sumUpRow_82 ?_
          refine ka_i (y := nI (y * (side + 1))) (pk_mul _ _) ?_
          refine lv_iload hx hb d_Lo_sumUpRow_83 (lv_at hl 3 rfl) ?_
          refine lv_iadd hx hb d_Lo_sumUpRow_85 ?_
          refine ka_i (y := nI ((y * (side + 1)) + t)) (nI_add _ _) ?_
          refine lv_iconst (v := nI 1) hx hb d_Lo_sumUpRow_86 (by decide +kernel) ?_
          refine lv_iadd hx hb d_Lo_sumUpRow_87 ?_
          refine ka_i (y := nI (((y * (side + 1)) + t) + 1)) (nI_add _ _) ?_
          refine lv_istore (lv' := [(6, .int (nI (((y * (side + 1)) + t) + 1))), (3, .int (nI (sN (fun i_ => floss side LO i_ y) (t + 1)))), (2, .int (nI (sN (fun i_ => fbare side IN i_ y) (t + 1)))), (5, .int (nI ((y * side) + t))), (4, .int (nI t)), (0, .ref h0), (1, .int (nI y))]) hx hb d_Lo_sumUpRow_88 hl (by decide) rfl (fun ls hl => ?_)
          refine lv_iload hx hb d_Lo_sumUpRow_90 (lv_at hl 0 rfl) ?_
          refine lv_aload_n hx hb d_Lo_sumUpRow_92 rfl (lv_at hl 5 rfl) ?_
          refine va_get (D := D) (ci := 3) (v := .int (nI side)) (C := R_Lo) (T := T_Lo) (N := 6) hx hb hts (fun w h => List.mem_cons_of_mem _ (iw_Lo w h)) hown hK hP 0 rfl rfl 0 (by decide) (hts _ (List.mem_cons_of_mem _ k_35)) (fun _ h9 => h9) rfl d_Lo_sumUpRow_93 ?_
          refine lv_iadd hx hb d_Lo_sumUpRow_96 ?_
          refine ka_i (y := nI ((((y * (side + 1)) + t) + 1) + side)) (nI_add _ _) ?_
          refine lv_iconst (v := nI 1) hx hb d_Lo_sumUpRow_97 (by decide +kernel) ?_
          refine lv_iadd hx hb d_Lo_sumUpRow_98 ?_
          refine ka_i (y := nI (((((y * (side + 1)) + t) + 1) + side) + 1)) (nI_add _ _) ?_
          refine lv_istore (lv' := [(7, .int (nI (((((y * (side + 1)) + t) + 1) + side) + 1))), (6, .int (nI (((y * (side + 1)) + t) + 1))), (3, .int (nI (sN (fun i_ => floss side LO i_ y) (t + 1)))), (2, .int (nI (sN (fun i_ => fbare side IN i_ y) (t + 1)))), (5, .int (nI ((y * side) + t))), (4, .int (nI t)), (0, .ref h0), (1, .int (nI y))]) hx hb d_Lo_sumUpRow_99 hl (by decide) rfl (fun ls hl => ?_)
          refine lv_aload_n hx hb d_Lo_sumUpRow_101 rfl (lv_at hl 6 rfl) ?_
          refine va_get (D := D) (ci := 3) (v := .ref a3) (C := R_Lo) (T := T_Lo) (N := 6) hx hb hts (fun w h => List.mem_cons_of_mem _ (iw_Lo w h)) hown hK hP 0 rfl rfl 3 (by decide) (hts _ (List.mem_cons_of_mem _ k_39)) (fun _ h9 => h9) rfl d_Lo_sumUpRow_102 ?_
          refine lv_iload hx hb d_Lo_sumUpRow_105 (lv_at hl 0 rfl) ?_
          refine lv_aload_n hx hb d_Lo_sumUpRow_107 rfl (lv_at hl 6 rfl) ?_
          refine va_get (D := D) (ci := 3) (v := .ref a3) (C := R_Lo) (T := T_Lo) (N := 6) hx hb hts (fun w h => List.mem_cons_of_mem _ (iw_Lo w h)) hown hK hP 0 rfl rfl 3 (by decide) (hts _ (List.mem_cons_of_mem _ k_39)) (fun _ h9 => h9) rfl d_Lo_sumUpRow_108 ?_
          refine lv_iload hx hb d_Lo_sumUpRow_111 (lv_at hl 1 rfl) ?_
          refine ka_iald (k := (((y * (side + 1)) + t) + 1)) (n := ((side + 1) * (side + 1))) (f := fun j => nI ((rowUp side y (fun i_ => fbare side IN i_ y) F3 t) j)) (nI_t (by omega)) (by omega) hx hb hK hP 3 0 rfl rfl d_Lo_sumUpRow_113 ?_
          refine lv_iload_n hx hb d_Lo_sumUpRow_114 rfl (lv_at hl 3 rfl) ?_
          refine lv_iadd hx hb d_Lo_sumUpRow_115 ?_
          refine ka_i (y := nI (((rowUp side y (fun i_ => fbare side IN i_ y) F3 t) (((y * (side + 1)) + t) + 1)) + (sN (fun i_ => fbare side IN i_ y) (t + 1)))) (nI_add _ _) ?_
          refine ka_iastN (F := (rowUp side y (fun i_ => fbare side IN i_ y) F3 t)) (v := (((rowUp side y (fun i_ => fbare side IN i_ y) F3 t) (((y * (side + 1)) + t) + 1)) + (sN (fun i_ => fbare side IN i_ y) (t + 1)))) (k := (((((y * (side + 1)) + t) + 1) + side) + 1)) (n := ((side + 1) * (side + 1))) (nI_t (by omega)) (by omega) hx hb hK hP hD hS 3 0 rfl rfl d_Lo_sumUpRow_116 (fun H locs hP hD hS => ?_)
          have hP : va_P D vwCl [(h0, .inr (3, [.int (nI side), .ref a1, .ref a2, .ref a3, .ref a4, .int (pI sm)])), (a1, .inl (cZ, ((2 * side) * side), .inl (fun j => pI (IN j)))), (a2, .inl (cI, (side * side), .inl (fun j => nI (LO j)))), (a3, .inl (cI, ((side + 1) * (side + 1)), .inl (fun j => nI ((va_up (rowUp side y (fun i_ => fbare side IN i_ y) F3 t) (((((y * (side + 1)) + t) + 1) + side) + 1) (((rowUp side y (fun i_ => fbare side IN i_ y) F3 t) (((y * (side + 1)) + t) + 1)) + (sN (fun i_ => fbare side IN i_ y) (t + 1)))) j)))), (a4, .inl (cI, ((side + 1) * (side + 1)), .inl (fun j => nI ((rowUp side y (fun i_ => floss side LO i_ y) F4 t) j))))] H := hP
          have hD : va_D A [(h0, .inr (3, [.int (nI side), .ref a1, .ref a2, .ref a3, .ref a4, .int (pI sm)])), (a1, .inl (cZ, ((2 * side) * side), .inl (fun j => pI (IN j)))), (a2, .inl (cI, (side * side), .inl (fun j => nI (LO j)))), (a3, .inl (cI, ((side + 1) * (side + 1)), .inl (fun j => nI ((va_up (rowUp side y (fun i_ => fbare side IN i_ y) F3 t) (((((y * (side + 1)) + t) + 1) + side) + 1) (((rowUp side y (fun i_ => fbare side IN i_ y) F3 t) (((y * (side + 1)) + t) + 1)) + (sN (fun i_ => fbare side IN i_ y) (t + 1)))) j)))), (a4, .inl (cI, ((side + 1) * (side + 1)), .inl (fun j => nI ((rowUp side y (fun i_ => floss side LO i_ y) F4 t) j))))] := hD
          refine lv_aload_n hx hb d_Lo_sumUpRow_117 rfl (lv_at hl 6 rfl) ?_
          refine va_get (D := D) (ci := 3) (v := .ref a4) (C := R_Lo) (T := T_Lo) (N := 6) hx hb hts (fun w h => List.mem_cons_of_mem _ (iw_Lo w h)) hown hK hP 0 rfl rfl 4 (by decide) (hts _ (List.mem_cons_of_mem _ k_41)) (fun _ h9 => h9) rfl d_Lo_sumUpRow_118 ?_
          refine lv_iload hx hb d_Lo_sumUpRow_121 (lv_at hl 0 rfl) ?_
          refine lv_aload_n hx hb d_Lo_sumUpRow_123 rfl (lv_at hl 6 rfl) ?_
          refine va_get (D := D) (ci := 3) (v := .ref a4) (C := R_Lo) (T := T_Lo) (N := 6) hx hb hts (fun w h => List.mem_cons_of_mem _ (iw_Lo w h)) hown hK hP 0 rfl rfl 4 (by decide) (hts _ (List.mem_cons_of_mem _ k_41)) (fun _ h9 => h9) rfl d_Lo_sumUpRow_124 ?_
          refine lv_iload hx hb d_Lo_sumUpRow_127 (lv_at hl 1 rfl) ?_
          refine ka_iald (k := (((y * (side + 1)) + t) + 1)) (n := ((side + 1) * (side + 1))) (f := fun j => nI ((rowUp side y (fun i_ => floss side LO i_ y) F4 t) j)) (nI_t (by omega)) (by omega) hx hb hK hP 4 0 rfl rfl d_Lo_sumUpRow_129 ?_
          refine lv_iload_n hx hb d_Lo_sumUpRow_130 rfl (lv_at hl 2 rfl) ?_
          refine lv_iadd hx hb d_Lo_sumUpRow_131 ?_
          refine ka_i (y := nI (((rowUp side y (fun i_ => floss side LO i_ y) F4 t) (((y * (side + 1)) + t) + 1)) + (sN (fun i_ => floss side LO i_ y) (t + 1)))) (nI_add _ _) ?_
          refine ka_iastN (F := (rowUp side y (fun i_ => floss side LO i_ y) F4 t)) (v := (((rowUp side y (fun i_ => floss side LO i_ y) F4 t) (((y * (side + 1)) + t) + 1)) + (sN (fun i_ => floss side LO i_ y) (t + 1)))) (k := (((((y * (side + 1)) + t) + 1) + side) + 1)) (n := ((side + 1) * (side + 1))) (nI_t (by omega)) (by omega) hx hb hK hP hD hS 4 0 rfl rfl d_Lo_sumUpRow_132 (fun H locs hP hD hS => ?_)
          have hP : va_P D vwCl [(h0, .inr (3, [.int (nI side), .ref a1, .ref a2, .ref a3, .ref a4, .int (pI sm)])), (a1, .inl (cZ, ((2 * side) * side), .inl (fun j => pI (IN j)))), (a2, .inl (cI, (side * side), .inl (fun j => nI (LO j)))), (a3, .inl (cI, ((side + 1) * (side + 1)), .inl (fun j => nI ((va_up (rowUp side y (fun i_ => fbare side IN i_ y) F3 t) (((((y * (side + 1)) + t) + 1) + side) + 1) (((rowUp side y (fun i_ => fbare side IN i_ y) F3 t) (((y * (side + 1)) + t) + 1)) + (sN (fun i_ => fbare side IN i_ y) (t + 1)))) j)))), (a4, .inl (cI, ((side + 1) * (side + 1)), .inl (fun j => nI ((va_up (rowUp side y (fun i_ => floss side LO i_ y) F4 t) (((((y * (side + 1)) + t) + 1) + side) + 1) (((rowUp side y (fun i_ => floss side LO i_ y) F4 t) (((y * (side + 1)) + t) + 1)) + (sN (fun i_ => floss side LO i_ y) (t + 1)))) j))))] H := hP
          have hD : va_D A [(h0, .inr (3, [.int (nI side), .ref a1, .ref a2, .ref a3, .ref a4, .int (pI sm)])), (a1, .inl (cZ, ((2 * side) * side), .inl (fun j => pI (IN j)))), (a2, .inl (cI, (side * side), .inl (fun j => nI (LO j)))), (a3, .inl (cI, ((side + 1) * (side + 1)), .inl (fun j => nI ((va_up (rowUp side y (fun i_ => fbare side IN i_ y) F3 t) (((((y * (side + 1)) + t) + 1) + side) + 1) (((rowUp side y (fun i_ => fbare side IN i_ y) F3 t) (((y * (side + 1)) + t) + 1)) + (sN (fun i_ => fbare side IN i_ y) (t + 1)))) j)))), (a4, .inl (cI, ((side + 1) * (side + 1)), .inl (fun j => nI ((va_up (rowUp side y (fun i_ => floss side LO i_ y) F4 t) (((((y * (side + 1)) + t) + 1) + side) + 1) (((rowUp side y (fun i_ => floss side LO i_ y) F4 t) (((y * (side + 1)) + t) + 1)) + (sN (fun i_ => floss side LO i_ y) (t + 1)))) j))))] := hD
          refine lv_iinc (v := nI (t + 1)) (lv' := [(4, .int (nI (t + 1))), (7, .int (nI (((((y * (side + 1)) + t) + 1) + side) + 1))), (6, .int (nI (((y * (side + 1)) + t) + 1))), (3, .int (nI (sN (fun i_ => floss side LO i_ y) (t + 1)))), (2, .int (nI (sN (fun i_ => fbare side IN i_ y) (t + 1)))), (5, .int (nI ((y * side) + t))), (0, .ref h0), (1, .int (nI y))]) hx hb d_Lo_sumUpRow_133 hl (k := 5) rfl (nI_add _ 1) (by decide) rfl (fun ls hl => ?_)
          refine lv_goto (tgt := 7) hx hb d_Lo_sumUpRow_136 (by decide) ?_
          exact ih (t + 1) (by omega) _ _ hP hD hS ls (lv_sub hl [0, 3, 4, 6, 7] rfl)
        · refine lv_aload_n hx hb d_Lo_sumUpRow_38 rfl (lv_at hl 4 rfl) ?_
          refine va_get (D := D) (ci := 3) (v := .ref a1) (C := R_Lo) (T := T_Lo) (N := 6) hx hb hts (fun w h => List.mem_cons_of_mem _ (iw_Lo w h)) hown hK hP 0 rfl rfl 1 (by decide) (hts _ (List.mem_cons_of_mem _ k_37)) (fun _ h9 => h9) rfl d_Lo_sumUpRow_39 ?_
          refine lv_aload_n hx hb d_Lo_sumUpRow_42 rfl (lv_at hl 4 rfl) ?_
          refine va_get (D := D) (ci := 3) (v := .int (nI side)) (C := R_Lo) (T := T_Lo) (N := 6) hx hb hts (fun w h => List.mem_cons_of_mem _ (iw_Lo w h)) hown hK hP 0 rfl rfl 0 (by decide) (hts _ (List.mem_cons_of_mem _ k_35)) (fun _ h9 => h9) rfl d_Lo_sumUpRow_43 ?_
          refine lv_aload_n hx hb d_Lo_sumUpRow_46 rfl (lv_at hl 4 rfl) ?_
          refine va_get (D := D) (ci := 3) (v := .int (nI side)) (C := R_Lo) (T := T_Lo) (N := 6) hx hb hts (fun w h => List.mem_cons_of_mem _ (iw_Lo w h)) hown hK hP 0 rfl rfl 0 (by decide) (hts _ (List.mem_cons_of_mem _ k_35)) (fun _ h9 => h9) rfl d_Lo_sumUpRow_47 ?_
          refine lv_imul hx hb d_Lo_sumUpRow_50 ?_
          refine ka_i (y := nI (side * side)) (pk_mul _ _) ?_
          refine lv_iload hx hb d_Lo_sumUpRow_51 (lv_at hl 0 rfl) ?_
          refine lv_iadd hx hb d_Lo_sumUpRow_53 ?_
          refine ka_i (y := nI ((side * side) + ((y * side) + t))) (nI_add _ _) ?_
          refine ka_zald (k := ((side * side) + ((y * side) + t))) (n := ((2 * side) * side)) (f := fun j => pI (IN j)) (nI_t (by omega)) (by omega) hx hb hK hP 1 2 rfl rfl d_Lo_sumUpRow_54 ?_
          refine kb_eqP (tgt := 62) hx hb d_Lo_sumUpRow_55 (by decide) (fun w2 => ?_) (fun w2 => ?_)
          · refine lv_iconst (v := nI 1) hx hb d_Lo_sumUpRow_62 (by decide +kernel) ?_
            refine lv_iadd hx hb d_Lo_sumUpRow_63 ?_
            refine ka_i (y := nI ((sN (fun i_ => fbare side IN i_ y) t) + 1)) (nI_add _ _) ?_
            refine ka_i (y := nI (sN (fun i_ => fbare side IN i_ y) (t + 1))) (congrArg nI (by
              show _ = sN (fun i_ => fbare side IN i_ y) t + bareN (IN (y * side + t) ∧ IN (side * side + (y * side + t)))
              rw [bareN_f (fun h => w2 h.2)])) ?_
            refine lv_istore_n (lv' := [(2, .int (nI (sN (fun i_ => fbare side IN i_ y) (t + 1)))), (5, .int (nI ((y * side) + t))), (4, .int (nI t)), (3, .int (nI (sN (fun i_ => floss side LO i_ y) t))), (0, .ref h0), (1, .int (nI y))]) hx hb d_Lo_sumUpRow_64 rfl hl (by decide) rfl (fun ls hl => ?_)
            refine lv_iload_n hx hb d_Lo_sumUpRow_65 rfl (lv_at hl 3 rfl) ?_
            refine lv_aload_n hx hb d_Lo_sumUpRow_66 rfl (lv_at hl 4 rfl) ?_
            refine va_get (D := D) (ci := 3) (v := .ref a2) (C := R_Lo) (T := T_Lo) (N := 6) hx hb hts (fun w h => List.mem_cons_of_mem _ (iw_Lo w h)) hown hK hP 0 rfl rfl 2 (by decide) (hts _ (List.mem_cons_of_mem _ k_38)) (fun _ h9 => h9) rfl d_Lo_sumUpRow_67 ?_
            refine lv_iload hx hb d_Lo_sumUpRow_70 (lv_at hl 1 rfl) ?_
            refine ka_iald (k := ((y * side) + t)) (n := (side * side)) (f := fun j => nI (LO j)) (nI_t (by omega)) (by omega) hx hb hK hP 2 0 rfl rfl d_Lo_sumUpRow_72 ?_
            refine lv_iadd hx hb d_Lo_sumUpRow_73 ?_
            refine ka_i (y := nI ((sN (fun i_ => floss side LO i_ y) t) + (LO ((y * side) + t)))) (nI_add _ _) ?_
            refine ka_i (y := nI (sN (fun i_ => floss side LO i_ y) (t + 1))) (rfl) ?_
            refine lv_istore_n (lv' := [(3, .int (nI (sN (fun i_ => floss side LO i_ y) (t + 1)))), (2, .int (nI (sN (fun i_ => fbare side IN i_ y) (t + 1)))), (5, .int (nI ((y * side) + t))), (4, .int (nI t)), (0, .ref h0), (1, .int (nI y))]) hx hb d_Lo_sumUpRow_74 rfl hl (by decide) rfl (fun ls hl => ?_)
            refine lv_iload_n hx hb d_Lo_sumUpRow_75 rfl (lv_at hl 5 rfl) ?_
            refine lv_aload_n hx hb d_Lo_sumUpRow_76 rfl (lv_at hl 4 rfl) ?_
            refine va_get (D := D) (ci := 3) (v := .int (nI side)) (C := R_Lo) (T := T_Lo) (N := 6) hx hb hts (fun w h => List.mem_cons_of_mem _ (iw_Lo w h)) hown hK hP 0 rfl rfl 0 (by decide) (hts _ (List.mem_cons_of_mem _ k_35)) (fun _ h9 => h9) rfl d_Lo_sumUpRow_77 ?_
            refine lv_iconst (v := nI 1) hx hb d_Lo_sumUpRow_80 (by decide +kernel) ?_
            refine lv_iadd hx hb d_Lo_sumUpRow_81 ?_
            refine ka_i (y := nI (side + 1)) (nI_add _ _) ?_
            refine lv_imul hx hb d_Lo_sumUpRow_82 ?_
            refine ka_i (y := nI (y * (side + 1))) (pk_mul _ _) ?_
            refine lv_iload hx hb d_Lo_sumUpRow_83 (lv_at hl 3 rfl) ?_
            refine lv_iadd hx hb d_Lo_sumUpRow_85 ?_
            refine ka_i (y := nI ((y * (side + 1)) + t)) (nI_add _ _) ?_
            refine lv_iconst (v := nI 1) hx hb d_Lo_sumUpRow_86 (by decide +kernel) ?_
            refine lv_iadd hx hb d_Lo_sumUpRow_87 ?_
            refine ka_i (y := nI (((y * (side + 1)) + t) + 1)) (nI_add _ _) ?_
            refine lv_istore (lv' := [(6, .int (nI (((y * (side + 1)) + t) + 1))), (3, .int (nI (sN (fun i_ => floss side LO i_ y) (t + 1)))), (2, .int (nI (sN (fun i_ => fbare side IN i_ y) (t + 1)))), (5, .int (nI ((y * side) + t))), (4, .int (nI t)), (0, .ref h0), (1, .int (nI y))]) hx hb d_Lo_sumUpRow_88 hl (by decide) rfl (fun ls hl => ?_)
            refine lv_iload hx hb d_Lo_sumUpRow_90 (lv_at hl 0 rfl) ?_
            refine lv_aload_n hx hb d_Lo_sumUpRow_92 rfl (lv_at hl 5 rfl) ?_
            refine va_get (D := D) (ci := 3) (v := .int (nI side)) (C := R_Lo) (T := T_Lo) (N := 6) hx hb hts (fun w h => List.mem_cons_of_mem _ (iw_Lo w h)) hown hK hP 0 rfl rfl 0 (by decide) (hts _ (List.mem_cons_of_mem _ k_35)) (fun _ h9 => h9) rfl d_Lo_sumUpRow_93 ?_
            refine lv_iadd hx hb d_Lo_sumUpRow_96 ?_
            refine ka_i (y := nI ((((y * (side + 1)) + t) + 1) + side)) (nI_add _ _) ?_
            refine lv_iconst (v := nI 1) hx hb d_Lo_sumUpRow_97 (by decide +kernel) ?_
            refine lv_iadd hx hb d_Lo_sumUpRow_98 ?_
            refine ka_i (y := nI (((((y * (side + 1)) + t) + 1) + side) + 1)) (nI_add _ _) ?_
            refine lv_istore (lv' := [(7, .int (nI (((((y * (side + 1)) + t) + 1) + side) + 1))), (6, .int (nI (((y * (side + 1)) + t) + 1))), (3, .int (nI (sN (fun i_ => floss side LO i_ y) (t + 1)))), (2, .int (nI (sN (fun i_ => fbare side IN i_ y) (t + 1)))), (5, .int (nI ((y * side) + t))), (4, .int (nI t)), (0, .ref h0), (1, .int (nI y))]) hx hb d_Lo_sumUpRow_99 hl (by decide) rfl (fun ls hl => ?_)
            refine lv_aload_n hx hb d_Lo_sumUpRow_101 rfl (lv_at hl 6 rfl) ?_
            refine va_get (D := D) (ci := 3) (v := .ref a3) (C := R_Lo) (T := T_Lo) (N := 6) hx hb hts (fun w h => List.mem_cons_of_mem _ (iw_Lo w h)) hown hK hP 0 rfl rfl 3 (by decide) (hts _ (List.mem_cons_of_mem _ k_39)) (fun _ h9 => h9) rfl d_Lo_sumUpRow_102 ?_
            refine lv_iload hx hb d_Lo_sumUpRow_105 (lv_at hl 0 rfl) ?_
            refine lv_aload_n hx hb d_Lo_sumUpRow_107 rfl (lv_at hl 6 rfl) ?_
            refine va_get (D := D) (ci := 3) (v := .ref a3) (C := R_Lo) (T := T_Lo) (N := 6) hx hb hts (fun w h => List.mem_cons_of_mem _ (iw_Lo w h)) hown hK hP 0 rfl rfl 3 (by decide) (hts _ (List.mem_cons_of_mem _ k_39)) (fun _ h9 => h9) rfl d_Lo_sumUpRow_108 ?_
            refine lv_iload hx hb d_Lo_sumUpRow_111 (lv_at hl 1 rfl) ?_
            refine ka_iald (k := (((y * (side + 1)) + t) + 1)) (n := ((side + 1) * (side + 1))) (f := fun j => nI ((rowUp side y (fun i_ => fbare side IN i_ y) F3 t) j)) (nI_t (by omega)) (by omega) hx hb hK hP 3 0 rfl rfl d_Lo_sumUpRow_113 ?_
            refine lv_iload_n hx hb d_Lo_sumUpRow_114 rfl (lv_at hl 3 rfl) ?_
            refine lv_iadd hx hb d_Lo_sumUpRow_115 ?_
            refine ka_i (y := nI (((rowUp side y (fun i_ => fbare side IN i_ y) F3 t) (((y * (side + 1)) + t) + 1)) + (sN (fun i_ => fbare side IN i_ y) (t + 1)))) (nI_add _ _) ?_
            refine ka_iastN (F := (rowUp side y (fun i_ => fbare side IN i_ y) F3 t)) (v := (((rowUp side y (fun i_ => fbare side IN i_ y) F3 t) (((y * (side + 1)) + t) + 1)) + (sN (fun i_ => fbare side IN i_ y) (t + 1)))) (k := (((((y * (side + 1)) + t) + 1) + side) + 1)) (n := ((side + 1) * (side + 1))) (nI_t (by omega)) (by omega) hx hb hK hP hD hS 3 0 rfl rfl d_Lo_sumUpRow_116 (fun H locs hP hD hS => ?_)
            have hP : va_P D vwCl [(h0, .inr (3, [.int (nI side), .ref a1, .ref a2, .ref a3, .ref a4, .int (pI sm)])), (a1, .inl (cZ, ((2 * side) * side), .inl (fun j => pI (IN j)))), (a2, .inl (cI, (side * side), .inl (fun j => nI (LO j)))), (a3, .inl (cI, ((side + 1) * (side + 1)), .inl (fun j => nI ((va_up (rowUp side y (fun i_ => fbare side IN i_ y) F3 t) (((((y * (side + 1)) + t) + 1) + side) + 1) (((rowUp side y (fun i_ => fbare side IN i_ y) F3 t) (((y * (side + 1)) + t) + 1)) + (sN (fun i_ => fbare side IN i_ y) (t + 1)))) j)))), (a4, .inl (cI, ((side + 1) * (side + 1)), .inl (fun j => nI ((rowUp side y (fun i_ => floss side LO i_ y) F4 t) j))))] H := hP
            have hD : va_D A [(h0, .inr (3, [.int (nI side), .ref a1, .ref a2, .ref a3, .ref a4, .int (pI sm)])), (a1, .inl (cZ, ((2 * side) * side), .inl (fun j => pI (IN j)))), (a2, .inl (cI, (side * side), .inl (fun j => nI (LO j)))), (a3, .inl (cI, ((side + 1) * (side + 1)), .inl (fun j => nI ((va_up (rowUp side y (fun i_ => fbare side IN i_ y) F3 t) (((((y * (side + 1)) + t) + 1) + side) + 1) (((rowUp side y (fun i_ => fbare side IN i_ y) F3 t) (((y * (side + 1)) + t) + 1)) + (sN (fun i_ => fbare side IN i_ y) (t + 1)))) j)))), (a4, .inl (cI, ((side + 1) * (side + 1)), .inl (fun j => nI ((rowUp side y (fun i_ => floss side LO i_ y) F4 t) j))))] := hD
            refine lv_aload_n hx hb d_Lo_sumUpRow_117 rfl (lv_at hl 6 rfl) ?_
            refine va_get (D := D) (ci := 3) (v := .ref a4) (C := R_Lo) (T := T_Lo) (N := 6) hx hb hts (fun w h => List.mem_cons_of_mem _ (iw_Lo w h)) hown hK hP 0 rfl rfl 4 (by decide) (hts _ (List.mem_cons_of_mem _ k_41)) (fun _ h9 => h9) rfl d_Lo_sumUpRow_118 ?_
            refine lv_iload hx hb d_Lo_sumUpRow_121 (lv_at hl 0 rfl) ?_
            refine lv_aload_n hx hb d_Lo_sumUpRow_123 rfl (lv_at hl 6 rfl) ?_
            refine va_get (D := D) (ci := 3) (v := .ref a4) (C := R_Lo) (T := T_Lo) (N := 6) hx hb hts (fun w h => List.mem_cons_of_mem _ (iw_Lo w h)) hown hK hP 0 rfl rfl 4 (by decide) (hts _ (List.mem_cons_of_mem _ k_41)) (fun _ h9 => h9) rfl d_Lo_sumUpRow_124 ?_
            refine lv_iload hx hb d_Lo_sumUpRow_127 (lv_at hl 1 rfl) ?_
            refine ka_iald (k := (((y * (side + 1)) + t) + 1)) (n := ((side + 1) * (side + 1))) (f := fun j => nI ((rowUp side y (fun i_ => floss side LO i_ y) F4 t) j)) (nI_t (by omega)) (by omega) hx hb hK hP 4 0 rfl rfl d_Lo_sumUpRow_129 ?_
            refine lv_iload_n hx hb d_Lo_sumUpRow_130 rfl (lv_at hl 2 rfl) ?_
            refine lv_iadd hx hb d_Lo_sumUpRow_131 ?_
            refine ka_i (y := nI (((rowUp side y (fun i_ => floss side LO i_ y) F4 t) (((y * (side + 1)) + t) + 1)) + (sN (fun i_ => floss side LO i_ y) (t + 1)))) (nI_add _ _) ?_
            refine ka_iastN (F := (rowUp side y (fun i_ => floss side LO i_ y) F4 t)) (v := (((rowUp side y (fun i_ => floss side LO i_ y) F4 t) (((y * (side + 1)) + t) + 1)) + (sN (fun i_ => floss side LO i_ y) (t + 1)))) (k := (((((y * (side + 1)) + t) + 1) + side) + 1)) (n := ((side + 1) * (side + 1))) (nI_t (by omega)) (by omega) hx hb hK hP hD hS 4 0 rfl rfl d_Lo_sumUpRow_132 (fun H locs hP hD hS => ?_)
            have hP : va_P D vwCl [(h0, .inr (3, [.int (nI side), .ref a1, .ref a2, .ref a3, .ref a4, .int (pI sm)])), (a1, .inl (cZ, ((2 * side) * side), .inl (fun j => pI (IN j)))), (a2, .inl (cI, (side * side), .inl (fun j => nI (LO j)))), (a3, .inl (cI, ((side + 1) * (side + 1)), .inl (fun j => nI ((va_up (rowUp side y (fun i_ => fbare side IN i_ y) F3 t) (((((y * (side + 1)) + t) + 1) + side) + 1) (((rowUp side y (fun i_ => fbare side IN i_ y) F3 t) (((y * (side + 1)) + t) + 1)) + (sN (fun i_ => fbare side IN i_ y) (t + 1)))) j)))), (a4, .inl (cI, ((side + 1) * (side + 1)), .inl (fun j => nI ((va_up (rowUp side y (fun i_ => floss side LO i_ y) F4 t) (((((y * (side + 1)) + t) + 1) + side) + 1) (((rowUp side y (fun i_ => floss side LO i_ y) F4 t) (((y * (side + 1)) + t) + 1)) + (sN (fun i_ => floss side LO i_ y) (t + 1)))) j))))] H := hP
            have hD : va_D A [(h0, .inr (3, [.int (nI side), .ref a1, .ref a2, .ref a3, .ref a4, .int (pI sm)])), (a1, .inl (cZ, ((2 * side) * side), .inl (fun j => pI (IN j)))), (a2, .inl (cI, (side * side), .inl (fun j => nI (LO j)))), (a3, .inl (cI, ((side + 1) * (side + 1)), .inl (fun j => nI ((va_up (rowUp side y (fun i_ => fbare side IN i_ y) F3 t) (((((y * (side + 1)) + t) + 1) + side) + 1) (((rowUp side y (fun i_ => fbare side IN i_ y) F3 t) (((y * (side + 1)) + t) + 1)) + (sN (fun i_ => fbare side IN i_ y) (t + 1)))) j)))), (a4, .inl (cI, ((side + 1) * (side + 1)), .inl (fun j => nI ((va_up (rowUp side y (fun i_ => floss side LO i_ y) F4 t) (((((y * (side + 1)) + t) + 1) + side) + 1) (((rowUp side y (fun i_ => floss side LO i_ y) F4 t) (((y * (side + 1)) + t) + 1)) + (sN (fun i_ => floss side LO i_ y) (t + 1)))) j))))] := hD
            refine lv_iinc (v := nI (t + 1)) (lv' := [(4, .int (nI (t + 1))), (7, .int (nI (((((y * (side + 1)) + t) + 1) + side) + 1))), (6, .int (nI (((y * (side + 1)) + t) + 1))), (3, .int (nI (sN (fun i_ => floss side LO i_ y) (t + 1)))), (2, .int (nI (sN (fun i_ => fbare side IN i_ y) (t + 1)))), (5, .int (nI ((y * side) + t))), (0, .ref h0), (1, .int (nI y))]) hx hb d_Lo_sumUpRow_133 hl (k := 5) rfl (nI_add _ 1) (by decide) rfl (fun ls hl => ?_)
            refine lv_goto (tgt := 7) hx hb d_Lo_sumUpRow_136 (by decide) ?_
            exact ih (t + 1) (by omega) _ _ hP hD hS ls (lv_sub hl [0, 3, 4, 6, 7] rfl)
          · refine lv_iconst (v := nI 0) hx hb d_Lo_sumUpRow_58 (by decide +kernel) ?_
            refine lv_goto (tgt := 63) hx hb d_Lo_sumUpRow_59 (by decide) ?_
            refine lv_iadd hx hb d_Lo_sumUpRow_63 ?_
            refine ka_i (y := nI ((sN (fun i_ => fbare side IN i_ y) t) + 0)) (nI_add _ _) ?_
            refine ka_i (y := nI (sN (fun i_ => fbare side IN i_ y) (t + 1))) (congrArg nI (by
              show _ = sN (fun i_ => fbare side IN i_ y) t + bareN (IN (y * side + t) ∧ IN (side * side + (y * side + t)))
              rw [bareN_t ⟨w1, w2⟩])) ?_
            refine lv_istore_n (lv' := [(2, .int (nI (sN (fun i_ => fbare side IN i_ y) (t + 1)))), (5, .int (nI ((y * side) + t))), (4, .int (nI t)), (3, .int (nI (sN (fun i_ => floss side LO i_ y) t))), (0, .ref h0), (1, .int (nI y))]) hx hb d_Lo_sumUpRow_64 rfl hl (by decide) rfl (fun ls hl => ?_)
            refine lv_iload_n hx hb d_Lo_sumUpRow_65 rfl (lv_at hl 3 rfl) ?_
            refine lv_aload_n hx hb d_Lo_sumUpRow_66 rfl (lv_at hl 4 rfl) ?_
            refine va_get (D := D) (ci := 3) (v := .ref a2) (C := R_Lo) (T := T_Lo) (N := 6) hx hb hts (fun w h => List.mem_cons_of_mem _ (iw_Lo w h)) hown hK hP 0 rfl rfl 2 (by decide) (hts _ (List.mem_cons_of_mem _ k_38)) (fun _ h9 => h9) rfl d_Lo_sumUpRow_67 ?_
            refine lv_iload hx hb d_Lo_sumUpRow_70 (lv_at hl 1 rfl) ?_
            refine ka_iald (k := ((y * side) + t)) (n := (side * side)) (f := fun j => nI (LO j)) (nI_t (by omega)) (by omega) hx hb hK hP 2 0 rfl rfl d_Lo_sumUpRow_72 ?_
            refine lv_iadd hx hb d_Lo_sumUpRow_73 ?_
            refine ka_i (y := nI ((sN (fun i_ => floss side LO i_ y) t) + (LO ((y * side) + t)))) (nI_add _ _) ?_
            refine ka_i (y := nI (sN (fun i_ => floss side LO i_ y) (t + 1))) (rfl) ?_
            refine lv_istore_n (lv' := [(3, .int (nI (sN (fun i_ => floss side LO i_ y) (t + 1)))), (2, .int (nI (sN (fun i_ => fbare side IN i_ y) (t + 1)))), (5, .int (nI ((y * side) + t))), (4, .int (nI t)), (0, .ref h0), (1, .int (nI y))]) hx hb d_Lo_sumUpRow_74 rfl hl (by decide) rfl (fun ls hl => ?_)
            refine lv_iload_n hx hb d_Lo_sumUpRow_75 rfl (lv_at hl 5 rfl) ?_
            refine lv_aload_n hx hb d_Lo_sumUpRow_76 rfl (lv_at hl 4 rfl) ?_
            refine va_get (D := D) (ci := 3) (v := .int (nI side)) (C := R_Lo) (T := T_Lo) (N := 6) hx hb hts (fun w h => List.mem_cons_of_mem _ (iw_Lo w h)) hown hK hP 0 rfl rfl 0 (by decide) (hts _ (List.mem_cons_of_mem _ k_35)) (fun _ h9 => h9) rfl d_Lo_sumUpRow_77 ?_
            refine lv_iconst (v := nI 1) hx hb d_Lo_sumUpRow_80 (by decide +kernel) ?_
            refine lv_iadd hx hb d_Lo_sumUpRow_81 ?_
            refine ka_i (y := nI (side + 1)) (nI_add _ _) ?_
            refine lv_imul hx hb d_Lo_sumUpRow_82 ?_
            refine ka_i (y := nI (y * (side + 1))) (pk_mul _ _) ?_
            refine lv_iload hx hb d_Lo_sumUpRow_83 (lv_at hl 3 rfl) ?_
            refine lv_iadd hx hb d_Lo_sumUpRow_85 ?_
            refine ka_i (y := nI ((y * (side + 1)) + t)) (nI_add _ _) ?_
            refine lv_iconst (v := nI 1) hx hb d_Lo_sumUpRow_86 (by decide +kernel) ?_
            refine lv_iadd hx hb d_Lo_sumUpRow_87 ?_
            refine ka_i (y := nI (((y * (side + 1)) + t) + 1)) (nI_add _ _) ?_
            refine lv_istore (lv' := [(6, .int (nI (((y * (side + 1)) + t) + 1))), (3, .int (nI (sN (fun i_ => floss side LO i_ y) (t + 1)))), (2, .int (nI (sN (fun i_ => fbare side IN i_ y) (t + 1)))), (5, .int (nI ((y * side) + t))), (4, .int (nI t)), (0, .ref h0), (1, .int (nI y))]) hx hb d_Lo_sumUpRow_88 hl (by decide) rfl (fun ls hl => ?_)
            refine lv_iload hx hb d_Lo_sumUpRow_90 (lv_at hl 0 rfl) ?_
            refine lv_aload_n hx hb d_Lo_sumUpRow_92 rfl (lv_at hl 5 rfl) ?_
            refine va_get (D := D) (ci := 3) (v := .int (nI side)) (C := R_Lo) (T := T_Lo) (N := 6) hx hb hts (fun w h => List.mem_cons_of_mem _ (iw_Lo w h)) hown hK hP 0 rfl rfl 0 (by decide) (hts _ (List.mem_cons_of_mem _ k_35)) (fun _ h9 => h9) rfl d_Lo_sumUpRow_93 ?_
            refine lv_iadd hx hb d_Lo_sumUpRow_96 ?_
            refine ka_i (y := nI ((((y * (side + 1)) + t) + 1) + side)) (nI_add _ _) ?_
            refine lv_iconst (v := nI 1) hx hb d_Lo_sumUpRow_97 (by decide +kernel) ?_
            refine lv_iadd hx hb d_Lo_sumUpRow_98 ?_
            refine ka_i (y := nI (((((y * (side + 1)) + t) + 1) + side) + 1)) (nI_add _ _) ?_
            refine lv_istore (lv' := [(7, .int (nI (((((y * (side + 1)) + t) + 1) + side) + 1))), (6, .int (nI (((y * (side + 1)) + t) + 1))), (3, .int (nI (sN (fun i_ => floss side LO i_ y) (t + 1)))), (2, .int (nI (sN (fun i_ => fbare side IN i_ y) (t + 1)))), (5, .int (nI ((y * side) + t))), (4, .int (nI t)), (0, .ref h0), (1, .int (nI y))]) hx hb d_Lo_sumUpRow_99 hl (by decide) rfl (fun ls hl => ?_)
            refine lv_aload_n hx hb d_Lo_sumUpRow_101 rfl (lv_at hl 6 rfl) ?_
            refine va_get (D := D) (ci := 3) (v := .ref a3) (C := R_Lo) (T := T_Lo) (N := 6) hx hb hts (fun w h => List.mem_cons_of_mem _ (iw_Lo w h)) hown hK hP 0 rfl rfl 3 (by decide) (hts _ (List.mem_cons_of_mem _ k_39)) (fun _ h9 => h9) rfl d_Lo_sumUpRow_102 ?_
            refine lv_iload hx hb d_Lo_sumUpRow_105 (lv_at hl 0 rfl) ?_
            refine lv_aload_n hx hb d_Lo_sumUpRow_107 rfl (lv_at hl 6 rfl) ?_
            refine va_get (D := D) (ci := 3) (v := .ref a3) (C := R_Lo) (T := T_Lo) (N := 6) hx hb hts (fun w h => List.mem_cons_of_mem _ (iw_Lo w h)) hown hK hP 0 rfl rfl 3 (by decide) (hts _ (List.mem_cons_of_mem _ k_39)) (fun _ h9 => h9) rfl d_Lo_sumUpRow_108 ?_
            refine lv_iload hx hb d_Lo_sumUpRow_111 (lv_at hl 1 rfl) ?_
            refine ka_iald (k := (((y * (side + 1)) + t) + 1)) (n := ((side + 1) * (side + 1))) (f := fun j => nI ((rowUp side y (fun i_ => fbare side IN i_ y) F3 t) j)) (nI_t (by omega)) (by omega) hx hb hK hP 3 0 rfl rfl d_Lo_sumUpRow_113 ?_
            refine lv_iload_n hx hb d_Lo_sumUpRow_114 rfl (lv_at hl 3 rfl) ?_
            refine lv_iadd hx hb d_Lo_sumUpRow_115 ?_
            refine ka_i (y := nI (((rowUp side y (fun i_ => fbare side IN i_ y) F3 t) (((y * (side + 1)) + t) + 1)) + (sN (fun i_ => fbare side IN i_ y) (t + 1)))) (nI_add _ _) ?_
            refine ka_iastN (F := (rowUp side y (fun i_ => fbare side IN i_ y) F3 t)) (v := (((rowUp side y (fun i_ => fbare side IN i_ y) F3 t) (((y * (side + 1)) + t) + 1)) + (sN (fun i_ => fbare side IN i_ y) (t + 1)))) (k := (((((y * (side + 1)) + t) + 1) + side) + 1)) (n := ((side + 1) * (side + 1))) (nI_t (by omega)) (by omega) hx hb hK hP hD hS 3 0 rfl rfl d_Lo_sumUpRow_116 (fun H locs hP hD hS => ?_)
            have hP : va_P D vwCl [(h0, .inr (3, [.int (nI side), .ref a1, .ref a2, .ref a3, .ref a4, .int (pI sm)])), (a1, .inl (cZ, ((2 * side) * side), .inl (fun j => pI (IN j)))), (a2, .inl (cI, (side * side), .inl (fun j => nI (LO j)))), (a3, .inl (cI, ((side + 1) * (side + 1)), .inl (fun j => nI ((va_up (rowUp side y (fun i_ => fbare side IN i_ y) F3 t) (((((y * (side + 1)) + t) + 1) + side) + 1) (((rowUp side y (fun i_ => fbare side IN i_ y) F3 t) (((y * (side + 1)) + t) + 1)) + (sN (fun i_ => fbare side IN i_ y) (t + 1)))) j)))), (a4, .inl (cI, ((side + 1) * (side + 1)), .inl (fun j => nI ((rowUp side y (fun i_ => floss side LO i_ y) F4 t) j))))] H := hP
            have hD : va_D A [(h0, .inr (3, [.int (nI side), .ref a1, .ref a2, .ref a3, .ref a4, .int (pI sm)])), (a1, .inl (cZ, ((2 * side) * side), .inl (fun j => pI (IN j)))), (a2, .inl (cI, (side * side), .inl (fun j => nI (LO j)))), (a3, .inl (cI, ((side + 1) * (side + 1)), .inl (fun j => nI ((va_up (rowUp side y (fun i_ => fbare side IN i_ y) F3 t) (((((y * (side + 1)) + t) + 1) + side) + 1) (((rowUp side y (fun i_ => fbare side IN i_ y) F3 t) (((y * (side + 1)) + t) + 1)) + (sN (fun i_ => fbare side IN i_ y) (t + 1)))) j)))), (a4, .inl (cI, ((side + 1) * (side + 1)), .inl (fun j => nI ((rowUp side y (fun i_ => floss side LO i_ y) F4 t) j))))] := hD
            refine lv_aload_n hx hb d_Lo_sumUpRow_117 rfl (lv_at hl 6 rfl) ?_
            refine va_get (D := D) (ci := 3) (v := .ref a4) (C := R_Lo) (T := T_Lo) (N := 6) hx hb hts (fun w h => List.mem_cons_of_mem _ (iw_Lo w h)) hown hK hP 0 rfl rfl 4 (by decide) (hts _ (List.mem_cons_of_mem _ k_41)) (fun _ h9 => h9) rfl d_Lo_sumUpRow_118 ?_
            refine lv_iload hx hb d_Lo_sumUpRow_121 (lv_at hl 0 rfl) ?_
            refine lv_aload_n hx hb d_Lo_sumUpRow_123 rfl (lv_at hl 6 rfl) ?_
            refine va_get (D := D) (ci := 3) (v := .ref a4) (C := R_Lo) (T := T_Lo) (N := 6) hx hb hts (fun w h => List.mem_cons_of_mem _ (iw_Lo w h)) hown hK hP 0 rfl rfl 4 (by decide) (hts _ (List.mem_cons_of_mem _ k_41)) (fun _ h9 => h9) rfl d_Lo_sumUpRow_124 ?_
            refine lv_iload hx hb d_Lo_sumUpRow_127 (lv_at hl 1 rfl) ?_
            refine ka_iald (k := (((y * (side + 1)) + t) + 1)) (n := ((side + 1) * (side + 1))) (f := fun j => nI ((rowUp side y (fun i_ => floss side LO i_ y) F4 t) j)) (nI_t (by omega)) (by omega) hx hb hK hP 4 0 rfl rfl d_Lo_sumUpRow_129 ?_
            refine lv_iload_n hx hb d_Lo_sumUpRow_130 rfl (lv_at hl 2 rfl) ?_
            refine lv_iadd hx hb d_Lo_sumUpRow_131 ?_
            refine ka_i (y := nI (((rowUp side y (fun i_ => floss side LO i_ y) F4 t) (((y * (side + 1)) + t) + 1)) + (sN (fun i_ => floss side LO i_ y) (t + 1)))) (nI_add _ _) ?_
            refine ka_iastN (F := (rowUp side y (fun i_ => floss side LO i_ y) F4 t)) (v := (((rowUp side y (fun i_ => floss side LO i_ y) F4 t) (((y * (side + 1)) + t) + 1)) + (sN (fun i_ => floss side LO i_ y) (t + 1)))) (k := (((((y * (side + 1)) + t) + 1) + side) + 1)) (n := ((side + 1) * (side + 1))) (nI_t (by omega)) (by omega) hx hb hK hP hD hS 4 0 rfl rfl d_Lo_sumUpRow_132 (fun H locs hP hD hS => ?_)
            have hP : va_P D vwCl [(h0, .inr (3, [.int (nI side), .ref a1, .ref a2, .ref a3, .ref a4, .int (pI sm)])), (a1, .inl (cZ, ((2 * side) * side), .inl (fun j => pI (IN j)))), (a2, .inl (cI, (side * side), .inl (fun j => nI (LO j)))), (a3, .inl (cI, ((side + 1) * (side + 1)), .inl (fun j => nI ((va_up (rowUp side y (fun i_ => fbare side IN i_ y) F3 t) (((((y * (side + 1)) + t) + 1) + side) + 1) (((rowUp side y (fun i_ => fbare side IN i_ y) F3 t) (((y * (side + 1)) + t) + 1)) + (sN (fun i_ => fbare side IN i_ y) (t + 1)))) j)))), (a4, .inl (cI, ((side + 1) * (side + 1)), .inl (fun j => nI ((va_up (rowUp side y (fun i_ => floss side LO i_ y) F4 t) (((((y * (side + 1)) + t) + 1) + side) + 1) (((rowUp side y (fun i_ => floss side LO i_ y) F4 t) (((y * (side + 1)) + t) + 1)) + (sN (fun i_ => floss side LO i_ y) (t + 1)))) j))))] H := hP
            have hD : va_D A [(h0, .inr (3, [.int (nI side), .ref a1, .ref a2, .ref a3, .ref a4, .int (pI sm)])), (a1, .inl (cZ, ((2 * side) * side), .inl (fun j => pI (IN j)))), (a2, .inl (cI, (side * side), .inl (fun j => nI (LO j)))), (a3, .inl (cI, ((side + 1) * (side + 1)), .inl (fun j => nI ((va_up (rowUp side y (fun i_ => fbare side IN i_ y) F3 t) (((((y * (side + 1)) + t) + 1) + side) + 1) (((rowUp side y (fun i_ => fbare side IN i_ y) F3 t) (((y * (side + 1)) + t) + 1)) + (sN (fun i_ => fbare side IN i_ y) (t + 1)))) j)))), (a4, .inl (cI, ((side + 1) * (side + 1)), .inl (fun j => nI ((va_up (rowUp side y (fun i_ => floss side LO i_ y) F4 t) (((((y * (side + 1)) + t) + 1) + side) + 1) (((rowUp side y (fun i_ => floss side LO i_ y) F4 t) (((y * (side + 1)) + t) + 1)) + (sN (fun i_ => floss side LO i_ y) (t + 1)))) j))))] := hD
            refine lv_iinc (v := nI (t + 1)) (lv' := [(4, .int (nI (t + 1))), (7, .int (nI (((((y * (side + 1)) + t) + 1) + side) + 1))), (6, .int (nI (((y * (side + 1)) + t) + 1))), (3, .int (nI (sN (fun i_ => floss side LO i_ y) (t + 1)))), (2, .int (nI (sN (fun i_ => fbare side IN i_ y) (t + 1)))), (5, .int (nI ((y * side) + t))), (0, .ref h0), (1, .int (nI y))]) hx hb d_Lo_sumUpRow_133 hl (k := 5) rfl (nI_add _ 1) (by decide) rfl (fun ls hl => ?_)
            refine lv_goto (tgt := 7) hx hb d_Lo_sumUpRow_136 (by decide) ?_
            exact ih (t + 1) (by omega) _ _ hP hD hS ls (lv_sub hl [0, 3, 4, 6, 7] rfl)
  exact lp side 0 (by omega) _ _ hP hD hS ls (lv_sub hl [0, 1, 2, 3, 4] rfl)
set_option maxHeartbeats 4000000 in
set_option maxRecDepth 100000 in
theorem c_sumUp (l : Launch) (D : va_G) (cI cJ cZ : ClassId) (sz : Nat) (h0 : Nat) (side : Nat) (a1 : Nat) (a2 : Nat) (a3 : Nat) (a4 : Nat) (sm : Prop) (IN : Nat → Prop) (LO : Nat → Nat) (F3 : Nat → Nat) (F4 : Nat → Nat) (s2 : side ≤ 20) (e3 : (∀ X, X ≤ side → F3 X = 0) ∧ ∀ Y, Y ≤ side → F3 (Y * (side + 1)) = 0) (e4 : (∀ X, X ≤ side → F4 X = 0) ∧ ∀ Y, Y ≤ side → F4 (Y * (side + 1)) = 0) (m3 : sm → ∀ X Y, X ≤ side → Y ≤ side → F3 (Y * (side + 1) + X) = psm (fbare side IN) X Y) (m4 : sm → ∀ X Y, X ≤ side → Y ≤ side → F4 (Y * (side + 1) + X) = psm (floss side LO) X Y) : Met l y_Lo_sumUp w_Lo_sumUp ({ frames := 1, cells := 0, slots := 0, locals := 27 }) (va_Pc [.ref h0] (kB D vwCl (tyL cI cJ cZ) sz [(h0, .inr (3, [.int (nI side), .ref a1, .ref a2, .ref a3, .ref a4, .int (pI sm)])), (a1, .inl (cZ, ((2 * side) * side), .inl (fun j => pI (IN j)))), (a2, .inl (cI, (side * side), .inl (fun j => nI (LO j)))), (a3, .inl (cI, ((side + 1) * (side + 1)), .inl (fun j => nI (F3 j)))), (a4, .inl (cI, ((side + 1) * (side + 1)), .inl (fun j => nI (F4 j))))])) (va_Qv (fun (u : (Nat → Nat) × (Nat → Nat)) => (∀ X Y, X ≤ side → Y ≤ side → u.1 (Y * (side + 1) + X) = psm (fbare side IN) X Y) ∧ ∀ X Y, X ≤ side → Y ≤ side → u.2 (Y * (side + 1) + X) = psm (floss side LO) X Y) (fun (u : (Nat → Nat) × (Nat → Nat)) t => kE D vwCl (va_A [(h0, .inr (3, [.int (nI side), .ref a1, .ref a2, .ref a3, .ref a4, .int (pI sm)])), (a1, .inl (cZ, ((2 * side) * side), .inl (fun j => pI (IN j)))), (a2, .inl (cI, (side * side), .inl (fun j => nI (LO j)))), (a3, .inl (cI, ((side + 1) * (side + 1)), .inl (fun j => nI (F3 j)))), (a4, .inl (cI, ((side + 1) * (side + 1)), .inl (fun j => nI (F4 j))))] sz) [(h0, .inr (3, [.int (nI side), .ref a1, .ref a2, .ref a3, .ref a4, .int (pI True)])), (a1, .inl (cZ, ((2 * side) * side), .inl (fun j => pI (IN j)))), (a2, .inl (cI, (side * side), .inl (fun j => nI (LO j)))), (a3, .inl (cI, ((side + 1) * (side + 1)), .inl (fun j => nI (u.1 j)))), (a4, .inl (cI, ((side + 1) * (side + 1)), .inl (fun j => nI (u.2 j))))] t) (va_A [(h0, .inr (3, [.int (nI side), .ref a1, .ref a2, .ref a3, .ref a4, .int (pI sm)])), (a1, .inl (cZ, ((2 * side) * side), .inl (fun j => pI (IN j)))), (a2, .inl (cI, (side * side), .inl (fun j => nI (LO j)))), (a3, .inl (cI, ((side + 1) * (side + 1)), .inl (fun j => nI (F3 j)))), (a4, .inl (cI, ((side + 1) * (side + 1)), .inl (fun j => nI (F4 j))))] sz)) 0 0 (va_A [(h0, .inr (3, [.int (nI side), .ref a1, .ref a2, .ref a3, .ref a4, .int (pI sm)])), (a1, .inl (cZ, ((2 * side) * side), .inl (fun j => pI (IN j)))), (a2, .inl (cI, (side * side), .inl (fun j => nI (LO j)))), (a3, .inl (cI, ((side + 1) * (side + 1)), .inl (fun j => nI (F3 j)))), (a4, .inl (cI, ((side + 1) * (side + 1)), .inl (fun j => nI (F4 j))))] sz) := by
  refine Met.ofW (cc := b_Lo_sumUp) (maxL := 2) (ret := none) (by decide) rfl ?_
  intro p e s m args below meth c s₁ B hml hv
  obtain ⟨rfl, hsz, hP, hK, hD0, hZ⟩ := hv
  have hx := B.exec
  have hb := B.bytes
  have hr := B.returns
  have hts := atoms_spec (ws := w_Lo_sumUp) B.pre
  have hown : s.vm.findClass R_Lo = some m.cls := findClass_of_methodNamed B.named
  have hlocks := B.notSynchronized
  subst hsz
  have hD := hD0.self (sz := s.heap.size)
  generalize hAe : va_A [(h0, .inr (3, [.int (nI side), .ref a1, .ref a2, .ref a3, .ref a4, .int (pI sm)])), (a1, .inl (cZ, ((2 * side) * side), .inl (fun j => pI (IN j)))), (a2, .inl (cI, (side * side), .inl (fun j => nI (LO j)))), (a3, .inl (cI, ((side + 1) * (side + 1)), .inl (fun j => nI (F3 j)))), (a4, .inl (cI, ((side + 1) * (side + 1)), .inl (fun j => nI (F4 j))))] s.heap.size = A at hD ⊢
  have hA : ∀ q : Nat, s.heap.size ≤ q → A q := fun q h => by rw [← hAe]; exact Or.inr h
  have hS : va_S A s.heap s.heap [] := va_S.rf
  have hP : va_P D vwCl [(h0, .inr (3, [.int (nI side), .ref a1, .ref a2, .ref a3, .ref a4, .int (pI sm)])), (a1, .inl (cZ, ((2 * side) * side), .inl (fun j => pI (IN j)))), (a2, .inl (cI, (side * side), .inl (fun j => nI (LO j)))), (a3, .inl (cI, ((side + 1) * (side + 1)), .inl (fun j => nI (F3 j)))), (a4, .inl (cI, ((side + 1) * (side + 1)), .inl (fun j => nI (F4 j))))] s.heap := hP
  have hl := lv_entry ([.ref h0]) (n := 2) (Nat.le_of_ble_eq_true rfl)
  rw [lg_entry_eq]
  generalize (lg_sl ([.ref h0]) ++ List.replicate (2 - (lg_sl ([.ref h0])).length) Slot.unset).toArray = ls at hl ⊢
  have hl : lv_has ls 2 [(0, .ref h0)] := hl
  refine lv_aload_n hx hb d_Lo_sumUp_0 rfl (lv_at hl 0 rfl) ?_
  refine va_get (D := D) (ci := 3) (v := .int (pI sm)) (C := R_Lo) (T := T_Lo) (N := 6) hx hb hts (fun w h => List.mem_cons_of_mem _ (iw_Lo w h)) hown hK hP 0 rfl rfl 5 (by decide) (hts _ (List.mem_cons_of_mem _ k_43)) (fun _ h9 => h9) rfl d_Lo_sumUp_1 ?_
  refine kb_eqP (tgt := 8) hx hb d_Lo_sumUp_4 (by decide) (fun hs => ?_) (fun hs => ?_)
  · refine lv_iconst (v := nI 0) hx hb d_Lo_sumUp_8 (by decide +kernel) ?_
    refine lv_istore_n (lv' := [(1, .int (nI 0)), (0, .ref h0)]) hx hb d_Lo_sumUp_9 rfl hl (by decide) rfl (fun ls hl => ?_)
    have lp : ∀ (n : Nat) (y : Nat), (y + n = side) → ∀ (H : Heap) (locs : List Loc), va_P D vwCl [(h0, .inr (3, [.int (nI side), .ref a1, .ref a2, .ref a3, .ref a4, .int (pI sm)])), (a1, .inl (cZ, ((2 * side) * side), .inl (fun j => pI (IN j)))), (a2, .inl (cI, (side * side), .inl (fun j => nI (LO j)))), (a3, .inl (cI, ((side + 1) * (side + 1)), .inl (fun j => nI ((allUp side (fbare side IN) F3 y) j)))), (a4, .inl (cI, ((side + 1) * (side + 1)), .inl (fun j => nI ((allUp side (floss side LO) F4 y) j))))] H → va_D A [(h0, .inr (3, [.int (nI side), .ref a1, .ref a2, .ref a3, .ref a4, .int (pI sm)])), (a1, .inl (cZ, ((2 * side) * side), .inl (fun j => pI (IN j)))), (a2, .inl (cI, (side * side), .inl (fun j => nI (LO j)))), (a3, .inl (cI, ((side + 1) * (side + 1)), .inl (fun j => nI ((allUp side (fbare side IN) F3 y) j)))), (a4, .inl (cI, ((side + 1) * (side + 1)), .inl (fun j => nI ((allUp side (floss side LO) F4 y) j))))] → va_S A s.heap H locs → ∀ ls : Array Slot, lv_has ls 2 [(1, .int (nI y)), (0, .ref h0)] → W p l e (headSpec w_Lo_sumUp ({ frames := 1, cells := 0, slots := 0, locals := 27 })).room s m ([.ref h0]).toArray below meth c H locs 0 0 (MQ below (va_Qv (fun (u : (Nat → Nat) × (Nat → Nat)) => (∀ X Y, X ≤ side → Y ≤ side → u.1 (Y * (side + 1) + X) = psm (fbare side IN) X Y) ∧ ∀ X Y, X ≤ side → Y ≤ side → u.2 (Y * (side + 1) + X) = psm (floss side LO) X Y) (fun (u : (Nat → Nat) × (Nat → Nat)) t => kE D vwCl A [(h0, .inr (3, [.int (nI side), .ref a1, .ref a2, .ref a3, .ref a4, .int (pI True)])), (a1, .inl (cZ, ((2 * side) * side), .inl (fun j => pI (IN j)))), (a2, .inl (cI, (side * side), .inl (fun j => nI (LO j)))), (a3, .inl (cI, ((side + 1) * (side + 1)), .inl (fun j => nI (u.1 j)))), (a4, .inl (cI, ((side + 1) * (side + 1)), .inl (fun j => nI (u.2 j))))] t) A) ([.ref h0]).toArray s 0 0 A) (F0 m 10 ls []) := by
      intro n
      induction n with
      | zero =>
        intro y hi H locs hP hD hS ls hl
        refine lv_iload_n hx hb d_Lo_sumUp_10 rfl (lv_at hl 0 rfl) ?_
        refine lv_aload_n hx hb d_Lo_sumUp_11 rfl (lv_at hl 1 rfl) ?_
        refine va_get (D := D) (ci := 3) (v := .int (nI side)) (C := R_Lo) (T := T_Lo) (N := 6) hx hb hts (fun w h => List.mem_cons_of_mem _ (iw_Lo w h)) hown hK hP 0 rfl rfl 0 (by decide) (hts _ (List.mem_cons_of_mem _ k_35)) (fun _ h9 => h9) rfl d_Lo_sumUp_12 ?_
        refine kb_cge (tgt := 29) (nI_t (by omega)) (nI_t (by omega)) hx hb d_Lo_sumUp_15 (by decide) (fun c_15 => ?_) (fun c_15 => ?_)
        · have ey : side = y := by omega
          subst ey
          refine lv_aload_n hx hb d_Lo_sumUp_29 rfl (lv_at hl 1 rfl) ?_
          refine lv_iconst (v := nI 1) hx hb d_Lo_sumUp_30 (by decide +kernel) ?_
          refine ka_i (y := pI True) (pI_1 trivial) ?_
          refine va_put (D := D) (ci := 3) (v := .int (pI True)) (ty := .boolean) (C := R_Lo) (T := T_Lo) (N := 6) hx hb hts (fun w h => List.mem_cons_of_mem _ (iw_Lo w h)) ty_Lo tyok_Lo nm_Lo hown hK hP hD hS 0 rfl rfl 5 (by decide) (hts _ (List.mem_cons_of_mem _ k_43)) (fun _ h9 => h9) rfl (by decide +kernel) (pI_narrow _) (pI_fits _) (Nat.le_of_ble_eq_true rfl) d_Lo_sumUp_31 (fun H locs hP hD hS => ?_)
          have hP : va_P D vwCl [(h0, .inr (3, [.int (nI side), .ref a1, .ref a2, .ref a3, .ref a4, .int (pI True)])), (a1, .inl (cZ, ((2 * side) * side), .inl (fun j => pI (IN j)))), (a2, .inl (cI, (side * side), .inl (fun j => nI (LO j)))), (a3, .inl (cI, ((side + 1) * (side + 1)), .inl (fun j => nI ((allUp side (fbare side IN) F3 side) j)))), (a4, .inl (cI, ((side + 1) * (side + 1)), .inl (fun j => nI ((allUp side (floss side LO) F4 side) j))))] H := hP
          have hD : va_D A [(h0, .inr (3, [.int (nI side), .ref a1, .ref a2, .ref a3, .ref a4, .int (pI True)])), (a1, .inl (cZ, ((2 * side) * side), .inl (fun j => pI (IN j)))), (a2, .inl (cI, (side * side), .inl (fun j => nI (LO j)))), (a3, .inl (cI, ((side + 1) * (side + 1)), .inl (fun j => nI ((allUp side (fbare side IN) F3 side) j)))), (a4, .inl (cI, ((side + 1) * (side + 1)), .inl (fun j => nI ((allUp side (floss side LO) F4 side) j))))] := hD
          exact kretv (u := (allUp side (fbare side IN) F3 side, allUp side (floss side LO) F4 side)) hx hb hr hP hD hS hlocks rfl (⟨fun X Y hX hY => (allUp_at e3.1 e3.2 side (Nat.le_refl _) X Y hX).1 hY, fun X Y hX hY => (allUp_at e4.1 e4.2 side (Nat.le_refl _) X Y hX).1 hY⟩) d_Lo_sumUp_34
        · exfalso; omega
      | succ n ih =>
        intro y hi H locs hP hD hS ls hl
        refine lv_iload_n hx hb d_Lo_sumUp_10 rfl (lv_at hl 0 rfl) ?_
        refine lv_aload_n hx hb d_Lo_sumUp_11 rfl (lv_at hl 1 rfl) ?_
        refine va_get (D := D) (ci := 3) (v := .int (nI side)) (C := R_Lo) (T := T_Lo) (N := 6) hx hb hts (fun w h => List.mem_cons_of_mem _ (iw_Lo w h)) hown hK hP 0 rfl rfl 0 (by decide) (hts _ (List.mem_cons_of_mem _ k_35)) (fun _ h9 => h9) rfl d_Lo_sumUp_12 ?_
        refine kb_cge (tgt := 29) (nI_t (by omega)) (nI_t (by omega)) hx hb d_Lo_sumUp_15 (by decide) (fun c_15 => ?_) (fun c_15 => ?_)
        · exfalso; omega
        · refine lv_aload_n hx hb d_Lo_sumUp_18 rfl (lv_at hl 1 rfl) ?_
          refine lv_iload_n hx hb d_Lo_sumUp_19 rfl (lv_at hl 0 rfl) ?_
          refine kcallv (wc := [(h0, .inr (3, [.int (nI side), .ref a1, .ref a2, .ref a3, .ref a4, .int (pI sm)])), (a1, .inl (cZ, ((2 * side) * side), .inl (fun j => pI (IN j)))), (a2, .inl (cI, (side * side), .inl (fun j => nI (LO j)))), (a3, .inl (cI, ((side + 1) * (side + 1)), .inl (fun j => nI ((allUp side (fbare side IN) F3 y) j)))), (a4, .inl (cI, ((side + 1) * (side + 1)), .inl (fun j => nI ((allUp side (floss side LO) F4 y) j))))]) (wr := []) [0, 1, 2, 3, 4] [] (va_runV (As := [.int (nI y)]) (rest := []) ⟨hx, hb, hml, hown, hts⟩ (c_sumUpRow l D cI cJ cZ H.size h0 side a1 a2 a3 a4 sm IN LO (allUp side (fbare side IN) F3 y) (allUp side (floss side LO) F4 y) y (by omega) (by omega)) ⟨callB_of 1 hts (gd kc_Lo_sumUpRow) rfl rfl rfl (hts _ (List.mem_cons_of_mem _ k_3)) (hts _ (List.mem_cons_of_mem _ k_208)) (by decide +kernel) ⟨Nat.le_of_ble_eq_true rfl, Nat.le_of_ble_eq_true rfl⟩, hts _ (List.mem_cons_of_mem _ k_210), hts _ (List.mem_cons_of_mem _ ks_0)⟩ ⟨kB_blind, va_recv hK hP (ci := 3) (q0 := 0) rfl rfl, kB_at hP hD hK hZ [0, 1, 2, 3, 4] rfl (by decide) rfl⟩ rfl rfl hl.1 rfl (lv_room (Nat.le_of_ble_eq_true rfl)) d_Lo_sumUp_20 ⟨Nat.zero_le _, Nat.zero_le _⟩) hP hD hS hA rfl rfl (by decide) (by decide) (fun _ H locs hw_20 hP hD hS => ?_)
          have hP : va_P D vwCl [(h0, .inr (3, [.int (nI side), .ref a1, .ref a2, .ref a3, .ref a4, .int (pI sm)])), (a1, .inl (cZ, ((2 * side) * side), .inl (fun j => pI (IN j)))), (a2, .inl (cI, (side * side), .inl (fun j => nI (LO j)))), (a3, .inl (cI, ((side + 1) * (side + 1)), .inl (fun j => nI ((rowUp side y (fun i_ => fbare side IN i_ y) (allUp side (fbare side IN) F3 y) side) j)))), (a4, .inl (cI, ((side + 1) * (side + 1)), .inl (fun j => nI ((rowUp side y (fun i_ => floss side LO i_ y) (allUp side (floss side LO) F4 y) side) j))))] H := hP
          have hD : va_D A [(h0, .inr (3, [.int (nI side), .ref a1, .ref a2, .ref a3, .ref a4, .int (pI sm)])), (a1, .inl (cZ, ((2 * side) * side), .inl (fun j => pI (IN j)))), (a2, .inl (cI, (side * side), .inl (fun j => nI (LO j)))), (a3, .inl (cI, ((side + 1) * (side + 1)), .inl (fun j => nI ((rowUp side y (fun i_ => fbare side IN i_ y) (allUp side (fbare side IN) F3 y) side) j)))), (a4, .inl (cI, ((side + 1) * (side + 1)), .inl (fun j => nI ((rowUp side y (fun i_ => floss side LO i_ y) (allUp side (floss side LO) F4 y) side) j))))] := hD
          refine lv_iinc (v := nI (y + 1)) (lv' := [(1, .int (nI (y + 1))), (0, .ref h0)]) hx hb d_Lo_sumUp_23 hl (k := 0) rfl (nI_add _ 1) (by decide) rfl (fun ls hl => ?_)
          refine lv_goto (tgt := 10) hx hb d_Lo_sumUp_26 (by decide) ?_
          exact ih (y + 1) (by omega) _ _ hP hD hS ls (lv_sub hl [0, 1] rfl)
    exact lp side 0 (by omega) _ _ hP hD hS ls (lv_sub hl [0, 1] rfl)
  · have es : sm = True := propext ⟨fun _ => trivial, fun _ => hs⟩
    subst es
    exact kretv (u := (F3, F4)) hx hb hr hP hD hS hlocks rfl (⟨m3 trivial, m4 trivial⟩) d_Lo_sumUp_7
end
section
theorem d_Be_planColumn_0 : decode b_Be_planColumn 0 = .ok (.aload_n 0, 1) := by decide +kernel
theorem d_Be_planColumn_1 : decode b_Be_planColumn 1 = .ok (.getfield 37, 3) := by decide +kernel
theorem d_Be_planColumn_4 : decode b_Be_planColumn 4 = .ok (.iload_n 2, 1) := by decide +kernel
theorem d_Be_planColumn_5 : decode b_Be_planColumn 5 = .ok (.iconst 1, 1) := by decide +kernel
theorem d_Be_planColumn_6 : decode b_Be_planColumn 6 = .ok (.iadd, 1) := by decide +kernel
theorem d_Be_planColumn_7 : decode b_Be_planColumn 7 = .ok (.laload, 1) := by decide +kernel
theorem d_Be_planColumn_8 : decode b_Be_planColumn 8 = .ok (.lstore 4, 2) := by decide +kernel
theorem d_Be_planColumn_10 : decode b_Be_planColumn 10 = .ok (.iconst (-1), 1) := by decide +kernel
theorem d_Be_planColumn_11 : decode b_Be_planColumn 11 = .ok (.istore 6, 2) := by decide +kernel
theorem d_Be_planColumn_13 : decode b_Be_planColumn 13 = .ok (.iconst 0, 1) := by decide +kernel
theorem d_Be_planColumn_14 : decode b_Be_planColumn 14 = .ok (.istore 7, 2) := by decide +kernel
theorem d_Be_planColumn_16 : decode b_Be_planColumn 16 = .ok (.iload 7, 2) := by decide +kernel
theorem d_Be_planColumn_18 : decode b_Be_planColumn 18 = .ok (.aload_n 0, 1) := by decide +kernel
theorem d_Be_planColumn_19 : decode b_Be_planColumn 19 = .ok (.getfield 21, 3) := by decide +kernel
theorem d_Be_planColumn_22 : decode b_Be_planColumn 22 = .ok (.getfield 72, 3) := by decide +kernel
theorem d_Be_planColumn_25 : decode b_Be_planColumn 25 = .ok (.if_icmp .ge 148, 3) := by decide +kernel
theorem d_Be_planColumn_28 : decode b_Be_planColumn 28 = .ok (.aload_n 0, 1) := by decide +kernel
theorem d_Be_planColumn_29 : decode b_Be_planColumn 29 = .ok (.getfield 21, 3) := by decide +kernel
theorem d_Be_planColumn_32 : decode b_Be_planColumn 32 = .ok (.getfield 75, 3) := by decide +kernel
theorem d_Be_planColumn_35 : decode b_Be_planColumn 35 = .ok (.iload 7, 2) := by decide +kernel
theorem d_Be_planColumn_37 : decode b_Be_planColumn 37 = .ok (.iaload, 1) := by decide +kernel
theorem d_Be_planColumn_38 : decode b_Be_planColumn 38 = .ok (.iload_n 3, 1) := by decide +kernel
theorem d_Be_planColumn_39 : decode b_Be_planColumn 39 = .ok (.if_icmp .ne 128, 3) := by decide +kernel
theorem d_Be_planColumn_42 : decode b_Be_planColumn 42 = .ok (.aload_n 0, 1) := by decide +kernel
theorem d_Be_planColumn_43 : decode b_Be_planColumn 43 = .ok (.getfield 9, 3) := by decide +kernel
theorem d_Be_planColumn_46 : decode b_Be_planColumn 46 = .ok (.iload 7, 2) := by decide +kernel
theorem d_Be_planColumn_48 : decode b_Be_planColumn 48 = .ok (.aload_n 0, 1) := by decide +kernel
theorem d_Be_planColumn_49 : decode b_Be_planColumn 49 = .ok (.iload_n 1, 1) := by decide +kernel
theorem d_Be_planColumn_50 : decode b_Be_planColumn 50 = .ok (.iload_n 2, 1) := by decide +kernel
theorem d_Be_planColumn_51 : decode b_Be_planColumn 51 = .ok (.invokevirtual 78, 3) := by decide +kernel
theorem d_Be_planColumn_54 : decode b_Be_planColumn 54 = .ok (.aload_n 0, 1) := by decide +kernel
theorem d_Be_planColumn_55 : decode b_Be_planColumn 55 = .ok (.iload_n 1, 1) := by decide +kernel
theorem d_Be_planColumn_56 : decode b_Be_planColumn 56 = .ok (.iload_n 2, 1) := by decide +kernel
theorem d_Be_planColumn_57 : decode b_Be_planColumn 57 = .ok (.invokevirtual 81, 3) := by decide +kernel
theorem d_Be_planColumn_60 : decode b_Be_planColumn 60 = .ok (.aload_n 0, 1) := by decide +kernel
theorem d_Be_planColumn_61 : decode b_Be_planColumn 61 = .ok (.getfield 45, 3) := by decide +kernel
theorem d_Be_planColumn_64 : decode b_Be_planColumn 64 = .ok (.invokevirtual 84, 3) := by decide +kernel
theorem d_Be_planColumn_67 : decode b_Be_planColumn 67 = .ok (.ifCond .ne 6, 3) := by decide +kernel
theorem d_Be_planColumn_70 : decode b_Be_planColumn 70 = .ok (.goto 97, 3) := by decide +kernel
theorem d_Be_planColumn_73 : decode b_Be_planColumn 73 = .ok (.aload_n 0, 1) := by decide +kernel
theorem d_Be_planColumn_74 : decode b_Be_planColumn 74 = .ok (.getfield 9, 3) := by decide +kernel
theorem d_Be_planColumn_77 : decode b_Be_planColumn 77 = .ok (.iload 7, 2) := by decide +kernel
theorem d_Be_planColumn_79 : decode b_Be_planColumn 79 = .ok (.aload_n 0, 1) := by decide +kernel
theorem d_Be_planColumn_80 : decode b_Be_planColumn 80 = .ok (.iload_n 1, 1) := by decide +kernel
theorem d_Be_planColumn_81 : decode b_Be_planColumn 81 = .ok (.iload_n 2, 1) := by decide +kernel
theorem d_Be_planColumn_82 : decode b_Be_planColumn 82 = .ok (.invokevirtual 78, 3) := by decide +kernel
theorem d_Be_planColumn_85 : decode b_Be_planColumn 85 = .ok (.aload_n 0, 1) := by decide +kernel
theorem d_Be_planColumn_86 : decode b_Be_planColumn 86 = .ok (.iload_n 1, 1) := by decide +kernel
theorem d_Be_planColumn_87 : decode b_Be_planColumn 87 = .ok (.iload_n 2, 1) := by decide +kernel
theorem d_Be_planColumn_88 : decode b_Be_planColumn 88 = .ok (.invokevirtual 81, 3) := by decide +kernel
theorem d_Be_planColumn_91 : decode b_Be_planColumn 91 = .ok (.aload_n 0, 1) := by decide +kernel
theorem d_Be_planColumn_92 : decode b_Be_planColumn 92 = .ok (.getfield 45, 3) := by decide +kernel
theorem d_Be_planColumn_95 : decode b_Be_planColumn 95 = .ok (.invokevirtual 88, 3) := by decide +kernel
theorem d_Be_planColumn_98 : decode b_Be_planColumn 98 = .ok (.i2l, 1) := by decide +kernel
theorem d_Be_planColumn_99 : decode b_Be_planColumn 99 = .ok (.ldc2_w 43, 3) := by decide +kernel
theorem d_Be_planColumn_102 : decode b_Be_planColumn 102 = .ok (.lmul, 1) := by decide +kernel
theorem d_Be_planColumn_103 : decode b_Be_planColumn 103 = .ok (.lconst 1, 1) := by decide +kernel
theorem d_Be_planColumn_104 : decode b_Be_planColumn 104 = .ok (.lsub, 1) := by decide +kernel
theorem d_Be_planColumn_105 : decode b_Be_planColumn 105 = .ok (.aload_n 0, 1) := by decide +kernel
theorem d_Be_planColumn_106 : decode b_Be_planColumn 106 = .ok (.getfield 37, 3) := by decide +kernel
theorem d_Be_planColumn_109 : decode b_Be_planColumn 109 = .ok (.aload_n 0, 1) := by decide +kernel
theorem d_Be_planColumn_110 : decode b_Be_planColumn 110 = .ok (.getfield 22, 3) := by decide +kernel
theorem d_Be_planColumn_113 : decode b_Be_planColumn 113 = .ok (.iload_n 2, 1) := by decide +kernel
theorem d_Be_planColumn_114 : decode b_Be_planColumn 114 = .ok (.aload_n 0, 1) := by decide +kernel
theorem d_Be_planColumn_115 : decode b_Be_planColumn 115 = .ok (.getfield 21, 3) := by decide +kernel
theorem d_Be_planColumn_118 : decode b_Be_planColumn 118 = .ok (.getfield 92, 3) := by decide +kernel
theorem d_Be_planColumn_121 : decode b_Be_planColumn 121 = .ok (.iload 7, 2) := by decide +kernel
theorem d_Be_planColumn_123 : decode b_Be_planColumn 123 = .ok (.iaload, 1) := by decide +kernel
theorem d_Be_planColumn_124 : decode b_Be_planColumn 124 = .ok (.iadd, 1) := by decide +kernel
theorem d_Be_planColumn_125 : decode b_Be_planColumn 125 = .ok (.aload_n 0, 1) := by decide +kernel
theorem d_Be_planColumn_126 : decode b_Be_planColumn 126 = .ok (.getfield 26, 3) := by decide +kernel
theorem d_Be_planColumn_129 : decode b_Be_planColumn 129 = .ok (.iadd, 1) := by decide +kernel
theorem d_Be_planColumn_130 : decode b_Be_planColumn 130 = .ok (.invokestatic 62, 3) := by decide +kernel
theorem d_Be_planColumn_133 : decode b_Be_planColumn 133 = .ok (.laload, 1) := by decide +kernel
theorem d_Be_planColumn_134 : decode b_Be_planColumn 134 = .ok (.ladd, 1) := by decide +kernel
theorem d_Be_planColumn_135 : decode b_Be_planColumn 135 = .ok (.lstore 8, 2) := by decide +kernel
theorem d_Be_planColumn_137 : decode b_Be_planColumn 137 = .ok (.lload 8, 2) := by decide +kernel
theorem d_Be_planColumn_139 : decode b_Be_planColumn 139 = .ok (.lload 4, 2) := by decide +kernel
theorem d_Be_planColumn_141 : decode b_Be_planColumn 141 = .ok (.lcmp, 1) := by decide +kernel
theorem d_Be_planColumn_142 : decode b_Be_planColumn 142 = .ok (.ifCond .gt 17, 3) := by decide +kernel
theorem d_Be_planColumn_145 : decode b_Be_planColumn 145 = .ok (.lload 8, 2) := by decide +kernel
theorem d_Be_planColumn_147 : decode b_Be_planColumn 147 = .ok (.lload 4, 2) := by decide +kernel
theorem d_Be_planColumn_149 : decode b_Be_planColumn 149 = .ok (.lcmp, 1) := by decide +kernel
theorem d_Be_planColumn_150 : decode b_Be_planColumn 150 = .ok (.ifCond .ne 17, 3) := by decide +kernel
theorem d_Be_planColumn_153 : decode b_Be_planColumn 153 = .ok (.iload 6, 2) := by decide +kernel
theorem d_Be_planColumn_155 : decode b_Be_planColumn 155 = .ok (.iconst (-1), 1) := by decide +kernel
theorem d_Be_planColumn_156 : decode b_Be_planColumn 156 = .ok (.if_icmp .ne 11, 3) := by decide +kernel
theorem d_Be_planColumn_159 : decode b_Be_planColumn 159 = .ok (.lload 8, 2) := by decide +kernel
theorem d_Be_planColumn_161 : decode b_Be_planColumn 161 = .ok (.lstore 4, 2) := by decide +kernel
theorem d_Be_planColumn_163 : decode b_Be_planColumn 163 = .ok (.iload 7, 2) := by decide +kernel
theorem d_Be_planColumn_165 : decode b_Be_planColumn 165 = .ok (.istore 6, 2) := by decide +kernel
theorem d_Be_planColumn_167 : decode b_Be_planColumn 167 = .ok (.iinc 7 1, 3) := by decide +kernel
theorem d_Be_planColumn_170 : decode b_Be_planColumn 170 = .ok (.goto (-154), 3) := by decide +kernel
theorem d_Be_planColumn_173 : decode b_Be_planColumn 173 = .ok (.aload_n 0, 1) := by decide +kernel
theorem d_Be_planColumn_174 : decode b_Be_planColumn 174 = .ok (.getfield 37, 3) := by decide +kernel
theorem d_Be_planColumn_177 : decode b_Be_planColumn 177 = .ok (.iload_n 2, 1) := by decide +kernel
theorem d_Be_planColumn_178 : decode b_Be_planColumn 178 = .ok (.lload 4, 2) := by decide +kernel
theorem d_Be_planColumn_180 : decode b_Be_planColumn 180 = .ok (.lastore, 1) := by decide +kernel
theorem d_Be_planColumn_181 : decode b_Be_planColumn 181 = .ok (.aload_n 0, 1) := by decide +kernel
theorem d_Be_planColumn_182 : decode b_Be_planColumn 182 = .ok (.getfield 40, 3) := by decide +kernel
theorem d_Be_planColumn_185 : decode b_Be_planColumn 185 = .ok (.iload_n 2, 1) := by decide +kernel
theorem d_Be_planColumn_186 : decode b_Be_planColumn 186 = .ok (.iload 6, 2) := by decide +kernel
theorem d_Be_planColumn_188 : decode b_Be_planColumn 188 = .ok (.iastore, 1) := by decide +kernel
theorem d_Be_planColumn_189 : decode b_Be_planColumn 189 = .ok (.return_, 1) := by decide +kernel
set_option maxHeartbeats 4000000 in
set_option maxRecDepth 100000 in
theorem c_planColumn (l : Launch) (D : va_G) (cI cJ cZ : ClassId) (sz : Nat) (hb_ : Nat) (bo : Nat) (hz : Nat) (side : Nat) (kf : Nat) (tn : Nat) (r1 : Nat) (r2 : Nat) (r3 : Nat) (r4 : Nat) (h0 : Nat) (a1 : Nat) (a2 : Nat) (a3 : Nat) (a4 : Nat) (sm : Prop) (t1 : Nat) (t2 : Nat) (t3 : Nat) (t4 : Nat) (cn : Nat) (th : Nat → Nat) (wi : Nat → Nat) (wo : Nat → Nat) (wn : Nat → Nat) (F3 : Nat → Nat) (F4 : Nat → Nat) (fb : Nat → Nat → Nat) (fl : Nat → Nat → Nat) (RC : Nat → Int) (SC : Nat → Int) (row : Nat) (col : Nat) (thick : Nat) (s1 : 1 ≤ side) (s2 : side ≤ 20) (k4 : kf ≤ 4) (tn1 : tn ≤ 1) (n8 : cn ≤ 8) (ht : ∀ k, k < 8 → th k ≤ 20) (hw : ∀ k, k < 8 → wi k ≤ 20) (hw1 : ∀ k, k < cn → 1 ≤ wi k) (ho : ∀ k, k < 8 → wo k ≤ 100000) (hn : ∀ k, k < 8 → wn k ≤ 400) (m3 : ∀ X Y, X ≤ side → Y ≤ side → F3 (Y * (side + 1) + X) = psm fb X Y) (m4 : ∀ X Y, X ≤ side → Y ≤ side → F4 (Y * (side + 1) + X) = psm fl X Y) (hfb : ∀ i j, i < side → j < side → fb i j ≤ 10000) (hfl : ∀ i j, i < side → j < side → fl i j ≤ 10000) (hrow : row < side) (hcol : col < side) (hth : thick ≤ 20) (hR : ∀ j, col < j → j ≤ side → 0 ≤ RC j ∧ RC j ≤ 100001000 * ((side - j : Nat) : Int)) : Met l y_Be_planColumn w_Be_planColumn ({ frames := 2, cells := 0, slots := 0, locals := 52 }) (va_Pc [.ref hb_, .int (nI row), .int (nI col), .int (nI thick)] (kB D vwCl (tyL cI cJ cZ) sz [(hb_, .inr (1, [.ref bo, .ref hz, .int (nI side), .int (nI kf), .int (nI tn), .ref r1, .ref r2, .ref r3, .ref r4])), (bo, .inr (2, [.ref hz, .ref h0])), (h0, .inr (3, [.int (nI side), .ref a1, .ref a2, .ref a3, .ref a4, .int (pI sm)])), (hz, .inr (5, [.ref t1, .ref t2, .ref t3, .ref t4, .int (nI cn)])), (t1, .inl (cI, 8, .inl (fun j => nI (th j)))), (t2, .inl (cI, 8, .inl (fun j => nI (wi j)))), (t3, .inl (cI, 8, .inl (fun j => nI (wo j)))), (t4, .inl (cI, 8, .inl (fun j => nI (wn j)))), (a3, .inl (cI, ((side + 1) * (side + 1)), .inl (fun j => nI (F3 j)))), (a4, .inl (cI, ((side + 1) * (side + 1)), .inl (fun j => nI (F4 j)))), (r3, .inl (cJ, (side + 1), .inr (.inl (fun j => lI (RC j))))), (r4, .inl (cI, side, .inl (fun j => iI (SC j))))])) (va_Qv (fun (_ : Unit) => True) (fun (_ : Unit) t => kE D vwCl (va_A [(hb_, .inr (1, [.ref bo, .ref hz, .int (nI side), .int (nI kf), .int (nI tn), .ref r1, .ref r2, .ref r3, .ref r4])), (bo, .inr (2, [.ref hz, .ref h0])), (h0, .inr (3, [.int (nI side), .ref a1, .ref a2, .ref a3, .ref a4, .int (pI sm)])), (hz, .inr (5, [.ref t1, .ref t2, .ref t3, .ref t4, .int (nI cn)])), (t1, .inl (cI, 8, .inl (fun j => nI (th j)))), (t2, .inl (cI, 8, .inl (fun j => nI (wi j)))), (t3, .inl (cI, 8, .inl (fun j => nI (wo j)))), (t4, .inl (cI, 8, .inl (fun j => nI (wn j)))), (a3, .inl (cI, ((side + 1) * (side + 1)), .inl (fun j => nI (F3 j)))), (a4, .inl (cI, ((side + 1) * (side + 1)), .inl (fun j => nI (F4 j)))), (r3, .inl (cJ, (side + 1), .inr (.inl (fun j => lI (RC j))))), (r4, .inl (cI, side, .inl (fun j => iI (SC j))))] sz) [(hb_, .inr (1, [.ref bo, .ref hz, .int (nI side), .int (nI kf), .int (nI tn), .ref r1, .ref r2, .ref r3, .ref r4])), (bo, .inr (2, [.ref hz, .ref h0])), (h0, .inr (3, [.int (nI side), .ref a1, .ref a2, .ref a3, .ref a4, .int (pI sm)])), (hz, .inr (5, [.ref t1, .ref t2, .ref t3, .ref t4, .int (nI cn)])), (t1, .inl (cI, 8, .inl (fun j => nI (th j)))), (t2, .inl (cI, 8, .inl (fun j => nI (wi j)))), (t3, .inl (cI, 8, .inl (fun j => nI (wo j)))), (t4, .inl (cI, 8, .inl (fun j => nI (wn j)))), (a3, .inl (cI, ((side + 1) * (side + 1)), .inl (fun j => nI (F3 j)))), (a4, .inl (cI, ((side + 1) * (side + 1)), .inl (fun j => nI (F4 j)))), (r3, .inl (cJ, (side + 1), .inr (.inl (fun j => lI ((va_up RC col (colFold RC side kf col thick th wi (okC side fb th wi wn tn row col) (vaC side fl th wi wo tn row col) cn).1) j))))), (r4, .inl (cI, side, .inl (fun j => iI ((va_up SC col (colFold RC side kf col thick th wi (okC side fb th wi wn tn row col) (vaC side fl th wi wo tn row col) cn).2) j))))] t) (va_A [(hb_, .inr (1, [.ref bo, .ref hz, .int (nI side), .int (nI kf), .int (nI tn), .ref r1, .ref r2, .ref r3, .ref r4])), (bo, .inr (2, [.ref hz, .ref h0])), (h0, .inr (3, [.int (nI side), .ref a1, .ref a2, .ref a3, .ref a4, .int (pI sm)])), (hz, .inr (5, [.ref t1, .ref t2, .ref t3, .ref t4, .int (nI cn)])), (t1, .inl (cI, 8, .inl (fun j => nI (th j)))), (t2, .inl (cI, 8, .inl (fun j => nI (wi j)))), (t3, .inl (cI, 8, .inl (fun j => nI (wo j)))), (t4, .inl (cI, 8, .inl (fun j => nI (wn j)))), (a3, .inl (cI, ((side + 1) * (side + 1)), .inl (fun j => nI (F3 j)))), (a4, .inl (cI, ((side + 1) * (side + 1)), .inl (fun j => nI (F4 j)))), (r3, .inl (cJ, (side + 1), .inr (.inl (fun j => lI (RC j))))), (r4, .inl (cI, side, .inl (fun j => iI (SC j))))] sz)) 0 0 (va_A [(hb_, .inr (1, [.ref bo, .ref hz, .int (nI side), .int (nI kf), .int (nI tn), .ref r1, .ref r2, .ref r3, .ref r4])), (bo, .inr (2, [.ref hz, .ref h0])), (h0, .inr (3, [.int (nI side), .ref a1, .ref a2, .ref a3, .ref a4, .int (pI sm)])), (hz, .inr (5, [.ref t1, .ref t2, .ref t3, .ref t4, .int (nI cn)])), (t1, .inl (cI, 8, .inl (fun j => nI (th j)))), (t2, .inl (cI, 8, .inl (fun j => nI (wi j)))), (t3, .inl (cI, 8, .inl (fun j => nI (wo j)))), (t4, .inl (cI, 8, .inl (fun j => nI (wn j)))), (a3, .inl (cI, ((side + 1) * (side + 1)), .inl (fun j => nI (F3 j)))), (a4, .inl (cI, ((side + 1) * (side + 1)), .inl (fun j => nI (F4 j)))), (r3, .inl (cJ, (side + 1), .inr (.inl (fun j => lI (RC j))))), (r4, .inl (cI, side, .inl (fun j => iI (SC j))))] sz) := by
  refine Met.ofW (cc := b_Be_planColumn) (maxL := 10) (ret := none) (by decide) rfl ?_
  intro p e s m args below meth c s₁ B hml hv
  obtain ⟨rfl, hsz, hP, hK, hD0, hZ⟩ := hv
  have hx := B.exec
  have hb := B.bytes
  have hr := B.returns
  have hts := atoms_spec (ws := w_Be_planColumn) B.pre
  have hown : s.vm.findClass R_Be = some m.cls := findClass_of_methodNamed B.named
  have hlocks := B.notSynchronized
  subst hsz
  have hD := hD0.self (sz := s.heap.size)
  generalize hAe : va_A [(hb_, .inr (1, [.ref bo, .ref hz, .int (nI side), .int (nI kf), .int (nI tn), .ref r1, .ref r2, .ref r3, .ref r4])), (bo, .inr (2, [.ref hz, .ref h0])), (h0, .inr (3, [.int (nI side), .ref a1, .ref a2, .ref a3, .ref a4, .int (pI sm)])), (hz, .inr (5, [.ref t1, .ref t2, .ref t3, .ref t4, .int (nI cn)])), (t1, .inl (cI, 8, .inl (fun j => nI (th j)))), (t2, .inl (cI, 8, .inl (fun j => nI (wi j)))), (t3, .inl (cI, 8, .inl (fun j => nI (wo j)))), (t4, .inl (cI, 8, .inl (fun j => nI (wn j)))), (a3, .inl (cI, ((side + 1) * (side + 1)), .inl (fun j => nI (F3 j)))), (a4, .inl (cI, ((side + 1) * (side + 1)), .inl (fun j => nI (F4 j)))), (r3, .inl (cJ, (side + 1), .inr (.inl (fun j => lI (RC j))))), (r4, .inl (cI, side, .inl (fun j => iI (SC j))))] s.heap.size = A at hD ⊢
  have hA : ∀ q : Nat, s.heap.size ≤ q → A q := fun q h => by rw [← hAe]; exact Or.inr h
  have hS : va_S A s.heap s.heap [] := va_S.rf
  have hP : va_P D vwCl [(hb_, .inr (1, [.ref bo, .ref hz, .int (nI side), .int (nI kf), .int (nI tn), .ref r1, .ref r2, .ref r3, .ref r4])), (bo, .inr (2, [.ref hz, .ref h0])), (h0, .inr (3, [.int (nI side), .ref a1, .ref a2, .ref a3, .ref a4, .int (pI sm)])), (hz, .inr (5, [.ref t1, .ref t2, .ref t3, .ref t4, .int (nI cn)])), (t1, .inl (cI, 8, .inl (fun j => nI (th j)))), (t2, .inl (cI, 8, .inl (fun j => nI (wi j)))), (t3, .inl (cI, 8, .inl (fun j => nI (wo j)))), (t4, .inl (cI, 8, .inl (fun j => nI (wn j)))), (a3, .inl (cI, ((side + 1) * (side + 1)), .inl (fun j => nI (F3 j)))), (a4, .inl (cI, ((side + 1) * (side + 1)), .inl (fun j => nI (F4 j)))), (r3, .inl (cJ, (side + 1), .inr (.inl (fun j => lI (RC j))))), (r4, .inl (cI, side, .inl (fun j => iI (SC j))))] s.heap := hP
  have hl := lv_entry ([.ref hb_, .int (nI row), .int (nI col), .int (nI thick)]) (n := 10) (Nat.le_of_ble_eq_true rfl)
  rw [lg_entry_eq]
  generalize (lg_sl ([.ref hb_, .int (nI row), .int (nI col), .int (nI thick)]) ++ List.replicate (10 - (lg_sl ([.ref hb_, .int (nI row), .int (nI col), .int (nI thick)])).length) Slot.unset).toArray = ls at hl ⊢
  have hl : lv_has ls 10 [(0, .ref hb_), (1, .int (nI row)), (2, .int (nI col)), (3, .int (nI thick))] := hl
  have hB := fun k (hk : k ≤ cn) => colFold_bd (kf := kf) (thick := thick) (th := th) (ok := (okC side fb th wi wn tn row col)) (va := (vaC side fl th wi wo tn row col)) (wi := wi) hcol hR k (fun i hi => ⟨hw1 i (by omega), vaC_bd (ho i (by omega))⟩)
  have hrX := pX_le (tn := tn) (row := row) (col := col) (n := 20) (by omega) (by omega)
  have hrY := pY_le (tn := tn) (row := row) (col := col) (n := 20) (by omega) (by omega)
  refine lv_aload_n hx hb d_Be_planColumn_0 rfl (lv_at hl 0 rfl) ?_
  refine va_get (D := D) (ci := 1) (v := .ref r3) (C := R_Be) (T := T_Be) (N := 9) hx hb hts (fun w h => List.mem_cons_of_mem _ (iw_Be w h)) hown hK hP 0 rfl rfl 7 (by decide) (hts _ (List.mem_cons_of_mem _ k_114)) (fun _ h9 => h9) rfl d_Be_planColumn_1 ?_
  refine lv_iload_n hx hb d_Be_planColumn_4 rfl (lv_at hl 2 rfl) ?_
  refine lv_iconst (v := nI 1) hx hb d_Be_planColumn_5 (by decide +kernel) ?_
  refine lv_iadd hx hb d_Be_planColumn_6 ?_
  refine ka_i (y := nI (col + 1)) (nI_add _ _) ?_
  refine ka_lald (k := (col + 1)) (n := (side + 1)) (f := fun j => lI (RC j)) (nI_t (by omega)) (by omega) hx hb hK hP 10 1 rfl rfl d_Be_planColumn_7 ?_
  refine lv_lstore (lv' := [(4, .long (lI (RC (col + 1)))), (0, .ref hb_), (1, .int (nI row)), (2, .int (nI col)), (3, .int (nI thick))]) hx hb d_Be_planColumn_8 hl (by decide) rfl (fun ls hl => ?_)
  refine lv_iconst (v := iI (-1)) hx hb d_Be_planColumn_10 (by decide +kernel) ?_
  refine lv_istore (lv' := [(6, .int (iI (-1))), (4, .long (lI (RC (col + 1)))), (0, .ref hb_), (1, .int (nI row)), (2, .int (nI col)), (3, .int (nI thick))]) hx hb d_Be_planColumn_11 hl (by decide) rfl (fun ls hl => ?_)
  refine lv_iconst (v := nI 0) hx hb d_Be_planColumn_13 (by decide +kernel) ?_
  refine lv_istore (lv' := [(7, .int (nI 0)), (6, .int (iI (-1))), (4, .long (lI (RC (col + 1)))), (0, .ref hb_), (1, .int (nI row)), (2, .int (nI col)), (3, .int (nI thick))]) hx hb d_Be_planColumn_14 hl (by decide) rfl (fun ls hl => ?_)
  have lp : ∀ (n : Nat) (k : Nat) (b1 : Int) (b2 : Int), (k + n = cn) → (b1 = (colFold RC side kf col thick th wi (okC side fb th wi wn tn row col) (vaC side fl th wi wo tn row col) k).1) → (b2 = (colFold RC side kf col thick th wi (okC side fb th wi wn tn row col) (vaC side fl th wi wo tn row col) k).2) → ∀ (H : Heap) (locs : List Loc), va_P D vwCl [(hb_, .inr (1, [.ref bo, .ref hz, .int (nI side), .int (nI kf), .int (nI tn), .ref r1, .ref r2, .ref r3, .ref r4])), (bo, .inr (2, [.ref hz, .ref h0])), (h0, .inr (3, [.int (nI side), .ref a1, .ref a2, .ref a3, .ref a4, .int (pI sm)])), (hz, .inr (5, [.ref t1, .ref t2, .ref t3, .ref t4, .int (nI cn)])), (t1, .inl (cI, 8, .inl (fun j => nI (th j)))), (t2, .inl (cI, 8, .inl (fun j => nI (wi j)))), (t3, .inl (cI, 8, .inl (fun j => nI (wo j)))), (t4, .inl (cI, 8, .inl (fun j => nI (wn j)))), (a3, .inl (cI, ((side + 1) * (side + 1)), .inl (fun j => nI (F3 j)))), (a4, .inl (cI, ((side + 1) * (side + 1)), .inl (fun j => nI (F4 j)))), (r3, .inl (cJ, (side + 1), .inr (.inl (fun j => lI (RC j))))), (r4, .inl (cI, side, .inl (fun j => iI (SC j))))] H → va_D A [(hb_, .inr (1, [.ref bo, .ref hz, .int (nI side), .int (nI kf), .int (nI tn), .ref r1, .ref r2, .ref r3, .ref r4])), (bo, .inr (2, [.ref hz, .ref h0])), (h0, .inr (3, [.int (nI side), .ref a1, .ref a2, .ref a3, .ref a4, .int (pI sm)])), (hz, .inr (5, [.ref t1, .ref t2, .ref t3, .ref t4, .int (nI cn)])), (t1, .inl (cI, 8, .inl (fun j => nI (th j)))), (t2, .inl (cI, 8, .inl (fun j => nI (wi j)))), (t3, .inl (cI, 8, .inl (fun j => nI (wo j)))), (t4, .inl (cI, 8, .inl (fun j => nI (wn j)))), (a3, .inl (cI, ((side + 1) * (side + 1)), .inl (fun j => nI (F3 j)))), (a4, .inl (cI, ((side + 1) * (side + 1)), .inl (fun j => nI (F4 j)))), (r3, .inl (cJ, (side + 1), .inr (.inl (fun j => lI (RC j))))), (r4, .inl (cI, side, .inl (fun j => iI (SC j))))] → va_S A s.heap H locs → ∀ ls : Array Slot, lv_has ls 10 [(7, .int (nI k)), (6, .int (iI b2)), (4, .long (lI b1)), (0, .ref hb_), (1, .int (nI row)), (2, .int (nI col)), (3, .int (nI thick))] → W p l e (headSpec w_Be_planColumn ({ frames := 2, cells := 0, slots := 0, locals := 52 })).room s m ([.ref hb_, .int (nI row), .int (nI col), .int (nI thick)]).toArray below meth c H locs 0 0 (MQ below (va_Qv (fun (_ : Unit) => True) (fun (_ : Unit) t => kE D vwCl A [(hb_, .inr (1, [.ref bo, .ref hz, .int (nI side), .int (nI kf), .int (nI tn), .ref r1, .ref r2, .ref r3, .ref r4])), (bo, .inr (2, [.ref hz, .ref h0])), (h0, .inr (3, [.int (nI side), .ref a1, .ref a2, .ref a3, .ref a4, .int (pI sm)])), (hz, .inr (5, [.ref t1, .ref t2, .ref t3, .ref t4, .int (nI cn)])), (t1, .inl (cI, 8, .inl (fun j => nI (th j)))), (t2, .inl (cI, 8, .inl (fun j => nI (wi j)))), (t3, .inl (cI, 8, .inl (fun j => nI (wo j)))), (t4, .inl (cI, 8, .inl (fun j => nI (wn j)))), (a3, .inl (cI, ((side + 1) * (side + 1)), .inl (fun j => nI (F3 j)))), (a4, .inl (cI, ((side + 1) * (side + 1)), .inl (fun j => nI (F4 j)))), (r3, .inl (cJ, (side + 1), .inr (.inl (fun j => lI ((va_up RC col (colFold RC side kf col thick th wi (okC side fb th wi wn tn row col) (vaC side fl th wi wo tn row col) cn).1) j))))), (r4, .inl (cI, side, .inl (fun j => iI ((va_up SC col (colFold RC side kf col thick th wi (okC side fb th wi wn tn row col) (vaC side fl th wi wo tn row col) cn).2) j))))] t) A) ([.ref hb_, .int (nI row), .int (nI col), .int (nI thick)]).toArray s 0 0 A) (F0 m 16 ls []) := by
    intro n
    induction n with
    | zero =>
      intro k b1 b2 hi e1 e2 H locs hP hD hS ls hl
      refine lv_iload hx hb d_Be_planColumn_16 (lv_at hl 0 rfl) ?_
      refine lv_aload_n hx hb d_Be_planColumn_18 rfl (lv_at hl 3 rfl) ?_
      refine va_get (D := D) (ci := 1) (v := .ref hz) (C := R_Be) (T := T_Be) (N := 9) hx hb hts (fun w h => List.mem_cons_of_mem _ (iw_Be w h)) hown hK hP 0 rfl rfl 1 (by decide) (hts _ (List.mem_cons_of_mem _ k_108)) (fun _ h9 => h9) rfl d_Be_planColumn_19 ?_
      refine va_get (D := D) (ci := 5) (v := .int (nI cn)) (C := R_Si) (T := T_Si) (N := 5) hx hb hts (fun w h => List.mem_cons_of_mem _ (iw_Si w h)) hown hK hP 3 rfl rfl 4 (by decide) (hts _ (List.mem_cons_of_mem _ k_75)) (fun _ h9 => h9) rfl d_Be_planColumn_22 ?_
      refine kb_cge (tgt := 173) (nI_t (by omega)) (nI_t (by omega)) hx hb d_Be_planColumn_25 (by decide) (fun c_25 => ?_) (fun c_25 => ?_)
      · have ek : cn = k := by omega
        subst ek
        subst e1
        subst e2
        have q := hB cn (Nat.le_refl _)
        refine lv_aload_n hx hb d_Be_planColumn_173 rfl (lv_at hl 3 rfl) ?_
        refine va_get (D := D) (ci := 1) (v := .ref r3) (C := R_Be) (T := T_Be) (N := 9) hx hb hts (fun w h => List.mem_cons_of_mem _ (iw_Be w h)) hown hK hP 0 rfl rfl 7 (by decide) (hts _ (List.mem_cons_of_mem _ k_114)) (fun _ h9 => h9) rfl d_Be_planColumn_174 ?_
        refine lv_iload_n hx hb d_Be_planColumn_177 rfl (lv_at hl 5 rfl) ?_
        refine lv_lload hx hb d_Be_planColumn_178 (lv_at hl 2 rfl) ?_
        refine ka_lastI (F := RC) (v := ((colFold RC side kf col thick th wi (okC side fb th wi wn tn row col) (vaC side fl th wi wo tn row col) cn).1)) (k := col) (n := (side + 1)) (nI_t (by omega)) (by omega) hx hb hK hP hD hS 10 1 rfl rfl d_Be_planColumn_180 (fun H locs hP hD hS => ?_)
        have hP : va_P D vwCl [(hb_, .inr (1, [.ref bo, .ref hz, .int (nI side), .int (nI kf), .int (nI tn), .ref r1, .ref r2, .ref r3, .ref r4])), (bo, .inr (2, [.ref hz, .ref h0])), (h0, .inr (3, [.int (nI side), .ref a1, .ref a2, .ref a3, .ref a4, .int (pI sm)])), (hz, .inr (5, [.ref t1, .ref t2, .ref t3, .ref t4, .int (nI cn)])), (t1, .inl (cI, 8, .inl (fun j => nI (th j)))), (t2, .inl (cI, 8, .inl (fun j => nI (wi j)))), (t3, .inl (cI, 8, .inl (fun j => nI (wo j)))), (t4, .inl (cI, 8, .inl (fun j => nI (wn j)))), (a3, .inl (cI, ((side + 1) * (side + 1)), .inl (fun j => nI (F3 j)))), (a4, .inl (cI, ((side + 1) * (side + 1)), .inl (fun j => nI (F4 j)))), (r3, .inl (cJ, (side + 1), .inr (.inl (fun j => lI ((va_up RC col ((colFold RC side kf col thick th wi (okC side fb th wi wn tn row col) (vaC side fl th wi wo tn row col) cn).1)) j))))), (r4, .inl (cI, side, .inl (fun j => iI (SC j))))] H := hP
        have hD : va_D A [(hb_, .inr (1, [.ref bo, .ref hz, .int (nI side), .int (nI kf), .int (nI tn), .ref r1, .ref r2, .ref r3, .ref r4])), (bo, .inr (2, [.ref hz, .ref h0])), (h0, .inr (3, [.int (nI side), .ref a1, .ref a2, .ref a3, .ref a4, .int (pI sm)])), (hz, .inr (5, [.ref t1, .ref t2, .ref t3, .ref t4, .int (nI cn)])), (t1, .inl (cI, 8, .inl (fun j => nI (th j)))), (t2, .inl (cI, 8, .inl (fun j => nI (wi j)))), (t3, .inl (cI, 8, .inl (fun j => nI (wo j)))), (t4, .inl (cI, 8, .inl (fun j => nI (wn j)))), (a3, .inl (cI, ((side + 1) * (side + 1)), .inl (fun j => nI (F3 j)))), (a4, .inl (cI, ((side + 1) * (side + 1)), .inl (fun j => nI (F4 j)))), (r3, .inl (cJ, (side + 1), .inr (.inl (fun j => lI ((va_up RC col ((colFold RC side kf col thick th wi (okC side fb th wi wn tn row col) (vaC side fl th wi wo tn row col) cn).1)) j))))), (r4, .inl (cI, side, .inl (fun j => iI (SC j))))] := hD
        refine lv_aload_n hx hb d_Be_planColumn_181 rfl (lv_at hl 3 rfl) ?_
        refine va_get (D := D) (ci := 1) (v := .ref r4) (C := R_Be) (T := T_Be) (N := 9) hx hb hts (fun w h => List.mem_cons_of_mem _ (iw_Be w h)) hown hK hP 0 rfl rfl 8 (by decide) (hts _ (List.mem_cons_of_mem _ k_115)) (fun _ h9 => h9) rfl d_Be_planColumn_182 ?_
        refine lv_iload_n hx hb d_Be_planColumn_185 rfl (lv_at hl 5 rfl) ?_
        refine lv_iload hx hb d_Be_planColumn_186 (lv_at hl 1 rfl) ?_
        refine ka_iastI (F := SC) (v := ((colFold RC side kf col thick th wi (okC side fb th wi wn tn row col) (vaC side fl th wi wo tn row col) cn).2)) (k := col) (n := side) (nI_t (by omega)) (by omega) hx hb hK hP hD hS 11 0 rfl rfl d_Be_planColumn_188 (fun H locs hP hD hS => ?_)
        have hP : va_P D vwCl [(hb_, .inr (1, [.ref bo, .ref hz, .int (nI side), .int (nI kf), .int (nI tn), .ref r1, .ref r2, .ref r3, .ref r4])), (bo, .inr (2, [.ref hz, .ref h0])), (h0, .inr (3, [.int (nI side), .ref a1, .ref a2, .ref a3, .ref a4, .int (pI sm)])), (hz, .inr (5, [.ref t1, .ref t2, .ref t3, .ref t4, .int (nI cn)])), (t1, .inl (cI, 8, .inl (fun j => nI (th j)))), (t2, .inl (cI, 8, .inl (fun j => nI (wi j)))), (t3, .inl (cI, 8, .inl (fun j => nI (wo j)))), (t4, .inl (cI, 8, .inl (fun j => nI (wn j)))), (a3, .inl (cI, ((side + 1) * (side + 1)), .inl (fun j => nI (F3 j)))), (a4, .inl (cI, ((side + 1) * (side + 1)), .inl (fun j => nI (F4 j)))), (r3, .inl (cJ, (side + 1), .inr (.inl (fun j => lI ((va_up RC col ((colFold RC side kf col thick th wi (okC side fb th wi wn tn row col) (vaC side fl th wi wo tn row col) cn).1)) j))))), (r4, .inl (cI, side, .inl (fun j => iI ((va_up SC col ((colFold RC side kf col thick th wi (okC side fb th wi wn tn row col) (vaC side fl th wi wo tn row col) cn).2)) j))))] H := hP
        have hD : va_D A [(hb_, .inr (1, [.ref bo, .ref hz, .int (nI side), .int (nI kf), .int (nI tn), .ref r1, .ref r2, .ref r3, .ref r4])), (bo, .inr (2, [.ref hz, .ref h0])), (h0, .inr (3, [.int (nI side), .ref a1, .ref a2, .ref a3, .ref a4, .int (pI sm)])), (hz, .inr (5, [.ref t1, .ref t2, .ref t3, .ref t4, .int (nI cn)])), (t1, .inl (cI, 8, .inl (fun j => nI (th j)))), (t2, .inl (cI, 8, .inl (fun j => nI (wi j)))), (t3, .inl (cI, 8, .inl (fun j => nI (wo j)))), (t4, .inl (cI, 8, .inl (fun j => nI (wn j)))), (a3, .inl (cI, ((side + 1) * (side + 1)), .inl (fun j => nI (F3 j)))), (a4, .inl (cI, ((side + 1) * (side + 1)), .inl (fun j => nI (F4 j)))), (r3, .inl (cJ, (side + 1), .inr (.inl (fun j => lI ((va_up RC col ((colFold RC side kf col thick th wi (okC side fb th wi wn tn row col) (vaC side fl th wi wo tn row col) cn).1)) j))))), (r4, .inl (cI, side, .inl (fun j => iI ((va_up SC col ((colFold RC side kf col thick th wi (okC side fb th wi wn tn row col) (vaC side fl th wi wo tn row col) cn).2)) j))))] := hD
        exact kretv (u := ()) hx hb hr hP hD hS hlocks rfl (trivial) d_Be_planColumn_189
      · exfalso; omega
    | succ n ih =>
      intro k b1 b2 hi e1 e2 H locs hP hD hS ls hl
      refine lv_iload hx hb d_Be_planColumn_16 (lv_at hl 0 rfl) ?_
      refine lv_aload_n hx hb d_Be_planColumn_18 rfl (lv_at hl 3 rfl) ?_
      refine va_get (D := D) (ci := 1) (v := .ref hz) (C := R_Be) (T := T_Be) (N := 9) hx hb hts (fun w h => List.mem_cons_of_mem _ (iw_Be w h)) hown hK hP 0 rfl rfl 1 (by decide) (hts _ (List.mem_cons_of_mem _ k_108)) (fun _ h9 => h9) rfl d_Be_planColumn_19 ?_
      refine va_get (D := D) (ci := 5) (v := .int (nI cn)) (C := R_Si) (T := T_Si) (N := 5) hx hb hts (fun w h => List.mem_cons_of_mem _ (iw_Si w h)) hown hK hP 3 rfl rfl 4 (by decide) (hts _ (List.mem_cons_of_mem _ k_75)) (fun _ h9 => h9) rfl d_Be_planColumn_22 ?_
      refine kb_cge (tgt := 173) (nI_t (by omega)) (nI_t (by omega)) hx hb d_Be_planColumn_25 (by decide) (fun c_25 => ?_) (fun c_25 => ?_)
      · exfalso; omega
      · have q := hB k (by omega)
        rw [← e1, ← e2] at q
        have q3 := hw1 k (by omega)
        have q4 := ht k (by omega)
        have q5 := hw k (by omega)
        have q6 := rkC_bd (kf := kf) (wi := wi) (va := (vaC side fl th wi wo tn row col)) (i := k) hcol s2 hR ⟨q3, vaC_bd (ho k (by omega))⟩
        have q7 := vaC_bd (side := side) (fl := fl) (th := th) (wi := wi) (tn := tn) (row := row) (col := col) (ho k (by omega))
        have q8 := hR (min side (col + wi k + kf)) (by omega) (by omega)
        have es : (colFold RC side kf col thick th wi (okC side fb th wi wn tn row col) (vaC side fl th wi wo tn row col) (k + 1)) = colStep RC side kf col thick th wi (okC side fb th wi wn tn row col) (vaC side fl th wi wo tn row col) k (b1, b2) := by
          rw [e1, e2]; rfl
        refine lv_aload_n hx hb d_Be_planColumn_28 rfl (lv_at hl 3 rfl) ?_
        refine va_get (D := D) (ci := 1) (v := .ref hz) (C := R_Be) (T := T_Be) (N := 9) hx hb hts (fun w h => List.mem_cons_of_mem _ (iw_Be w h)) hown hK hP 0 rfl rfl 1 (by decide) (hts _ (List.mem_cons_of_mem _ k_108)) (fun _ h9 => h9) rfl d_Be_planColumn_29 ?_
        refine va_get (D := D) (ci := 5) (v := .ref t1) (C := R_Si) (T := T_Si) (N := 5) hx hb hts (fun w h => List.mem_cons_of_mem _ (iw_Si w h)) hown hK hP 3 rfl rfl 0 (by decide) (hts _ (List.mem_cons_of_mem _ k_66)) (fun _ h9 => h9) rfl d_Be_planColumn_32 ?_
        refine lv_iload hx hb d_Be_planColumn_35 (lv_at hl 0 rfl) ?_
        refine ka_iald (k := k) (n := 8) (f := fun j => nI (th j)) (nI_t (by omega)) (by omega) hx hb hK hP 4 0 rfl rfl d_Be_planColumn_37 ?_
        refine lv_iload_n hx hb d_Be_planColumn_38 rfl (lv_at hl 6 rfl) ?_
        refine kb_cne (tgt := 167) (nI_t (by omega)) (nI_t (by omega)) hx hb d_Be_planColumn_39 (by decide) (fun ct => ?_) (fun ct => ?_)
        · refine lv_iinc (v := nI (k + 1)) (lv' := [(7, .int (nI (k + 1))), (6, .int (iI b2)), (4, .long (lI b1)), (0, .ref hb_), (1, .int (nI row)), (2, .int (nI col)), (3, .int (nI thick))]) hx hb d_Be_planColumn_167 hl (k := 0) rfl (nI_add _ 1) (by decide) rfl (fun ls hl => ?_)
          refine lv_goto (tgt := 16) hx hb d_Be_planColumn_170 (by decide) ?_
          exact ih (k + 1) b1 b2 (by omega) (by rw [es]; unfold colStep; rw [cif_f (fun h => by have h9 := h.1.1; omega)]) (by rw [es]; unfold colStep; rw [cif_f (fun h => by have h9 := h.1.1; omega)]) _ _ hP hD hS ls (lv_sub hl [0, 1, 2, 3, 4, 5, 6] rfl)
        · refine lv_aload_n hx hb d_Be_planColumn_42 rfl (lv_at hl 3 rfl) ?_
          refine va_get (D := D) (ci := 1) (v := .ref bo) (C := R_Be) (T := T_Be) (N := 9) hx hb hts (fun w h => List.mem_cons_of_mem _ (iw_Be w h)) hown hK hP 0 rfl rfl 0 (by decide) (hts _ (List.mem_cons_of_mem _ k_107)) (fun _ h9 => h9) rfl d_Be_planColumn_43 ?_
          refine lv_iload hx hb d_Be_planColumn_46 (lv_at hl 0 rfl) ?_
          refine lv_aload_n hx hb d_Be_planColumn_48 rfl (lv_at hl 3 rfl) ?_
          refine lv_iload_n hx hb d_Be_planColumn_49 rfl (lv_at hl 4 rfl) ?_
          refine lv_iload_n hx hb d_Be_planColumn_50 rfl (lv_at hl 5 rfl) ?_
          refine kcallR (r := .int (nI (if tn = 0 then col else row))) (va_runV (As := [.int (nI row), .int (nI col)]) (rest := [.int (nI k), .ref bo]) ⟨hx, hb, hml, hown, hts⟩ (c_xAt l D cI cJ cZ hb_ bo hz side kf tn r1 r2 r3 r4 row col (by omega)) ⟨callB_of 2 hts (gd kc_Be_xAt) rfl rfl rfl (hts _ (List.mem_cons_of_mem _ k_6)) (hts _ (List.mem_cons_of_mem _ k_232)) (by decide +kernel) ⟨Nat.le_of_ble_eq_true rfl, Nat.le_of_ble_eq_true rfl⟩, hts _ (List.mem_cons_of_mem _ k_234), hts _ (List.mem_cons_of_mem _ ks_4)⟩ ⟨kR_blind, va_recv hK hP (ci := 1) (q0 := 0) rfl rfl, kR_at hP hK hZ [0] rfl⟩ rfl rfl hl.1 rfl (lv_room (Nat.le_of_ble_eq_true rfl)) d_Be_planColumn_51 ⟨Nat.zero_le _, Nat.zero_le _⟩) ?_
          refine ka_i (y := nI (pX tn row col)) (rfl) ?_
          refine lv_aload_n hx hb d_Be_planColumn_54 rfl (lv_at hl 3 rfl) ?_
          refine lv_iload_n hx hb d_Be_planColumn_55 rfl (lv_at hl 4 rfl) ?_
          refine lv_iload_n hx hb d_Be_planColumn_56 rfl (lv_at hl 5 rfl) ?_
          refine kcallR (r := .int (nI (if tn = 0 then row else col))) (va_runV (As := [.int (nI row), .int (nI col)]) (rest := [.int (nI (pX tn row col)), .int (nI k), .ref bo]) ⟨hx, hb, hml, hown, hts⟩ (c_yAt l D cI cJ cZ hb_ bo hz side kf tn r1 r2 r3 r4 row col (by omega)) ⟨callB_of 2 hts (gd kc_Be_yAt) rfl rfl rfl (hts _ (List.mem_cons_of_mem _ k_6)) (hts _ (List.mem_cons_of_mem _ k_236)) (by decide +kernel) ⟨Nat.le_of_ble_eq_true rfl, Nat.le_of_ble_eq_true rfl⟩, hts _ (List.mem_cons_of_mem _ k_238), hts _ (List.mem_cons_of_mem _ ks_5)⟩ ⟨kR_blind, va_recv hK hP (ci := 1) (q0 := 0) rfl rfl, kR_at hP hK hZ [0] rfl⟩ rfl rfl hl.1 rfl (lv_room (Nat.le_of_ble_eq_true rfl)) d_Be_planColumn_57 ⟨Nat.zero_le _, Nat.zero_le _⟩) ?_
          refine ka_i (y := nI (pY tn row col)) (rfl) ?_
          refine lv_aload_n hx hb d_Be_planColumn_60 rfl (lv_at hl 3 rfl) ?_
          refine va_get (D := D) (ci := 1) (v := .int (nI tn)) (C := R_Be) (T := T_Be) (N := 9) hx hb hts (fun w h => List.mem_cons_of_mem _ (iw_Be w h)) hown hK hP 0 rfl rfl 4 (by decide) (hts _ (List.mem_cons_of_mem _ k_111)) (fun _ h9 => h9) rfl d_Be_planColumn_61 ?_
          refine kcallR (r := .int (pI (0 ≤ sumZ fb side ((pX tn row col : Nat) : Int) ((pY tn row col : Nat) : Int) (if ((tn : Nat) : Int) = 0 then wi k else th k) (if ((tn : Nat) : Int) = 0 then th k else wi k) ∧ sumZ fb side ((pX tn row col : Nat) : Int) ((pY tn row col : Nat) : Int) (if ((tn : Nat) : Int) = 0 then wi k else th k) (if ((tn : Nat) : Int) = 0 then th k else wi k) ≤ (wn k : Int)))) (va_runV (As := [.int (nI k), .int (nI (pX tn row col)), .int (nI (pY tn row col)), .int (nI tn)]) (rest := []) ⟨hx, hb, hml, hown, hts⟩ (c_fits l D cI cJ cZ bo h0 side a1 a2 a3 a4 sm hz t1 t2 t3 t4 cn th wi wn F3 fb k (nI (pX tn row col)) (nI (pY tn row col)) ((pX tn row col : Nat) : Int) ((pY tn row col : Nat) : Int) (nI tn) ((tn : Nat) : Int) (by omega) (by omega) ht hw (nI_t (by omega)) (nI_t (by omega)) (nI_t (by omega)) m3 hfb hn) ⟨callB_of 4 hts (gd kc_Bo_fits) rfl rfl rfl (hts _ (List.mem_cons_of_mem _ k_5)) (hts _ (List.mem_cons_of_mem _ k_240)) (by decide +kernel) ⟨Nat.le_of_ble_eq_true rfl, Nat.le_of_ble_eq_true rfl⟩, hts _ (List.mem_cons_of_mem _ k_241), hts _ (List.mem_cons_of_mem _ k_242)⟩ ⟨kR_blind, va_recv hK hP (ci := 2) (q0 := 1) rfl rfl, kR_at hP hK hZ [1, 2, 3, 4, 5, 7, 8] rfl⟩ rfl rfl hl.1 rfl (lv_room (Nat.le_of_ble_eq_true rfl)) d_Be_planColumn_64 ⟨Nat.zero_le _, Nat.zero_le _⟩) ?_
          refine ka_i (y := pI (okC side fb th wi wn tn row col k)) (rfl) ?_
          refine kb_neP (tgt := 73) hx hb d_Be_planColumn_67 (by decide) (fun cf => ?_) (fun cf => ?_)
          · refine lv_aload_n hx hb d_Be_planColumn_73 rfl (lv_at hl 3 rfl) ?_
            refine va_get (D := D) (ci := 1) (v := .ref bo) (C := R_Be) (T := T_Be) (N := 9) hx hb hts (fun w h => List.mem_cons_of_mem _ (iw_Be w h)) hown hK hP 0 rfl rfl 0 (by decide) (hts _ (List.mem_cons_of_mem _ k_107)) (fun _ h9 => h9) rfl d_Be_planColumn_74 ?_
            refine lv_iload hx hb d_Be_planColumn_77 (lv_at hl 0 rfl) ?_
            refine lv_aload_n hx hb d_Be_planColumn_79 rfl (lv_at hl 3 rfl) ?_
            refine lv_iload_n hx hb d_Be_planColumn_80 rfl (lv_at hl 4 rfl) ?_
            refine lv_iload_n hx hb d_Be_planColumn_81 rfl (lv_at hl 5 rfl) ?_
            refine kcallR (r := .int (nI (if tn = 0 then col else row))) (va_runV (As := [.int (nI row), .int (nI col)]) (rest := [.int (nI k), .ref bo]) ⟨hx, hb, hml, hown, hts⟩ (c_xAt l D cI cJ cZ hb_ bo hz side kf tn r1 r2 r3 r4 row col (by omega)) ⟨callB_of 2 hts (gd kc_Be_xAt) rfl rfl rfl (hts _ (List.mem_cons_of_mem _ k_6)) (hts _ (List.mem_cons_of_mem _ k_232)) (by decide +kernel) ⟨Nat.le_of_ble_eq_true rfl, Nat.le_of_ble_eq_true rfl⟩, hts _ (List.mem_cons_of_mem _ k_234), hts _ (List.mem_cons_of_mem _ ks_4)⟩ ⟨kR_blind, va_recv hK hP (ci := 1) (q0 := 0) rfl rfl, kR_at hP hK hZ [0] rfl⟩ rfl rfl hl.1 rfl (lv_room (Nat.le_of_ble_eq_true rfl)) d_Be_planColumn_82 ⟨Nat.zero_le _, Nat.zero_le _⟩) ?_
            refine ka_i (y := nI (pX tn row col)) (rfl) ?_
            refine lv_aload_n hx hb d_Be_planColumn_85 rfl (lv_at hl 3 rfl) ?_
            refine lv_iload_n hx hb d_Be_planColumn_86 rfl (lv_at hl 4 rfl) ?_
            refine lv_iload_n hx hb d_Be_planColumn_87 rfl (lv_at hl 5 rfl) ?_
            refine kcallR (r := .int (nI (if tn = 0 then row else col))) (va_runV (As := [.int (nI row), .int (nI col)]) (rest := [.int (nI (pX tn row col)), .int (nI k), .ref bo]) ⟨hx, hb, hml, hown, hts⟩ (c_yAt l D cI cJ cZ hb_ bo hz side kf tn r1 r2 r3 r4 row col (by omega)) ⟨callB_of 2 hts (gd kc_Be_yAt) rfl rfl rfl (hts _ (List.mem_cons_of_mem _ k_6)) (hts _ (List.mem_cons_of_mem _ k_236)) (by decide +kernel) ⟨Nat.le_of_ble_eq_true rfl, Nat.le_of_ble_eq_true rfl⟩, hts _ (List.mem_cons_of_mem _ k_238), hts _ (List.mem_cons_of_mem _ ks_5)⟩ ⟨kR_blind, va_recv hK hP (ci := 1) (q0 := 0) rfl rfl, kR_at hP hK hZ [0] rfl⟩ rfl rfl hl.1 rfl (lv_room (Nat.le_of_ble_eq_true rfl)) d_Be_planColumn_88 ⟨Nat.zero_le _, Nat.zero_le _⟩) ?_
            refine ka_i (y := nI (pY tn row col)) (rfl) ?_
            refine lv_aload_n hx hb d_Be_planColumn_91 rfl (lv_at hl 3 rfl) ?_
            refine va_get (D := D) (ci := 1) (v := .int (nI tn)) (C := R_Be) (T := T_Be) (N := 9) hx hb hts (fun w h => List.mem_cons_of_mem _ (iw_Be w h)) hown hK hP 0 rfl rfl 4 (by decide) (hts _ (List.mem_cons_of_mem _ k_111)) (fun _ h9 => h9) rfl d_Be_planColumn_92 ?_
            refine kcallR (r := .int (iI (max 0 ((wo k : Int) - sumZ fl side ((pX tn row col : Nat) : Int) ((pY tn row col : Nat) : Int) (if ((tn : Nat) : Int) = 0 then wi k else th k) (if ((tn : Nat) : Int) = 0 then th k else wi k))))) (va_runV (As := [.int (nI k), .int (nI (pX tn row col)), .int (nI (pY tn row col)), .int (nI tn)]) (rest := []) ⟨hx, hb, hml, hown, hts⟩ (c_valueAt l D cI cJ cZ bo h0 side a1 a2 a3 a4 sm hz t1 t2 t3 t4 cn th wi wo F4 fl k (nI (pX tn row col)) (nI (pY tn row col)) ((pX tn row col : Nat) : Int) ((pY tn row col : Nat) : Int) (nI tn) ((tn : Nat) : Int) (by omega) (by omega) ht hw (nI_t (by omega)) (nI_t (by omega)) (nI_t (by omega)) m4 hfl ho) ⟨callB_of 4 hts (gd kc_Bo_valueAt) rfl rfl rfl (hts _ (List.mem_cons_of_mem _ k_5)) (hts _ (List.mem_cons_of_mem _ k_256)) (by decide +kernel) ⟨Nat.le_of_ble_eq_true rfl, Nat.le_of_ble_eq_true rfl⟩, hts _ (List.mem_cons_of_mem _ k_257), hts _ (List.mem_cons_of_mem _ k_258)⟩ ⟨kR_blind, va_recv hK hP (ci := 2) (q0 := 1) rfl rfl, kR_at hP hK hZ [1, 2, 3, 4, 5, 6, 9] rfl⟩ rfl rfl hl.1 rfl (lv_room (Nat.le_of_ble_eq_true rfl)) d_Be_planColumn_95 ⟨Nat.zero_le _, Nat.zero_le _⟩) ?_
            refine ka_i (y := iI (vaC side fl th wi wo tn row col k)) (rfl) ?_
            refine lv_i2l (v := lI (vaC side fl th wi wo tn row col k)) hx hb d_Be_planColumn_98 (lI_i (iI_t (by omega) (by omega))) ?_
            refine lv_ldc2 (v := (1000 : Int64)) hx hb hown (hts _ (List.mem_cons_of_mem _ k_261)) d_Be_planColumn_99 ?_
            refine ka_l (y := lI 1000) (by decide +kernel) ?_
            refine lv_lmul hx hb d_Be_planColumn_102 ?_
            refine ka_l (y := lI ((vaC side fl th wi wo tn row col k) * 1000)) (lI_mul _ _) ?_
            refine lv_lconst (v := lI 1) hx hb d_Be_planColumn_103 (by decide +kernel) ?_
            refine lv_lsub hx hb d_Be_planColumn_104 ?_
            refine ka_l (y := lI (((vaC side fl th wi wo tn row col k) * 1000) - 1)) (lI_sub _ _) ?_
            refine lv_aload_n hx hb d_Be_planColumn_105 rfl (lv_at hl 3 rfl) ?_
            refine va_get (D := D) (ci := 1) (v := .ref r3) (C := R_Be) (T := T_Be) (N := 9) hx hb hts (fun w h => List.mem_cons_of_mem _ (iw_Be w h)) hown hK hP 0 rfl rfl 7 (by decide) (hts _ (List.mem_cons_of_mem _ k_114)) (fun _ h9 => h9) rfl d_Be_planColumn_106 ?_
            refine lv_aload_n hx hb d_Be_planColumn_109 rfl (lv_at hl 3 rfl) ?_
            refine va_get (D := D) (ci := 1) (v := .int (nI side)) (C := R_Be) (T := T_Be) (N := 9) hx hb hts (fun w h => List.mem_cons_of_mem _ (iw_Be w h)) hown hK hP 0 rfl rfl 2 (by decide) (hts _ (List.mem_cons_of_mem _ k_109)) (fun _ h9 => h9) rfl d_Be_planColumn_110 ?_
            refine lv_iload_n hx hb d_Be_planColumn_113 rfl (lv_at hl 5 rfl) ?_
            refine lv_aload_n hx hb d_Be_planColumn_114 rfl (lv_at hl 3 rfl) ?_
            refine va_get (D := D) (ci := 1) (v := .ref hz) (C := R_Be) (T := T_Be) (N := 9) hx hb hts (fun w h => List.mem_cons_of_mem _ (iw_Be w h)) hown hK hP 0 rfl rfl 1 (by decide) (hts _ (List.mem_cons_of_mem _ k_108)) (fun _ h9 => h9) rfl d_Be_planColumn_115 ?_
            refine va_get (D := D) (ci := 5) (v := .ref t2) (C := R_Si) (T := T_Si) (N := 5) hx hb hts (fun w h => List.mem_cons_of_mem _ (iw_Si w h)) hown hK hP 3 rfl rfl 1 (by decide) (hts _ (List.mem_cons_of_mem _ k_68)) (fun _ h9 => h9) rfl d_Be_planColumn_118 ?_
            refine lv_iload hx hb d_Be_planColumn_121 (lv_at hl 0 rfl) ?_
            refine ka_iald (k := k) (n := 8) (f := fun j => nI (wi j)) (nI_t (by omega)) (by omega) hx hb hK hP 5 0 rfl rfl d_Be_planColumn_123 ?_
            refine lv_iadd hx hb d_Be_planColumn_124 ?_
            refine ka_i (y := nI (col + (wi k))) (nI_add _ _) ?_
            refine lv_aload_n hx hb d_Be_planColumn_125 rfl (lv_at hl 3 rfl) ?_
            refine va_get (D := D) (ci := 1) (v := .int (nI kf)) (C := R_Be) (T := T_Be) (N := 9) hx hb hts (fun w h => List.mem_cons_of_mem _ (iw_Be w h)) hown hK hP 0 rfl rfl 3 (by decide) (hts _ (List.mem_cons_of_mem _ k_110)) (fun _ h9 => h9) rfl d_Be_planColumn_126 ?_
            refine lv_iadd hx hb d_Be_planColumn_129 ?_
            refine ka_i (y := nI ((col + (wi k)) + kf)) (nI_add _ _) ?_
            refine va_mmin hx hb (hml.trans hl.1.symm) hown (hts _ (List.mem_cons_of_mem _ k_262)) (hts _ (List.mem_cons_of_mem _ k_24)) (hts _ (List.mem_cons_of_mem _ k_2)) (hts _ (List.mem_cons_of_mem _ k_25)) (Nat.le_of_ble_eq_true rfl) (Nat.le_of_ble_eq_true rfl) (Nat.zero_le _) (Nat.zero_le _) d_Be_planColumn_130 ?_
            refine ka_i (y := iI (min ((side : Nat) : Int) (((col + (wi k)) + kf : Nat) : Int))) (mmin32 (nI_t (by omega)) (nI_t (by omega))) ?_
            refine ka_lald (k := (min side (col + wi k + kf))) (n := (side + 1)) (f := fun j => lI (RC j)) ((iI_t (by omega) (by omega)).trans (by omega)) (by omega) hx hb hK hP 10 1 rfl rfl d_Be_planColumn_133 ?_
            refine lv_ladd hx hb d_Be_planColumn_134 ?_
            refine ka_l (y := lI ((((vaC side fl th wi wo tn row col k) * 1000) - 1) + (RC (min side (col + wi k + kf))))) (lI_add _ _) ?_
            refine ka_l (y := lI (rkC RC side kf col wi (vaC side fl th wi wo tn row col) k)) (rfl) ?_
            refine lv_lstore (lv' := [(8, .long (lI (rkC RC side kf col wi (vaC side fl th wi wo tn row col) k))), (7, .int (nI k)), (6, .int (iI b2)), (4, .long (lI b1)), (0, .ref hb_), (1, .int (nI row)), (2, .int (nI col)), (3, .int (nI thick))]) hx hb d_Be_planColumn_135 hl (by decide) rfl (fun ls hl => ?_)
            refine lv_lload hx hb d_Be_planColumn_137 (lv_at hl 0 rfl) ?_
            refine lv_lload hx hb d_Be_planColumn_139 (lv_at hl 3 rfl) ?_
            refine ka_lcmp (lI_t (by omega) (by omega)) (lI_t (by omega) (by omega)) hx hb d_Be_planColumn_141 ?_
            refine kb_gt (tgt := 159) (cmpI_b _ _) hx hb d_Be_planColumn_142 (by decide) (fun g1 => ?_) (fun g1 => ?_)
            · have g2 := cmpI_gt.mp g1
              refine lv_lload hx hb d_Be_planColumn_159 (lv_at hl 0 rfl) ?_
              refine lv_lstore (lv' := [(4, .long (lI (rkC RC side kf col wi (vaC side fl th wi wo tn row col) k))), (8, .long (lI (rkC RC side kf col wi (vaC side fl th wi wo tn row col) k))), (7, .int (nI k)), (6, .int (iI b2)), (0, .ref hb_), (1, .int (nI row)), (2, .int (nI col)), (3, .int (nI thick))]) hx hb d_Be_planColumn_161 hl (by decide) rfl (fun ls hl => ?_)
              refine lv_iload hx hb d_Be_planColumn_163 (lv_at hl 2 rfl) ?_
              refine ka_i (y := iI (k : Int)) (iI_of k) ?_
              refine lv_istore (lv' := [(6, .int (iI (k : Int))), (4, .long (lI (rkC RC side kf col wi (vaC side fl th wi wo tn row col) k))), (8, .long (lI (rkC RC side kf col wi (vaC side fl th wi wo tn row col) k))), (7, .int (nI k)), (0, .ref hb_), (1, .int (nI row)), (2, .int (nI col)), (3, .int (nI thick))]) hx hb d_Be_planColumn_165 hl (by decide) rfl (fun ls hl => ?_)
              refine lv_iinc (v := nI (k + 1)) (lv' := [(7, .int (nI (k + 1))), (6, .int (iI (k : Int))), (4, .long (lI (rkC RC side kf col wi (vaC side fl th wi wo tn row col) k))), (8, .long (lI (rkC RC side kf col wi (vaC side fl th wi wo tn row col) k))), (0, .ref hb_), (1, .int (nI row)), (2, .int (nI col)), (3, .int (nI thick))]) hx hb d_Be_planColumn_167 hl (k := 3) rfl (nI_add _ 1) (by decide) rfl (fun ls hl => ?_)
              refine lv_goto (tgt := 16) hx hb d_Be_planColumn_170 (by decide) ?_
              exact ih (k + 1) (rkC RC side kf col wi (vaC side fl th wi wo tn row col) k) (k : Int) (by omega) (by rw [es]; unfold colStep; rw [cif_t (⟨⟨by omega, cf⟩, Or.inl g2⟩)]) (by rw [es]; unfold colStep; rw [cif_t (⟨⟨by omega, cf⟩, Or.inl g2⟩)]) _ _ hP hD hS ls (lv_sub hl [0, 1, 2, 4, 5, 6, 7] rfl)
            · have l2 := cmpI_le.mp g1
              refine lv_lload hx hb d_Be_planColumn_145 (lv_at hl 0 rfl) ?_
              refine lv_lload hx hb d_Be_planColumn_147 (lv_at hl 3 rfl) ?_
              refine ka_lcmp (lI_t (by omega) (by omega)) (lI_t (by omega) (by omega)) hx hb d_Be_planColumn_149 ?_
              refine kb_ne (tgt := 167) (cmpI_b _ _) hx hb d_Be_planColumn_150 (by decide) (fun g3 => ?_) (fun g3 => ?_)
              · have g4 := (not_congr cmpI_eq).mp g3
                refine lv_iinc (v := nI (k + 1)) (lv' := [(7, .int (nI (k + 1))), (8, .long (lI (rkC RC side kf col wi (vaC side fl th wi wo tn row col) k))), (6, .int (iI b2)), (4, .long (lI b1)), (0, .ref hb_), (1, .int (nI row)), (2, .int (nI col)), (3, .int (nI thick))]) hx hb d_Be_planColumn_167 hl (k := 1) rfl (nI_add _ 1) (by decide) rfl (fun ls hl => ?_)
                refine lv_goto (tgt := 16) hx hb d_Be_planColumn_170 (by decide) ?_
                exact ih (k + 1) b1 b2 (by omega) (by rw [es]; unfold colStep; rw [cif_f (fun h => by
                    rcases h.2 with h9 | h9
                    · have h9 : b1 < _ := h9
                      omega
                    · exact g4 h9.1)]) (by rw [es]; unfold colStep; rw [cif_f (fun h => by
                    rcases h.2 with h9 | h9
                    · have h9 : b1 < _ := h9
                      omega
                    · exact g4 h9.1)]) _ _ hP hD hS ls (lv_sub hl [0, 2, 3, 4, 5, 6, 7] rfl)
              · have g4 := cmpI_eq.mp g3
                refine lv_iload hx hb d_Be_planColumn_153 (lv_at hl 2 rfl) ?_
                refine lv_iconst (v := iI (-1)) hx hb d_Be_planColumn_155 (by decide +kernel) ?_
                refine kb_cne (tgt := 167) (iI_t (by omega) (by omega)) (iI_t (by omega) (by omega)) hx hb d_Be_planColumn_156 (by decide) (fun g5 => ?_) (fun g5 => ?_)
                · refine lv_iinc (v := nI (k + 1)) (lv' := [(7, .int (nI (k + 1))), (8, .long (lI (rkC RC side kf col wi (vaC side fl th wi wo tn row col) k))), (6, .int (iI b2)), (4, .long (lI b1)), (0, .ref hb_), (1, .int (nI row)), (2, .int (nI col)), (3, .int (nI thick))]) hx hb d_Be_planColumn_167 hl (k := 1) rfl (nI_add _ 1) (by decide) rfl (fun ls hl => ?_)
                  refine lv_goto (tgt := 16) hx hb d_Be_planColumn_170 (by decide) ?_
                  exact ih (k + 1) b1 b2 (by omega) (by rw [es]; unfold colStep; rw [cif_f (fun h => by
                      rcases h.2 with h9 | h9
                      · have h9 : b1 < _ := h9
                        omega
                      · exact g5 h9.2)]) (by rw [es]; unfold colStep; rw [cif_f (fun h => by
                      rcases h.2 with h9 | h9
                      · have h9 : b1 < _ := h9
                        omega
                      · exact g5 h9.2)]) _ _ hP hD hS ls (lv_sub hl [0, 2, 3, 4, 5, 6, 7] rfl)
                · refine lv_lload hx hb d_Be_planColumn_159 (lv_at hl 0 rfl) ?_
                  refine lv_lstore (lv' := [(4, .long (lI (rkC RC side kf col wi (vaC side fl th wi wo tn row col) k))), (8, .long (lI (rkC RC side kf col wi (vaC side fl th wi wo tn row col) k))), (7, .int (nI k)), (6, .int (iI b2)), (0, .ref hb_), (1, .int (nI row)), (2, .int (nI col)), (3, .int (nI thick))]) hx hb d_Be_planColumn_161 hl (by decide) rfl (fun ls hl => ?_)
                  refine lv_iload hx hb d_Be_planColumn_163 (lv_at hl 2 rfl) ?_
                  refine ka_i (y := iI (k : Int)) (iI_of k) ?_
                  refine lv_istore (lv' := [(6, .int (iI (k : Int))), (4, .long (lI (rkC RC side kf col wi (vaC side fl th wi wo tn row col) k))), (8, .long (lI (rkC RC side kf col wi (vaC side fl th wi wo tn row col) k))), (7, .int (nI k)), (0, .ref hb_), (1, .int (nI row)), (2, .int (nI col)), (3, .int (nI thick))]) hx hb d_Be_planColumn_165 hl (by decide) rfl (fun ls hl => ?_)
                  refine lv_iinc (v := nI (k + 1)) (lv' := [(7, .int (nI (k + 1))), (6, .int (iI (k : Int))), (4, .long (lI (rkC RC side kf col wi (vaC side fl th wi wo tn row col) k))), (8, .long (lI (rkC RC side kf col wi (vaC side fl th wi wo tn row col) k))), (0, .ref hb_), (1, .int (nI row)), (2, .int (nI col)), (3, .int (nI thick))]) hx hb d_Be_planColumn_167 hl (k := 3) rfl (nI_add _ 1) (by decide) rfl (fun ls hl => ?_)
                  refine lv_goto (tgt := 16) hx hb d_Be_planColumn_170 (by decide) ?_
                  exact ih (k + 1) (rkC RC side kf col wi (vaC side fl th wi wo tn row col) k) (k : Int) (by omega) (by rw [es]; unfold colStep; rw [cif_t (⟨⟨by omega, cf⟩, Or.inr ⟨g4, g5⟩⟩)]) (by rw [es]; unfold colStep; rw [cif_t (⟨⟨by omega, cf⟩, Or.inr ⟨g4, g5⟩⟩)]) _ _ hP hD hS ls (lv_sub hl [0, 1, 2, 4, 5, 6, 7] rfl)
          · refine lv_goto (tgt := 167) hx hb d_Be_planColumn_70 (by decide) ?_
            refine lv_iinc (v := nI (k + 1)) (lv' := [(7, .int (nI (k + 1))), (6, .int (iI b2)), (4, .long (lI b1)), (0, .ref hb_), (1, .int (nI row)), (2, .int (nI col)), (3, .int (nI thick))]) hx hb d_Be_planColumn_167 hl (k := 0) rfl (nI_add _ 1) (by decide) rfl (fun ls hl => ?_)
            refine lv_goto (tgt := 16) hx hb d_Be_planColumn_170 (by decide) ?_
            exact ih (k + 1) b1 b2 (by omega) (by rw [es]; unfold colStep; rw [cif_f (fun h => cf h.1.2)]) (by rw [es]; unfold colStep; rw [cif_f (fun h => cf h.1.2)]) _ _ hP hD hS ls (lv_sub hl [0, 1, 2, 3, 4, 5, 6] rfl)
  exact lp cn 0 (RC (col + 1)) (-1) (by omega) rfl rfl _ _ hP hD hS ls (lv_sub hl [0, 1, 2, 3, 4, 5, 6] rfl)
end
section
theorem d_Be_planSlab_0 : decode b_Be_planSlab 0 = .ok (.aload_n 0, 1) := by decide +kernel
theorem d_Be_planSlab_1 : decode b_Be_planSlab 1 = .ok (.getfield 22, 3) := by decide +kernel
theorem d_Be_planSlab_4 : decode b_Be_planSlab 4 = .ok (.iconst 1, 1) := by decide +kernel
theorem d_Be_planSlab_5 : decode b_Be_planSlab 5 = .ok (.isub, 1) := by decide +kernel
theorem d_Be_planSlab_6 : decode b_Be_planSlab 6 = .ok (.istore_n 3, 1) := by decide +kernel
theorem d_Be_planSlab_7 : decode b_Be_planSlab 7 = .ok (.iload_n 3, 1) := by decide +kernel
theorem d_Be_planSlab_8 : decode b_Be_planSlab 8 = .ok (.ifCond .lt 16, 3) := by decide +kernel
theorem d_Be_planSlab_11 : decode b_Be_planSlab 11 = .ok (.aload_n 0, 1) := by decide +kernel
theorem d_Be_planSlab_12 : decode b_Be_planSlab 12 = .ok (.iload_n 1, 1) := by decide +kernel
theorem d_Be_planSlab_13 : decode b_Be_planSlab 13 = .ok (.iload_n 3, 1) := by decide +kernel
theorem d_Be_planSlab_14 : decode b_Be_planSlab 14 = .ok (.iload_n 2, 1) := by decide +kernel
theorem d_Be_planSlab_15 : decode b_Be_planSlab 15 = .ok (.invokevirtual 68, 3) := by decide +kernel
theorem d_Be_planSlab_18 : decode b_Be_planSlab 18 = .ok (.iinc 3 (-1), 3) := by decide +kernel
theorem d_Be_planSlab_21 : decode b_Be_planSlab 21 = .ok (.goto (-14), 3) := by decide +kernel
theorem d_Be_planSlab_24 : decode b_Be_planSlab 24 = .ok (.aload_n 0, 1) := by decide +kernel
theorem d_Be_planSlab_25 : decode b_Be_planSlab 25 = .ok (.getfield 37, 3) := by decide +kernel
theorem d_Be_planSlab_28 : decode b_Be_planSlab 28 = .ok (.iconst 0, 1) := by decide +kernel
theorem d_Be_planSlab_29 : decode b_Be_planSlab 29 = .ok (.laload, 1) := by decide +kernel
theorem d_Be_planSlab_30 : decode b_Be_planSlab 30 = .ok (.lreturn, 1) := by decide +kernel
theorem colFold_congr {RC RC' : Nat → Int} {side kf col thick : Nat} {th wi : Nat → Nat} {ok : Nat → Prop} {va : Nat → Int} (hc : col < side) (h : ∀ j, col < j → j ≤ side → RC j = RC' j) : ∀ (k : Nat), (∀ i, i < k → 1 ≤ wi i) → colFold RC side kf col thick th wi ok va k = colFold RC' side kf col thick th wi ok va k := by
  intro k
  induction k with
  | zero => intro _; show (RC (col + 1), (-1 : Int)) = (RC' (col + 1), -1); rw [h _ (by omega) (by omega)]
  | succ k ih =>
    intro hw
    have e := ih (fun i hi => hw i (by omega))
    have h1 := hw k (by omega)
    have er : rkC RC side kf col wi va k = rkC RC' side kf col wi va k := by unfold rkC; rw [h _ (by omega) (by omega)]
    show colStep RC side kf col thick th wi ok va k _ = colStep RC' side kf col thick th wi ok va k _
    rw [e]
    unfold colStep
    rw [er]
/-- a slab's tables, d columns from the right on -/
noncomputable def slabT (side kf thick : Nat) (th wi : Nat → Nat) (ok : Nat → Nat → Prop) (va : Nat → Nat → Int) (cn : Nat) (RC SC : Nat → Int) : Nat → (Nat → Int) × (Nat → Int)
  | 0 => (RC, SC)
  | d + 1 => (va_up (slabT side kf thick th wi ok va cn RC SC d).1 (side - 1 - d) (colFold (slabT side kf thick th wi ok va cn RC SC d).1 side kf (side - 1 - d) thick th wi (ok (side - 1 - d)) (va (side - 1 - d)) cn).1,
      va_up (slabT side kf thick th wi ok va cn RC SC d).2 (side - 1 - d) (colFold (slabT side kf thick th wi ok va cn RC SC d).1 side kf (side - 1 - d) thick th wi (ok (side - 1 - d)) (va (side - 1 - d)) cn).2)
theorem slabT_bd {side kf thick : Nat} {th wi : Nat → Nat} {ok : Nat → Nat → Prop} {va : Nat → Nat → Int} {cn : Nat} {RC SC : Nat → Int} (h0 : RC side = 0) (hw : ∀ i, i < cn → 1 ≤ wi i) (hv : ∀ c i, i < cn → 0 ≤ va c i ∧ va c i ≤ 100001) : ∀ (d : Nat), d ≤ side → ∀ j, side - d ≤ j → j ≤ side → 0 ≤ (slabT side kf thick th wi ok va cn RC SC d).1 j ∧ (slabT side kf thick th wi ok va cn RC SC d).1 j ≤ 100001000 * ((side - j : Nat) : Int) := by
  intro d
  induction d with
  | zero =>
    intro _ j h1 h2
    have e : j = side := by omega
    subst e
    show 0 ≤ RC j ∧ RC j ≤ _
    rw [h0]
    omega
  | succ d ih =>
    intro hd j h1 h2
    show 0 ≤ va_up _ (side - 1 - d) _ j ∧ va_up _ (side - 1 - d) _ j ≤ _
    by_cases e : j = side - 1 - d
    · rw [e, va_up_self]
      have k := colFold_bd (RC := (slabT side kf thick th wi ok va cn RC SC d).1) (side := side) (kf := kf) (col := side - 1 - d) (thick := thick) (th := th) (wi := wi) (ok := ok (side - 1 - d)) (va := va (side - 1 - d)) (by omega) (fun j h3 h4 => ih (by omega) j (by omega) h4) cn (fun i hi => ⟨hw i hi, hv _ i hi⟩)
      exact ⟨k.1, k.2.1⟩
    · rw [va_up_ne _ _ e]
      exact ih (by omega) j (by omega) h2
theorem slabT_same {side kf thick : Nat} {th wi : Nat → Nat} {ok : Nat → Nat → Prop} {va : Nat → Nat → Int} {cn : Nat} {RC SC RC' SC' : Nat → Int} (h0 : RC side = RC' side) (hw : ∀ i, i < cn → 1 ≤ wi i) : ∀ (d : Nat), d ≤ side → (∀ j, side - d ≤ j → j ≤ side → (slabT side kf thick th wi ok va cn RC SC d).1 j = (slabT side kf thick th wi ok va cn RC' SC' d).1 j) ∧ ∀ j, side - d ≤ j → j < side → (slabT side kf thick th wi ok va cn RC SC d).2 j = (slabT side kf thick th wi ok va cn RC' SC' d).2 j := by
  intro d
  induction d with
  | zero =>
    intro _
    refine ⟨fun j h1 h2 => ?_, fun j h1 h2 => absurd h2 (by omega)⟩
    have e : j = side := by omega
    subst e
    exact h0
  | succ d ih =>
    intro hd
    obtain ⟨i1, i2⟩ := ih (by omega)
    have ec := colFold_congr (kf := kf) (thick := thick) (th := th) (ok := ok (side - 1 - d)) (va := va (side - 1 - d)) (show side - 1 - d < side by omega) (fun j h3 h4 => i1 j (by omega) h4) cn hw
    refine ⟨fun j h1 h2 => ?_, fun j h1 h2 => ?_⟩
    · show va_up _ (side - 1 - d) _ j = va_up _ (side - 1 - d) _ j
      by_cases e : j = side - 1 - d
      · rw [e, va_up_self, va_up_self, ec]
      · rw [va_up_ne _ _ e, va_up_ne _ _ e]
        exact i1 j (by omega) h2
    · show va_up _ (side - 1 - d) _ j = va_up _ (side - 1 - d) _ j
      by_cases e : j = side - 1 - d
      · rw [e, va_up_self, va_up_self, ec]
      · rw [va_up_ne _ _ e, va_up_ne _ _ e]
        exact i2 j (by omega) h2
/-- a slab's best, as a table of its own -/
noncomputable def slab0 (side kf thick : Nat) (th wi : Nat → Nat) (ok : Nat → Nat → Prop) (va : Nat → Nat → Int) (cn : Nat) : (Nat → Int) × (Nat → Int) := slabT side kf thick th wi ok va cn (fun _ => 0) (fun _ => 0) side
set_option maxHeartbeats 4000000 in
set_option maxRecDepth 100000 in
theorem c_planSlab (l : Launch) (D : va_G) (cI cJ cZ : ClassId) (sz : Nat) (hb_ : Nat) (bo : Nat) (hz : Nat) (side : Nat) (kf : Nat) (tn : Nat) (r1 : Nat) (r2 : Nat) (r3 : Nat) (r4 : Nat) (h0 : Nat) (a1 : Nat) (a2 : Nat) (a3 : Nat) (a4 : Nat) (sm : Prop) (t1 : Nat) (t2 : Nat) (t3 : Nat) (t4 : Nat) (cn : Nat) (th : Nat → Nat) (wi : Nat → Nat) (wo : Nat → Nat) (wn : Nat → Nat) (F3 : Nat → Nat) (F4 : Nat → Nat) (fb : Nat → Nat → Nat) (fl : Nat → Nat → Nat) (RC : Nat → Int) (SC : Nat → Int) (row : Nat) (thick : Nat) (s1 : 1 ≤ side) (s2 : side ≤ 20) (k4 : kf ≤ 4) (tn1 : tn ≤ 1) (n8 : cn ≤ 8) (ht : ∀ k, k < 8 → th k ≤ 20) (hw : ∀ k, k < 8 → wi k ≤ 20) (hw1 : ∀ k, k < cn → 1 ≤ wi k) (ho : ∀ k, k < 8 → wo k ≤ 100000) (hn : ∀ k, k < 8 → wn k ≤ 400) (m3 : ∀ X Y, X ≤ side → Y ≤ side → F3 (Y * (side + 1) + X) = psm fb X Y) (m4 : ∀ X Y, X ≤ side → Y ≤ side → F4 (Y * (side + 1) + X) = psm fl X Y) (hfb : ∀ i j, i < side → j < side → fb i j ≤ 10000) (hfl : ∀ i j, i < side → j < side → fl i j ≤ 10000) (hrow : row < side) (hth : thick ≤ 20) (hR0 : RC side = 0) : Met l y_Be_planSlab w_Be_planSlab ({ frames := 3, cells := 0, slots := 0, locals := 81 }) (va_Pc [.ref hb_, .int (nI row), .int (nI thick)] (kB D vwCl (tyL cI cJ cZ) sz [(hb_, .inr (1, [.ref bo, .ref hz, .int (nI side), .int (nI kf), .int (nI tn), .ref r1, .ref r2, .ref r3, .ref r4])), (bo, .inr (2, [.ref hz, .ref h0])), (h0, .inr (3, [.int (nI side), .ref a1, .ref a2, .ref a3, .ref a4, .int (pI sm)])), (hz, .inr (5, [.ref t1, .ref t2, .ref t3, .ref t4, .int (nI cn)])), (t1, .inl (cI, 8, .inl (fun j => nI (th j)))), (t2, .inl (cI, 8, .inl (fun j => nI (wi j)))), (t3, .inl (cI, 8, .inl (fun j => nI (wo j)))), (t4, .inl (cI, 8, .inl (fun j => nI (wn j)))), (a3, .inl (cI, ((side + 1) * (side + 1)), .inl (fun j => nI (F3 j)))), (a4, .inl (cI, ((side + 1) * (side + 1)), .inl (fun j => nI (F4 j)))), (r3, .inl (cJ, (side + 1), .inr (.inl (fun j => lI (RC j))))), (r4, .inl (cI, side, .inl (fun j => iI (SC j))))])) (va_Ql (fun (r : Int64) (u : (Nat → Int) × (Nat → Int)) => r = lI ((slab0 side kf thick th wi (okC side fb th wi wn tn row) (vaC side fl th wi wo tn row) cn).1 0) ∧ (∀ j, j ≤ side → u.1 j = (slab0 side kf thick th wi (okC side fb th wi wn tn row) (vaC side fl th wi wo tn row) cn).1 j) ∧ ∀ j, j < side → u.2 j = (slab0 side kf thick th wi (okC side fb th wi wn tn row) (vaC side fl th wi wo tn row) cn).2 j) (fun (u : (Nat → Int) × (Nat → Int)) t => kE D vwCl (va_A [(hb_, .inr (1, [.ref bo, .ref hz, .int (nI side), .int (nI kf), .int (nI tn), .ref r1, .ref r2, .ref r3, .ref r4])), (bo, .inr (2, [.ref hz, .ref h0])), (h0, .inr (3, [.int (nI side), .ref a1, .ref a2, .ref a3, .ref a4, .int (pI sm)])), (hz, .inr (5, [.ref t1, .ref t2, .ref t3, .ref t4, .int (nI cn)])), (t1, .inl (cI, 8, .inl (fun j => nI (th j)))), (t2, .inl (cI, 8, .inl (fun j => nI (wi j)))), (t3, .inl (cI, 8, .inl (fun j => nI (wo j)))), (t4, .inl (cI, 8, .inl (fun j => nI (wn j)))), (a3, .inl (cI, ((side + 1) * (side + 1)), .inl (fun j => nI (F3 j)))), (a4, .inl (cI, ((side + 1) * (side + 1)), .inl (fun j => nI (F4 j)))), (r3, .inl (cJ, (side + 1), .inr (.inl (fun j => lI (RC j))))), (r4, .inl (cI, side, .inl (fun j => iI (SC j))))] sz) [(hb_, .inr (1, [.ref bo, .ref hz, .int (nI side), .int (nI kf), .int (nI tn), .ref r1, .ref r2, .ref r3, .ref r4])), (bo, .inr (2, [.ref hz, .ref h0])), (h0, .inr (3, [.int (nI side), .ref a1, .ref a2, .ref a3, .ref a4, .int (pI sm)])), (hz, .inr (5, [.ref t1, .ref t2, .ref t3, .ref t4, .int (nI cn)])), (t1, .inl (cI, 8, .inl (fun j => nI (th j)))), (t2, .inl (cI, 8, .inl (fun j => nI (wi j)))), (t3, .inl (cI, 8, .inl (fun j => nI (wo j)))), (t4, .inl (cI, 8, .inl (fun j => nI (wn j)))), (a3, .inl (cI, ((side + 1) * (side + 1)), .inl (fun j => nI (F3 j)))), (a4, .inl (cI, ((side + 1) * (side + 1)), .inl (fun j => nI (F4 j)))), (r3, .inl (cJ, (side + 1), .inr (.inl (fun j => lI (u.1 j))))), (r4, .inl (cI, side, .inl (fun j => iI (u.2 j))))] t) (va_A [(hb_, .inr (1, [.ref bo, .ref hz, .int (nI side), .int (nI kf), .int (nI tn), .ref r1, .ref r2, .ref r3, .ref r4])), (bo, .inr (2, [.ref hz, .ref h0])), (h0, .inr (3, [.int (nI side), .ref a1, .ref a2, .ref a3, .ref a4, .int (pI sm)])), (hz, .inr (5, [.ref t1, .ref t2, .ref t3, .ref t4, .int (nI cn)])), (t1, .inl (cI, 8, .inl (fun j => nI (th j)))), (t2, .inl (cI, 8, .inl (fun j => nI (wi j)))), (t3, .inl (cI, 8, .inl (fun j => nI (wo j)))), (t4, .inl (cI, 8, .inl (fun j => nI (wn j)))), (a3, .inl (cI, ((side + 1) * (side + 1)), .inl (fun j => nI (F3 j)))), (a4, .inl (cI, ((side + 1) * (side + 1)), .inl (fun j => nI (F4 j)))), (r3, .inl (cJ, (side + 1), .inr (.inl (fun j => lI (RC j))))), (r4, .inl (cI, side, .inl (fun j => iI (SC j))))] sz)) 0 0 (va_A [(hb_, .inr (1, [.ref bo, .ref hz, .int (nI side), .int (nI kf), .int (nI tn), .ref r1, .ref r2, .ref r3, .ref r4])), (bo, .inr (2, [.ref hz, .ref h0])), (h0, .inr (3, [.int (nI side), .ref a1, .ref a2, .ref a3, .ref a4, .int (pI sm)])), (hz, .inr (5, [.ref t1, .ref t2, .ref t3, .ref t4, .int (nI cn)])), (t1, .inl (cI, 8, .inl (fun j => nI (th j)))), (t2, .inl (cI, 8, .inl (fun j => nI (wi j)))), (t3, .inl (cI, 8, .inl (fun j => nI (wo j)))), (t4, .inl (cI, 8, .inl (fun j => nI (wn j)))), (a3, .inl (cI, ((side + 1) * (side + 1)), .inl (fun j => nI (F3 j)))), (a4, .inl (cI, ((side + 1) * (side + 1)), .inl (fun j => nI (F4 j)))), (r3, .inl (cJ, (side + 1), .inr (.inl (fun j => lI (RC j))))), (r4, .inl (cI, side, .inl (fun j => iI (SC j))))] sz) := by
  refine Met.ofW (cc := b_Be_planSlab) (maxL := 4) (ret := (some (.long))) (by decide) rfl ?_
  intro p e s m args below meth c s₁ B hml hv
  obtain ⟨rfl, hsz, hP, hK, hD0, hZ⟩ := hv
  have hx := B.exec
  have hb := B.bytes
  have hr := B.returns
  have hts := atoms_spec (ws := w_Be_planSlab) B.pre
  have hown : s.vm.findClass R_Be = some m.cls := findClass_of_methodNamed B.named
  have hlocks := B.notSynchronized
  subst hsz
  have hD := hD0.self (sz := s.heap.size)
  generalize hAe : va_A [(hb_, .inr (1, [.ref bo, .ref hz, .int (nI side), .int (nI kf), .int (nI tn), .ref r1, .ref r2, .ref r3, .ref r4])), (bo, .inr (2, [.ref hz, .ref h0])), (h0, .inr (3, [.int (nI side), .ref a1, .ref a2, .ref a3, .ref a4, .int (pI sm)])), (hz, .inr (5, [.ref t1, .ref t2, .ref t3, .ref t4, .int (nI cn)])), (t1, .inl (cI, 8, .inl (fun j => nI (th j)))), (t2, .inl (cI, 8, .inl (fun j => nI (wi j)))), (t3, .inl (cI, 8, .inl (fun j => nI (wo j)))), (t4, .inl (cI, 8, .inl (fun j => nI (wn j)))), (a3, .inl (cI, ((side + 1) * (side + 1)), .inl (fun j => nI (F3 j)))), (a4, .inl (cI, ((side + 1) * (side + 1)), .inl (fun j => nI (F4 j)))), (r3, .inl (cJ, (side + 1), .inr (.inl (fun j => lI (RC j))))), (r4, .inl (cI, side, .inl (fun j => iI (SC j))))] s.heap.size = A at hD ⊢
  have hA : ∀ q : Nat, s.heap.size ≤ q → A q := fun q h => by rw [← hAe]; exact Or.inr h
  have hS : va_S A s.heap s.heap [] := va_S.rf
  have hP : va_P D vwCl [(hb_, .inr (1, [.ref bo, .ref hz, .int (nI side), .int (nI kf), .int (nI tn), .ref r1, .ref r2, .ref r3, .ref r4])), (bo, .inr (2, [.ref hz, .ref h0])), (h0, .inr (3, [.int (nI side), .ref a1, .ref a2, .ref a3, .ref a4, .int (pI sm)])), (hz, .inr (5, [.ref t1, .ref t2, .ref t3, .ref t4, .int (nI cn)])), (t1, .inl (cI, 8, .inl (fun j => nI (th j)))), (t2, .inl (cI, 8, .inl (fun j => nI (wi j)))), (t3, .inl (cI, 8, .inl (fun j => nI (wo j)))), (t4, .inl (cI, 8, .inl (fun j => nI (wn j)))), (a3, .inl (cI, ((side + 1) * (side + 1)), .inl (fun j => nI (F3 j)))), (a4, .inl (cI, ((side + 1) * (side + 1)), .inl (fun j => nI (F4 j)))), (r3, .inl (cJ, (side + 1), .inr (.inl (fun j => lI (RC j))))), (r4, .inl (cI, side, .inl (fun j => iI (SC j))))] s.heap := hP
  have hl := lv_entry ([.ref hb_, .int (nI row), .int (nI thick)]) (n := 4) (Nat.le_of_ble_eq_true rfl)
  rw [lg_entry_eq]
  generalize (lg_sl ([.ref hb_, .int (nI row), .int (nI thick)]) ++ List.replicate (4 - (lg_sl ([.ref hb_, .int (nI row), .int (nI thick)])).length) Slot.unset).toArray = ls at hl ⊢
  have hl : lv_has ls 4 [(0, .ref hb_), (1, .int (nI row)), (2, .int (nI thick))] := hl
  refine lv_aload_n hx hb d_Be_planSlab_0 rfl (lv_at hl 0 rfl) ?_
  refine va_get (D := D) (ci := 1) (v := .int (nI side)) (C := R_Be) (T := T_Be) (N := 9) hx hb hts (fun w h => List.mem_cons_of_mem _ (iw_Be w h)) hown hK hP 0 rfl rfl 2 (by decide) (hts _ (List.mem_cons_of_mem _ k_109)) (fun _ h9 => h9) rfl d_Be_planSlab_1 ?_
  refine lv_iconst (v := nI 1) hx hb d_Be_planSlab_4 (by decide +kernel) ?_
  refine lv_isub hx hb d_Be_planSlab_5 ?_
  refine ka_i (y := iI (((side : Nat) : Int) - ((1 : Nat) : Int))) (by rw [iI_of side, iI_of 1]; exact iI_sub _ _) ?_
  refine lv_istore_n (lv' := [(3, .int (iI (((side : Nat) : Int) - ((1 : Nat) : Int)))), (0, .ref hb_), (1, .int (nI row)), (2, .int (nI thick))]) hx hb d_Be_planSlab_6 rfl hl (by decide) rfl (fun ls hl => ?_)
  have lp : ∀ (n : Nat) (d : Nat) (z : Int), (d + n = side) → (z = (side : Int) - 1 - (d : Int)) → ∀ (H : Heap) (locs : List Loc), va_P D vwCl [(hb_, .inr (1, [.ref bo, .ref hz, .int (nI side), .int (nI kf), .int (nI tn), .ref r1, .ref r2, .ref r3, .ref r4])), (bo, .inr (2, [.ref hz, .ref h0])), (h0, .inr (3, [.int (nI side), .ref a1, .ref a2, .ref a3, .ref a4, .int (pI sm)])), (hz, .inr (5, [.ref t1, .ref t2, .ref t3, .ref t4, .int (nI cn)])), (t1, .inl (cI, 8, .inl (fun j => nI (th j)))), (t2, .inl (cI, 8, .inl (fun j => nI (wi j)))), (t3, .inl (cI, 8, .inl (fun j => nI (wo j)))), (t4, .inl (cI, 8, .inl (fun j => nI (wn j)))), (a3, .inl (cI, ((side + 1) * (side + 1)), .inl (fun j => nI (F3 j)))), (a4, .inl (cI, ((side + 1) * (side + 1)), .inl (fun j => nI (F4 j)))), (r3, .inl (cJ, (side + 1), .inr (.inl (fun j => lI (((slabT side kf thick th wi (okC side fb th wi wn tn row) (vaC side fl th wi wo tn row) cn RC SC d).1) j))))), (r4, .inl (cI, side, .inl (fun j => iI (((slabT side kf thick th wi (okC side fb th wi wn tn row) (vaC side fl th wi wo tn row) cn RC SC d).2) j))))] H → va_D A [(hb_, .inr (1, [.ref bo, .ref hz, .int (nI side), .int (nI kf), .int (nI tn), .ref r1, .ref r2, .ref r3, .ref r4])), (bo, .inr (2, [.ref hz, .ref h0])), (h0, .inr (3, [.int (nI side), .ref a1, .ref a2, .ref a3, .ref a4, .int (pI sm)])), (hz, .inr (5, [.ref t1, .ref t2, .ref t3, .ref t4, .int (nI cn)])), (t1, .inl (cI, 8, .inl (fun j => nI (th j)))), (t2, .inl (cI, 8, .inl (fun j => nI (wi j)))), (t3, .inl (cI, 8, .inl (fun j => nI (wo j)))), (t4, .inl (cI, 8, .inl (fun j => nI (wn j)))), (a3, .inl (cI, ((side + 1) * (side + 1)), .inl (fun j => nI (F3 j)))), (a4, .inl (cI, ((side + 1) * (side + 1)), .inl (fun j => nI (F4 j)))), (r3, .inl (cJ, (side + 1), .inr (.inl (fun j => lI (((slabT side kf thick th wi (okC side fb th wi wn tn row) (vaC side fl th wi wo tn row) cn RC SC d).1) j))))), (r4, .inl (cI, side, .inl (fun j => iI (((slabT side kf thick th wi (okC side fb th wi wn tn row) (vaC side fl th wi wo tn row) cn RC SC d).2) j))))] → va_S A s.heap H locs → ∀ ls : Array Slot, lv_has ls 4 [(3, .int (iI z)), (0, .ref hb_), (1, .int (nI row)), (2, .int (nI thick))] → W p l e (headSpec w_Be_planSlab ({ frames := 3, cells := 0, slots := 0, locals := 81 })).room s m ([.ref hb_, .int (nI row), .int (nI thick)]).toArray below meth c H locs 0 0 (MQ below (va_Ql (fun (r : Int64) (u : (Nat → Int) × (Nat → Int)) => r = lI ((slab0 side kf thick th wi (okC side fb th wi wn tn row) (vaC side fl th wi wo tn row) cn).1 0) ∧ (∀ j, j ≤ side → u.1 j = (slab0 side kf thick th wi (okC side fb th wi wn tn row) (vaC side fl th wi wo tn row) cn).1 j) ∧ ∀ j, j < side → u.2 j = (slab0 side kf thick th wi (okC side fb th wi wn tn row) (vaC side fl th wi wo tn row) cn).2 j) (fun (u : (Nat → Int) × (Nat → Int)) t => kE D vwCl A [(hb_, .inr (1, [.ref bo, .ref hz, .int (nI side), .int (nI kf), .int (nI tn), .ref r1, .ref r2, .ref r3, .ref r4])), (bo, .inr (2, [.ref hz, .ref h0])), (h0, .inr (3, [.int (nI side), .ref a1, .ref a2, .ref a3, .ref a4, .int (pI sm)])), (hz, .inr (5, [.ref t1, .ref t2, .ref t3, .ref t4, .int (nI cn)])), (t1, .inl (cI, 8, .inl (fun j => nI (th j)))), (t2, .inl (cI, 8, .inl (fun j => nI (wi j)))), (t3, .inl (cI, 8, .inl (fun j => nI (wo j)))), (t4, .inl (cI, 8, .inl (fun j => nI (wn j)))), (a3, .inl (cI, ((side + 1) * (side + 1)), .inl (fun j => nI (F3 j)))), (a4, .inl (cI, ((side + 1) * (side + 1)), .inl (fun j => nI (F4 j)))), (r3, .inl (cJ, (side + 1), .inr (.inl (fun j => lI (u.1 j))))), (r4, .inl (cI, side, .inl (fun j => iI (u.2 j))))] t) A) ([.ref hb_, .int (nI row), .int (nI thick)]).toArray s 0 0 A) (F0 m 7 ls []) := by
    intro n
    induction n with
    | zero =>
      intro d z hi ez H locs hP hD hS ls hl
      refine lv_iload_n hx hb d_Be_planSlab_7 rfl (lv_at hl 0 rfl) ?_
      refine kb_lt (tgt := 24) (iI_t (by omega) (by omega)) hx hb d_Be_planSlab_8 (by decide) (fun c_8 => ?_) (fun c_8 => ?_)
      · have ed : side = d := by omega
        subst ed
        refine lv_aload_n hx hb d_Be_planSlab_24 rfl (lv_at hl 1 rfl) ?_
        refine va_get (D := D) (ci := 1) (v := .ref r3) (C := R_Be) (T := T_Be) (N := 9) hx hb hts (fun w h => List.mem_cons_of_mem _ (iw_Be w h)) hown hK hP 0 rfl rfl 7 (by decide) (hts _ (List.mem_cons_of_mem _ k_114)) (fun _ h9 => h9) rfl d_Be_planSlab_25 ?_
        refine lv_iconst (v := nI 0) hx hb d_Be_planSlab_28 (by decide +kernel) ?_
        refine ka_lald (k := 0) (n := (side + 1)) (f := fun j => lI (((slabT side kf thick th wi (okC side fb th wi wn tn row) (vaC side fl th wi wo tn row) cn RC SC side).1) j)) (nI_t (by omega)) (by omega) hx hb hK hP 10 1 rfl rfl d_Be_planSlab_29 ?_
        have qs := slabT_same (kf := kf) (thick := thick) (th := th) (wi := wi) (ok := (okC side fb th wi wn tn row)) (va := (vaC side fl th wi wo tn row)) (cn := cn) (RC := RC) (SC := SC) (RC' := fun _ => 0) (SC' := fun _ => 0) hR0 hw1 side (Nat.le_refl _)
        exact kretl (u := ((slabT side kf thick th wi (okC side fb th wi wn tn row) (vaC side fl th wi wo tn row) cn RC SC side).1, (slabT side kf thick th wi (okC side fb th wi wn tn row) (vaC side fl th wi wo tn row) cn RC SC side).2)) hx hb hr hP hD hS hlocks rfl (⟨congrArg lI (qs.1 0 (by omega) (by omega)), fun j hj => qs.1 j (by omega) hj, fun j hj => qs.2 j (by omega) hj⟩) d_Be_planSlab_30
      · exfalso; omega
    | succ n ih =>
      intro d z hi ez H locs hP hD hS ls hl
      refine lv_iload_n hx hb d_Be_planSlab_7 rfl (lv_at hl 0 rfl) ?_
      refine kb_lt (tgt := 24) (iI_t (by omega) (by omega)) hx hb d_Be_planSlab_8 (by decide) (fun c_8 => ?_) (fun c_8 => ?_)
      · exfalso; omega
      · refine lv_aload_n hx hb d_Be_planSlab_11 rfl (lv_at hl 1 rfl) ?_
        refine lv_iload_n hx hb d_Be_planSlab_12 rfl (lv_at hl 2 rfl) ?_
        refine lv_iload_n hx hb d_Be_planSlab_13 rfl (lv_at hl 0 rfl) ?_
        refine ka_i (y := nI (side - 1 - d)) (iI_eqn (by omega)) ?_
        refine lv_iload_n hx hb d_Be_planSlab_14 rfl (lv_at hl 3 rfl) ?_
        refine kcallv (wc := [(hb_, .inr (1, [.ref bo, .ref hz, .int (nI side), .int (nI kf), .int (nI tn), .ref r1, .ref r2, .ref r3, .ref r4])), (bo, .inr (2, [.ref hz, .ref h0])), (h0, .inr (3, [.int (nI side), .ref a1, .ref a2, .ref a3, .ref a4, .int (pI sm)])), (hz, .inr (5, [.ref t1, .ref t2, .ref t3, .ref t4, .int (nI cn)])), (t1, .inl (cI, 8, .inl (fun j => nI (th j)))), (t2, .inl (cI, 8, .inl (fun j => nI (wi j)))), (t3, .inl (cI, 8, .inl (fun j => nI (wo j)))), (t4, .inl (cI, 8, .inl (fun j => nI (wn j)))), (a3, .inl (cI, ((side + 1) * (side + 1)), .inl (fun j => nI (F3 j)))), (a4, .inl (cI, ((side + 1) * (side + 1)), .inl (fun j => nI (F4 j)))), (r3, .inl (cJ, (side + 1), .inr (.inl (fun j => lI (((slabT side kf thick th wi (okC side fb th wi wn tn row) (vaC side fl th wi wo tn row) cn RC SC d).1) j))))), (r4, .inl (cI, side, .inl (fun j => iI (((slabT side kf thick th wi (okC side fb th wi wn tn row) (vaC side fl th wi wo tn row) cn RC SC d).2) j))))]) (wr := []) [0, 1, 2, 3, 4, 5, 6, 7, 8, 9, 10, 11] [] (va_runV (As := [.int (nI row), .int (nI (side - 1 - d)), .int (nI thick)]) (rest := []) ⟨hx, hb, hml, hown, hts⟩ (c_planColumn l D cI cJ cZ H.size hb_ bo hz side kf tn r1 r2 r3 r4 h0 a1 a2 a3 a4 sm t1 t2 t3 t4 cn th wi wo wn F3 F4 fb fl ((slabT side kf thick th wi (okC side fb th wi wn tn row) (vaC side fl th wi wo tn row) cn RC SC d).1) ((slabT side kf thick th wi (okC side fb th wi wn tn row) (vaC side fl th wi wo tn row) cn RC SC d).2) row (side - 1 - d) thick s1 s2 k4 tn1 n8 ht hw hw1 ho hn m3 m4 hfb hfl (by omega) (by omega) (by omega) (fun j h3 h4 => slabT_bd hR0 hw1 (fun c_ i hi => vaC_bd (ho i (by omega))) d (by omega) j (by omega) h4)) ⟨callB_of 3 hts (gd kc_Be_planColumn) rfl rfl rfl (hts _ (List.mem_cons_of_mem _ k_6)) (hts _ (List.mem_cons_of_mem _ k_228)) (by decide +kernel) ⟨Nat.le_of_ble_eq_true rfl, Nat.le_of_ble_eq_true rfl⟩, hts _ (List.mem_cons_of_mem _ k_230), hts _ (List.mem_cons_of_mem _ ks_3)⟩ ⟨kB_blind, va_recv hK hP (ci := 1) (q0 := 0) rfl rfl, kB_at hP hD hK hZ [0, 1, 2, 3, 4, 5, 6, 7, 8, 9, 10, 11] rfl (by decide) rfl⟩ rfl rfl hl.1 rfl (lv_room (Nat.le_of_ble_eq_true rfl)) d_Be_planSlab_15 ⟨Nat.zero_le _, Nat.zero_le _⟩) hP hD hS hA rfl rfl (by decide) (by decide) (fun _ H locs hw_15 hP hD hS => ?_)
        have hP : va_P D vwCl [(hb_, .inr (1, [.ref bo, .ref hz, .int (nI side), .int (nI kf), .int (nI tn), .ref r1, .ref r2, .ref r3, .ref r4])), (bo, .inr (2, [.ref hz, .ref h0])), (h0, .inr (3, [.int (nI side), .ref a1, .ref a2, .ref a3, .ref a4, .int (pI sm)])), (hz, .inr (5, [.ref t1, .ref t2, .ref t3, .ref t4, .int (nI cn)])), (t1, .inl (cI, 8, .inl (fun j => nI (th j)))), (t2, .inl (cI, 8, .inl (fun j => nI (wi j)))), (t3, .inl (cI, 8, .inl (fun j => nI (wo j)))), (t4, .inl (cI, 8, .inl (fun j => nI (wn j)))), (a3, .inl (cI, ((side + 1) * (side + 1)), .inl (fun j => nI (F3 j)))), (a4, .inl (cI, ((side + 1) * (side + 1)), .inl (fun j => nI (F4 j)))), (r3, .inl (cJ, (side + 1), .inr (.inl (fun j => lI ((va_up ((slabT side kf thick th wi (okC side fb th wi wn tn row) (vaC side fl th wi wo tn row) cn RC SC d).1) (side - 1 - d) (colFold ((slabT side kf thick th wi (okC side fb th wi wn tn row) (vaC side fl th wi wo tn row) cn RC SC d).1) side kf (side - 1 - d) thick th wi (okC side fb th wi wn tn row (side - 1 - d)) (vaC side fl th wi wo tn row (side - 1 - d)) cn).1) j))))), (r4, .inl (cI, side, .inl (fun j => iI ((va_up ((slabT side kf thick th wi (okC side fb th wi wn tn row) (vaC side fl th wi wo tn row) cn RC SC d).2) (side - 1 - d) (colFold ((slabT side kf thick th wi (okC side fb th wi wn tn row) (vaC side fl th wi wo tn row) cn RC SC d).1) side kf (side - 1 - d) thick th wi (okC side fb th wi wn tn row (side - 1 - d)) (vaC side fl th wi wo tn row (side - 1 - d)) cn).2) j))))] H := hP
        have hD : va_D A [(hb_, .inr (1, [.ref bo, .ref hz, .int (nI side), .int (nI kf), .int (nI tn), .ref r1, .ref r2, .ref r3, .ref r4])), (bo, .inr (2, [.ref hz, .ref h0])), (h0, .inr (3, [.int (nI side), .ref a1, .ref a2, .ref a3, .ref a4, .int (pI sm)])), (hz, .inr (5, [.ref t1, .ref t2, .ref t3, .ref t4, .int (nI cn)])), (t1, .inl (cI, 8, .inl (fun j => nI (th j)))), (t2, .inl (cI, 8, .inl (fun j => nI (wi j)))), (t3, .inl (cI, 8, .inl (fun j => nI (wo j)))), (t4, .inl (cI, 8, .inl (fun j => nI (wn j)))), (a3, .inl (cI, ((side + 1) * (side + 1)), .inl (fun j => nI (F3 j)))), (a4, .inl (cI, ((side + 1) * (side + 1)), .inl (fun j => nI (F4 j)))), (r3, .inl (cJ, (side + 1), .inr (.inl (fun j => lI ((va_up ((slabT side kf thick th wi (okC side fb th wi wn tn row) (vaC side fl th wi wo tn row) cn RC SC d).1) (side - 1 - d) (colFold ((slabT side kf thick th wi (okC side fb th wi wn tn row) (vaC side fl th wi wo tn row) cn RC SC d).1) side kf (side - 1 - d) thick th wi (okC side fb th wi wn tn row (side - 1 - d)) (vaC side fl th wi wo tn row (side - 1 - d)) cn).1) j))))), (r4, .inl (cI, side, .inl (fun j => iI ((va_up ((slabT side kf thick th wi (okC side fb th wi wn tn row) (vaC side fl th wi wo tn row) cn RC SC d).2) (side - 1 - d) (colFold ((slabT side kf thick th wi (okC side fb th wi wn tn row) (vaC side fl th wi wo tn row) cn RC SC d).1) side kf (side - 1 - d) thick th wi (okC side fb th wi wn tn row (side - 1 - d)) (vaC side fl th wi wo tn row (side - 1 - d)) cn).2) j))))] := hD
        refine lv_iinc (v := iI (z + (-1))) (lv' := [(3, .int (iI (z + (-1)))), (0, .ref hb_), (1, .int (nI row)), (2, .int (nI thick))]) hx hb d_Be_planSlab_18 hl (k := 0) rfl (iI_add _ _) (by decide) rfl (fun ls hl => ?_)
        refine lv_goto (tgt := 7) hx hb d_Be_planSlab_21 (by decide) ?_
        exact ih (d + 1) (z + (-1)) (by omega) (by omega) _ _ hP hD hS ls (lv_sub hl [0, 1, 2, 3] rfl)
  exact lp side 0 (((side : Nat) : Int) - ((1 : Nat) : Int)) (by omega) (by omega) _ _ hP hD hS ls (lv_sub hl [0, 1, 2, 3] rfl)
end
section
theorem d_Be_planRow_0 : decode b_Be_planRow 0 = .ok (.aload_n 0, 1) := by decide +kernel
theorem d_Be_planRow_1 : decode b_Be_planRow 1 = .ok (.getfield 29, 3) := by decide +kernel
theorem d_Be_planRow_4 : decode b_Be_planRow 4 = .ok (.iload_n 1, 1) := by decide +kernel
theorem d_Be_planRow_5 : decode b_Be_planRow 5 = .ok (.iconst 1, 1) := by decide +kernel
theorem d_Be_planRow_6 : decode b_Be_planRow 6 = .ok (.iadd, 1) := by decide +kernel
theorem d_Be_planRow_7 : decode b_Be_planRow 7 = .ok (.laload, 1) := by decide +kernel
theorem d_Be_planRow_8 : decode b_Be_planRow 8 = .ok (.lstore_n 2, 1) := by decide +kernel
theorem d_Be_planRow_9 : decode b_Be_planRow 9 = .ok (.iconst 0, 1) := by decide +kernel
theorem d_Be_planRow_10 : decode b_Be_planRow 10 = .ok (.istore 4, 2) := by decide +kernel
theorem d_Be_planRow_12 : decode b_Be_planRow 12 = .ok (.iconst 1, 1) := by decide +kernel
theorem d_Be_planRow_13 : decode b_Be_planRow 13 = .ok (.istore 5, 2) := by decide +kernel
theorem d_Be_planRow_15 : decode b_Be_planRow 15 = .ok (.iload 5, 2) := by decide +kernel
theorem d_Be_planRow_17 : decode b_Be_planRow 17 = .ok (.aload_n 0, 1) := by decide +kernel
theorem d_Be_planRow_18 : decode b_Be_planRow 18 = .ok (.getfield 22, 3) := by decide +kernel
theorem d_Be_planRow_21 : decode b_Be_planRow 21 = .ok (.iload_n 1, 1) := by decide +kernel
theorem d_Be_planRow_22 : decode b_Be_planRow 22 = .ok (.isub, 1) := by decide +kernel
theorem d_Be_planRow_23 : decode b_Be_planRow 23 = .ok (.if_icmp .gt 93, 3) := by decide +kernel
theorem d_Be_planRow_26 : decode b_Be_planRow 26 = .ok (.aload_n 0, 1) := by decide +kernel
theorem d_Be_planRow_27 : decode b_Be_planRow 27 = .ok (.getfield 21, 3) := by decide +kernel
theorem d_Be_planRow_30 : decode b_Be_planRow 30 = .ok (.iload 5, 2) := by decide +kernel
theorem d_Be_planRow_32 : decode b_Be_planRow 32 = .ok (.invokevirtual 52, 3) := by decide +kernel
theorem d_Be_planRow_35 : decode b_Be_planRow 35 = .ok (.ifCond .eq 13, 3) := by decide +kernel
theorem d_Be_planRow_38 : decode b_Be_planRow 38 = .ok (.aload_n 0, 1) := by decide +kernel
theorem d_Be_planRow_39 : decode b_Be_planRow 39 = .ok (.iload_n 1, 1) := by decide +kernel
theorem d_Be_planRow_40 : decode b_Be_planRow 40 = .ok (.iload 5, 2) := by decide +kernel
theorem d_Be_planRow_42 : decode b_Be_planRow 42 = .ok (.invokevirtual 58, 3) := by decide +kernel
theorem d_Be_planRow_45 : decode b_Be_planRow 45 = .ok (.goto 4, 3) := by decide +kernel
theorem d_Be_planRow_48 : decode b_Be_planRow 48 = .ok (.lconst 0, 1) := by decide +kernel
theorem d_Be_planRow_49 : decode b_Be_planRow 49 = .ok (.lstore 6, 2) := by decide +kernel
theorem d_Be_planRow_51 : decode b_Be_planRow 51 = .ok (.lload 6, 2) := by decide +kernel
theorem d_Be_planRow_53 : decode b_Be_planRow 53 = .ok (.aload_n 0, 1) := by decide +kernel
theorem d_Be_planRow_54 : decode b_Be_planRow 54 = .ok (.getfield 29, 3) := by decide +kernel
theorem d_Be_planRow_57 : decode b_Be_planRow 57 = .ok (.aload_n 0, 1) := by decide +kernel
theorem d_Be_planRow_58 : decode b_Be_planRow 58 = .ok (.getfield 22, 3) := by decide +kernel
theorem d_Be_planRow_61 : decode b_Be_planRow 61 = .ok (.iload_n 1, 1) := by decide +kernel
theorem d_Be_planRow_62 : decode b_Be_planRow 62 = .ok (.iload 5, 2) := by decide +kernel
theorem d_Be_planRow_64 : decode b_Be_planRow 64 = .ok (.iadd, 1) := by decide +kernel
theorem d_Be_planRow_65 : decode b_Be_planRow 65 = .ok (.aload_n 0, 1) := by decide +kernel
theorem d_Be_planRow_66 : decode b_Be_planRow 66 = .ok (.getfield 26, 3) := by decide +kernel
theorem d_Be_planRow_69 : decode b_Be_planRow 69 = .ok (.iadd, 1) := by decide +kernel
theorem d_Be_planRow_70 : decode b_Be_planRow 70 = .ok (.invokestatic 62, 3) := by decide +kernel
theorem d_Be_planRow_73 : decode b_Be_planRow 73 = .ok (.laload, 1) := by decide +kernel
theorem d_Be_planRow_74 : decode b_Be_planRow 74 = .ok (.ladd, 1) := by decide +kernel
theorem d_Be_planRow_75 : decode b_Be_planRow 75 = .ok (.lstore 8, 2) := by decide +kernel
theorem d_Be_planRow_77 : decode b_Be_planRow 77 = .ok (.lload 6, 2) := by decide +kernel
theorem d_Be_planRow_79 : decode b_Be_planRow 79 = .ok (.lconst 0, 1) := by decide +kernel
theorem d_Be_planRow_80 : decode b_Be_planRow 80 = .ok (.lcmp, 1) := by decide +kernel
theorem d_Be_planRow_81 : decode b_Be_planRow 81 = .ok (.ifCond .le 29, 3) := by decide +kernel
theorem d_Be_planRow_84 : decode b_Be_planRow 84 = .ok (.lload 8, 2) := by decide +kernel
theorem d_Be_planRow_86 : decode b_Be_planRow 86 = .ok (.lload_n 2, 1) := by decide +kernel
theorem d_Be_planRow_87 : decode b_Be_planRow 87 = .ok (.lcmp, 1) := by decide +kernel
theorem d_Be_planRow_88 : decode b_Be_planRow 88 = .ok (.ifCond .gt 15, 3) := by decide +kernel
theorem d_Be_planRow_91 : decode b_Be_planRow 91 = .ok (.lload 8, 2) := by decide +kernel
theorem d_Be_planRow_93 : decode b_Be_planRow 93 = .ok (.lload_n 2, 1) := by decide +kernel
theorem d_Be_planRow_94 : decode b_Be_planRow 94 = .ok (.lcmp, 1) := by decide +kernel
theorem d_Be_planRow_95 : decode b_Be_planRow 95 = .ok (.ifCond .ne 15, 3) := by decide +kernel
theorem d_Be_planRow_98 : decode b_Be_planRow 98 = .ok (.iload 4, 2) := by decide +kernel
theorem d_Be_planRow_100 : decode b_Be_planRow 100 = .ok (.ifCond .ne 10, 3) := by decide +kernel
theorem d_Be_planRow_103 : decode b_Be_planRow 103 = .ok (.lload 8, 2) := by decide +kernel
theorem d_Be_planRow_105 : decode b_Be_planRow 105 = .ok (.lstore_n 2, 1) := by decide +kernel
theorem d_Be_planRow_106 : decode b_Be_planRow 106 = .ok (.iload 5, 2) := by decide +kernel
theorem d_Be_planRow_108 : decode b_Be_planRow 108 = .ok (.istore 4, 2) := by decide +kernel
theorem d_Be_planRow_110 : decode b_Be_planRow 110 = .ok (.iinc 5 1, 3) := by decide +kernel
theorem d_Be_planRow_113 : decode b_Be_planRow 113 = .ok (.goto (-98), 3) := by decide +kernel
theorem d_Be_planRow_116 : decode b_Be_planRow 116 = .ok (.aload_n 0, 1) := by decide +kernel
theorem d_Be_planRow_117 : decode b_Be_planRow 117 = .ok (.getfield 29, 3) := by decide +kernel
theorem d_Be_planRow_120 : decode b_Be_planRow 120 = .ok (.iload_n 1, 1) := by decide +kernel
theorem d_Be_planRow_121 : decode b_Be_planRow 121 = .ok (.lload_n 2, 1) := by decide +kernel
theorem d_Be_planRow_122 : decode b_Be_planRow 122 = .ok (.lastore, 1) := by decide +kernel
theorem d_Be_planRow_123 : decode b_Be_planRow 123 = .ok (.aload_n 0, 1) := by decide +kernel
theorem d_Be_planRow_124 : decode b_Be_planRow 124 = .ok (.getfield 33, 3) := by decide +kernel
theorem d_Be_planRow_127 : decode b_Be_planRow 127 = .ok (.iload_n 1, 1) := by decide +kernel
theorem d_Be_planRow_128 : decode b_Be_planRow 128 = .ok (.iload 4, 2) := by decide +kernel
theorem d_Be_planRow_130 : decode b_Be_planRow 130 = .ok (.iastore, 1) := by decide +kernel
theorem d_Be_planRow_131 : decode b_Be_planRow 131 = .ok (.return_, 1) := by decide +kernel
theorem slab0_bd {side kf thick : Nat} {th wi : Nat → Nat} {ok : Nat → Nat → Prop} {va : Nat → Nat → Int} {cn : Nat} (hw : ∀ i, i < cn → 1 ≤ wi i) (hv : ∀ c i, i < cn → 0 ≤ va c i ∧ va c i ≤ 100001) (hs : side ≤ 20) : 0 ≤ (slab0 side kf thick th wi ok va cn).1 0 ∧ (slab0 side kf thick th wi ok va cn).1 0 ≤ 2000020000 := by
  have h := slabT_bd (kf := kf) (thick := thick) (th := th) (wi := wi) (ok := ok) (va := va) (cn := cn) (RC := fun _ => 0) (SC := fun _ => 0) (side := side) rfl hw hv side (Nat.le_refl _) 0 (by omega) (by omega)
  unfold slab0
  omega
/-- the rank of a slab of a thickness at a row: 0 if no size has it -/
noncomputable def sbR (side kf : Nat) (th wi : Nat → Nat) (ok : Nat → Nat → Prop) (va : Nat → Nat → Int) (cn thick : Nat) : Int := cif (∃ k, k < cn ∧ th k = thick) ((slab0 side kf thick th wi ok va cn).1 0) 0
theorem sbR_bd {side kf thick : Nat} {th wi : Nat → Nat} {ok : Nat → Nat → Prop} {va : Nat → Nat → Int} {cn : Nat} (hw : ∀ i, i < cn → 1 ≤ wi i) (hv : ∀ c i, i < cn → 0 ≤ va c i ∧ va c i ≤ 100001) (hs : side ≤ 20) : 0 ≤ sbR side kf th wi ok va cn thick ∧ sbR side kf th wi ok va cn thick ≤ 2000020000 := by
  unfold sbR
  by_cases h : ∃ k, k < cn ∧ th k = thick
  · rw [cif_t h]; exact slab0_bd hw hv hs
  · rw [cif_f h]; omega
noncomputable def rowStep (RR : Nat → Int) (side kf row : Nat) (sb : Nat → Int) (thick : Nat) (b : Int × Nat) : Int × Nat :=
  cif (0 < sb thick ∧ (b.1 < sb thick + RR (min side (row + thick + kf)) ∨ (sb thick + RR (min side (row + thick + kf)) = b.1 ∧ b.2 = 0))) (sb thick + RR (min side (row + thick + kf)), thick) b
noncomputable def rowFold (RR : Nat → Int) (side kf row : Nat) (sb : Nat → Int) : Nat → Int × Nat
  | 0 => (RR (row + 1), 0)
  | k + 1 => rowStep RR side kf row sb (k + 1) (rowFold RR side kf row sb k)
theorem rowFold_bd {RR : Nat → Int} {side kf row : Nat} {sb : Nat → Int} (hr : row < side) (hb : ∀ t, 0 ≤ sb t ∧ sb t ≤ 2000020000) (hR : ∀ j, row < j → j ≤ side → 0 ≤ RR j ∧ RR j ≤ 2000020000 * ((side - j : Nat) : Int)) : ∀ (k : Nat), k ≤ side - row → 0 ≤ (rowFold RR side kf row sb k).1 ∧ (rowFold RR side kf row sb k).1 ≤ 2000020000 * ((side - row : Nat) : Int) ∧ (rowFold RR side kf row sb k).2 ≤ k := by
  intro k
  induction k with
  | zero =>
    intro _
    have h := hR (row + 1) (by omega) (by omega)
    show 0 ≤ RR (row + 1) ∧ RR (row + 1) ≤ _ ∧ (0 : Nat) ≤ 0
    omega
  | succ k ih =>
    intro hk
    obtain ⟨i1, i2, i3⟩ := ih (by omega)
    have h := hR (min side (row + (k + 1) + kf)) (by omega) (by omega)
    have h9 := hb (k + 1)
    show 0 ≤ (rowStep RR side kf row sb (k + 1) _).1 ∧ (rowStep RR side kf row sb (k + 1) _).1 ≤ _ ∧ (rowStep RR side kf row sb (k + 1) _).2 ≤ _
    unfold rowStep
    by_cases q : 0 < sb (k + 1) ∧ ((rowFold RR side kf row sb k).1 < sb (k + 1) + RR (min side (row + (k + 1) + kf)) ∨ (sb (k + 1) + RR (min side (row + (k + 1) + kf)) = (rowFold RR side kf row sb k).1 ∧ (rowFold RR side kf row sb k).2 = 0))
    · rw [cif_t q]
      dsimp only
      omega
    · rw [cif_f q]
      omega
theorem rowFold_congr {RR RR' : Nat → Int} {side kf row : Nat} {sb : Nat → Int} (hr : row < side) (h : ∀ j, row < j → j ≤ side → RR j = RR' j) : ∀ (k : Nat), k ≤ side - row → rowFold RR side kf row sb k = rowFold RR' side kf row sb k := by
  intro k
  induction k with
  | zero => intro _; show (RR (row + 1), 0) = (RR' (row + 1), 0); rw [h _ (by omega) (by omega)]
  | succ k ih =>
    intro hk
    show rowStep RR side kf row sb (k + 1) _ = rowStep RR' side kf row sb (k + 1) _
    rw [ih (by omega)]
    unfold rowStep
    rw [h (min side (row + (k + 1) + kf)) (by omega) (by omega)]
/-- a turn's tables, d rows from the last one on -/
noncomputable def planT (side kf : Nat) (sb : Nat → Nat → Int) (RR : Nat → Int) (TR : Nat → Nat) : Nat → (Nat → Int) × (Nat → Nat)
  | 0 => (RR, TR)
  | d + 1 => (va_up (planT side kf sb RR TR d).1 (side - 1 - d) (rowFold (planT side kf sb RR TR d).1 side kf (side - 1 - d) (sb (side - 1 - d)) (side - (side - 1 - d))).1,
      va_up (planT side kf sb RR TR d).2 (side - 1 - d) (rowFold (planT side kf sb RR TR d).1 side kf (side - 1 - d) (sb (side - 1 - d)) (side - (side - 1 - d))).2)
theorem planT_bd {side kf : Nat} {sb : Nat → Nat → Int} {RR : Nat → Int} {TR : Nat → Nat} (h0 : RR side = 0) (hb : ∀ r t, 0 ≤ sb r t ∧ sb r t ≤ 2000020000) : ∀ (d : Nat), d ≤ side → (∀ j, side - d ≤ j → j ≤ side → 0 ≤ (planT side kf sb RR TR d).1 j ∧ (planT side kf sb RR TR d).1 j ≤ 2000020000 * ((side - j : Nat) : Int)) ∧ ∀ j, side - d ≤ j → j < side → (planT side kf sb RR TR d).2 j ≤ side - j := by
  intro d
  induction d with
  | zero =>
    intro _
    refine ⟨fun j h1 h2 => ?_, fun j h1 h2 => absurd h2 (by omega)⟩
    have e : j = side := by omega
    subst e
    show 0 ≤ RR j ∧ RR j ≤ _
    rw [h0]
    omega
  | succ d ih =>
    intro hd
    obtain ⟨i1, i2⟩ := ih (by omega)
    have k := rowFold_bd (kf := kf) (show side - 1 - d < side by omega) (hb (side - 1 - d)) (fun j h3 h4 => i1 j (by omega) h4) (side - (side - 1 - d)) (Nat.le_refl _)
    refine ⟨fun j h1 h2 => ?_, fun j h1 h2 => ?_⟩
    · show 0 ≤ va_up _ (side - 1 - d) _ j ∧ va_up _ (side - 1 - d) _ j ≤ _
      by_cases e : j = side - 1 - d
      · rw [e, va_up_self]; exact ⟨k.1, k.2.1⟩
      · rw [va_up_ne _ _ e]; exact i1 j (by omega) h2
    · show va_up _ (side - 1 - d) _ j ≤ _
      by_cases e : j = side - 1 - d
      · rw [e, va_up_self]; exact k.2.2
      · rw [va_up_ne _ _ e]; exact i2 j (by omega) h2
theorem planT_same {side kf : Nat} {sb : Nat → Nat → Int} {RR RR' : Nat → Int} {TR TR' : Nat → Nat} (h0 : RR side = RR' side) : ∀ (d : Nat), d ≤ side → (∀ j, side - d ≤ j → j ≤ side → (planT side kf sb RR TR d).1 j = (planT side kf sb RR' TR' d).1 j) ∧ ∀ j, side - d ≤ j → j < side → (planT side kf sb RR TR d).2 j = (planT side kf sb RR' TR' d).2 j := by
  intro d
  induction d with
  | zero =>
    intro _
    refine ⟨fun j h1 h2 => ?_, fun j h1 h2 => absurd h2 (by omega)⟩
    have e : j = side := by omega
    subst e
    exact h0
  | succ d ih =>
    intro hd
    obtain ⟨i1, i2⟩ := ih (by omega)
    have ec := rowFold_congr (kf := kf) (sb := sb (side - 1 - d)) (show side - 1 - d < side by omega) (fun j h3 h4 => i1 j (by omega) h4) (side - (side - 1 - d)) (Nat.le_refl _)
    refine ⟨fun j h1 h2 => ?_, fun j h1 h2 => ?_⟩
    · show va_up _ (side - 1 - d) _ j = va_up _ (side - 1 - d) _ j
      by_cases e : j = side - 1 - d
      · rw [e, va_up_self, va_up_self, ec]
      · rw [va_up_ne _ _ e, va_up_ne _ _ e]; exact i1 j (by omega) h2
    · show va_up _ (side - 1 - d) _ j = va_up _ (side - 1 - d) _ j
      by_cases e : j = side - 1 - d
      · rw [e, va_up_self, va_up_self, ec]
      · rw [va_up_ne _ _ e, va_up_ne _ _ e]; exact i2 j (by omega) h2
set_option maxHeartbeats 4000000 in
set_option maxRecDepth 100000 in
theorem c_planRow (l : Launch) (D : va_G) (cI cJ cZ : ClassId) (sz : Nat) (hb_ : Nat) (bo : Nat) (hz : Nat) (side : Nat) (kf : Nat) (tn : Nat) (r1 : Nat) (r2 : Nat) (r3 : Nat) (r4 : Nat) (h0 : Nat) (a1 : Nat) (a2 : Nat) (a3 : Nat) (a4 : Nat) (sm : Prop) (t1 : Nat) (t2 : Nat) (t3 : Nat) (t4 : Nat) (cn : Nat) (th : Nat → Nat) (wi : Nat → Nat) (wo : Nat → Nat) (wn : Nat → Nat) (F3 : Nat → Nat) (F4 : Nat → Nat) (fb : Nat → Nat → Nat) (fl : Nat → Nat → Nat) (RR : Nat → Int) (TR : Nat → Nat) (RC : Nat → Int) (SC : Nat → Int) (row : Nat) (s1 : 1 ≤ side) (s2 : side ≤ 20) (k4 : kf ≤ 4) (tn1 : tn ≤ 1) (n8 : cn ≤ 8) (ht : ∀ k, k < 8 → th k ≤ 20) (hw : ∀ k, k < 8 → wi k ≤ 20) (hw1 : ∀ k, k < cn → 1 ≤ wi k) (ho : ∀ k, k < 8 → wo k ≤ 100000) (hn : ∀ k, k < 8 → wn k ≤ 400) (m3 : ∀ X Y, X ≤ side → Y ≤ side → F3 (Y * (side + 1) + X) = psm fb X Y) (m4 : ∀ X Y, X ≤ side → Y ≤ side → F4 (Y * (side + 1) + X) = psm fl X Y) (hfb : ∀ i j, i < side → j < side → fb i j ≤ 10000) (hfl : ∀ i j, i < side → j < side → fl i j ≤ 10000) (hrow : row < side) (hR0 : RC side = 0) (hRR : ∀ j, row < j → j ≤ side → 0 ≤ RR j ∧ RR j ≤ 2000020000 * ((side - j : Nat) : Int)) : Met l y_Be_planRow w_Be_planRow ({ frames := 4, cells := 0, slots := 0, locals := 104 }) (va_Pc [.ref hb_, .int (nI row)] (kB D vwCl (tyL cI cJ cZ) sz [(hb_, .inr (1, [.ref bo, .ref hz, .int (nI side), .int (nI kf), .int (nI tn), .ref r1, .ref r2, .ref r3, .ref r4])), (bo, .inr (2, [.ref hz, .ref h0])), (h0, .inr (3, [.int (nI side), .ref a1, .ref a2, .ref a3, .ref a4, .int (pI sm)])), (hz, .inr (5, [.ref t1, .ref t2, .ref t3, .ref t4, .int (nI cn)])), (t1, .inl (cI, 8, .inl (fun j => nI (th j)))), (t2, .inl (cI, 8, .inl (fun j => nI (wi j)))), (t3, .inl (cI, 8, .inl (fun j => nI (wo j)))), (t4, .inl (cI, 8, .inl (fun j => nI (wn j)))), (a3, .inl (cI, ((side + 1) * (side + 1)), .inl (fun j => nI (F3 j)))), (a4, .inl (cI, ((side + 1) * (side + 1)), .inl (fun j => nI (F4 j)))), (r1, .inl (cJ, (side + 1), .inr (.inl (fun j => lI (RR j))))), (r2, .inl (cI, side, .inl (fun j => nI (TR j)))), (r3, .inl (cJ, (side + 1), .inr (.inl (fun j => lI (RC j))))), (r4, .inl (cI, side, .inl (fun j => iI (SC j))))])) (va_Qv (fun (u : (Nat → Int) × (Nat → Int)) => u.1 side = 0) (fun (u : (Nat → Int) × (Nat → Int)) t => kE D vwCl (va_A [(hb_, .inr (1, [.ref bo, .ref hz, .int (nI side), .int (nI kf), .int (nI tn), .ref r1, .ref r2, .ref r3, .ref r4])), (bo, .inr (2, [.ref hz, .ref h0])), (h0, .inr (3, [.int (nI side), .ref a1, .ref a2, .ref a3, .ref a4, .int (pI sm)])), (hz, .inr (5, [.ref t1, .ref t2, .ref t3, .ref t4, .int (nI cn)])), (t1, .inl (cI, 8, .inl (fun j => nI (th j)))), (t2, .inl (cI, 8, .inl (fun j => nI (wi j)))), (t3, .inl (cI, 8, .inl (fun j => nI (wo j)))), (t4, .inl (cI, 8, .inl (fun j => nI (wn j)))), (a3, .inl (cI, ((side + 1) * (side + 1)), .inl (fun j => nI (F3 j)))), (a4, .inl (cI, ((side + 1) * (side + 1)), .inl (fun j => nI (F4 j)))), (r1, .inl (cJ, (side + 1), .inr (.inl (fun j => lI (RR j))))), (r2, .inl (cI, side, .inl (fun j => nI (TR j)))), (r3, .inl (cJ, (side + 1), .inr (.inl (fun j => lI (RC j))))), (r4, .inl (cI, side, .inl (fun j => iI (SC j))))] sz) [(hb_, .inr (1, [.ref bo, .ref hz, .int (nI side), .int (nI kf), .int (nI tn), .ref r1, .ref r2, .ref r3, .ref r4])), (bo, .inr (2, [.ref hz, .ref h0])), (h0, .inr (3, [.int (nI side), .ref a1, .ref a2, .ref a3, .ref a4, .int (pI sm)])), (hz, .inr (5, [.ref t1, .ref t2, .ref t3, .ref t4, .int (nI cn)])), (t1, .inl (cI, 8, .inl (fun j => nI (th j)))), (t2, .inl (cI, 8, .inl (fun j => nI (wi j)))), (t3, .inl (cI, 8, .inl (fun j => nI (wo j)))), (t4, .inl (cI, 8, .inl (fun j => nI (wn j)))), (a3, .inl (cI, ((side + 1) * (side + 1)), .inl (fun j => nI (F3 j)))), (a4, .inl (cI, ((side + 1) * (side + 1)), .inl (fun j => nI (F4 j)))), (r1, .inl (cJ, (side + 1), .inr (.inl (fun j => lI ((va_up RR row (rowFold RR side kf row (sbR side kf th wi (okC side fb th wi wn tn row) (vaC side fl th wi wo tn row) cn) (side - row)).1) j))))), (r2, .inl (cI, side, .inl (fun j => nI ((va_up TR row (rowFold RR side kf row (sbR side kf th wi (okC side fb th wi wn tn row) (vaC side fl th wi wo tn row) cn) (side - row)).2) j)))), (r3, .inl (cJ, (side + 1), .inr (.inl (fun j => lI (u.1 j))))), (r4, .inl (cI, side, .inl (fun j => iI (u.2 j))))] t) (va_A [(hb_, .inr (1, [.ref bo, .ref hz, .int (nI side), .int (nI kf), .int (nI tn), .ref r1, .ref r2, .ref r3, .ref r4])), (bo, .inr (2, [.ref hz, .ref h0])), (h0, .inr (3, [.int (nI side), .ref a1, .ref a2, .ref a3, .ref a4, .int (pI sm)])), (hz, .inr (5, [.ref t1, .ref t2, .ref t3, .ref t4, .int (nI cn)])), (t1, .inl (cI, 8, .inl (fun j => nI (th j)))), (t2, .inl (cI, 8, .inl (fun j => nI (wi j)))), (t3, .inl (cI, 8, .inl (fun j => nI (wo j)))), (t4, .inl (cI, 8, .inl (fun j => nI (wn j)))), (a3, .inl (cI, ((side + 1) * (side + 1)), .inl (fun j => nI (F3 j)))), (a4, .inl (cI, ((side + 1) * (side + 1)), .inl (fun j => nI (F4 j)))), (r1, .inl (cJ, (side + 1), .inr (.inl (fun j => lI (RR j))))), (r2, .inl (cI, side, .inl (fun j => nI (TR j)))), (r3, .inl (cJ, (side + 1), .inr (.inl (fun j => lI (RC j))))), (r4, .inl (cI, side, .inl (fun j => iI (SC j))))] sz)) 0 0 (va_A [(hb_, .inr (1, [.ref bo, .ref hz, .int (nI side), .int (nI kf), .int (nI tn), .ref r1, .ref r2, .ref r3, .ref r4])), (bo, .inr (2, [.ref hz, .ref h0])), (h0, .inr (3, [.int (nI side), .ref a1, .ref a2, .ref a3, .ref a4, .int (pI sm)])), (hz, .inr (5, [.ref t1, .ref t2, .ref t3, .ref t4, .int (nI cn)])), (t1, .inl (cI, 8, .inl (fun j => nI (th j)))), (t2, .inl (cI, 8, .inl (fun j => nI (wi j)))), (t3, .inl (cI, 8, .inl (fun j => nI (wo j)))), (t4, .inl (cI, 8, .inl (fun j => nI (wn j)))), (a3, .inl (cI, ((side + 1) * (side + 1)), .inl (fun j => nI (F3 j)))), (a4, .inl (cI, ((side + 1) * (side + 1)), .inl (fun j => nI (F4 j)))), (r1, .inl (cJ, (side + 1), .inr (.inl (fun j => lI (RR j))))), (r2, .inl (cI, side, .inl (fun j => nI (TR j)))), (r3, .inl (cJ, (side + 1), .inr (.inl (fun j => lI (RC j))))), (r4, .inl (cI, side, .inl (fun j => iI (SC j))))] sz) := by
  refine Met.ofW (cc := b_Be_planRow) (maxL := 10) (ret := none) (by decide) rfl ?_
  intro p e s m args below meth c s₁ B hml hv
  obtain ⟨rfl, hsz, hP, hK, hD0, hZ⟩ := hv
  have hx := B.exec
  have hb := B.bytes
  have hr := B.returns
  have hts := atoms_spec (ws := w_Be_planRow) B.pre
  have hown : s.vm.findClass R_Be = some m.cls := findClass_of_methodNamed B.named
  have hlocks := B.notSynchronized
  subst hsz
  have hD := hD0.self (sz := s.heap.size)
  generalize hAe : va_A [(hb_, .inr (1, [.ref bo, .ref hz, .int (nI side), .int (nI kf), .int (nI tn), .ref r1, .ref r2, .ref r3, .ref r4])), (bo, .inr (2, [.ref hz, .ref h0])), (h0, .inr (3, [.int (nI side), .ref a1, .ref a2, .ref a3, .ref a4, .int (pI sm)])), (hz, .inr (5, [.ref t1, .ref t2, .ref t3, .ref t4, .int (nI cn)])), (t1, .inl (cI, 8, .inl (fun j => nI (th j)))), (t2, .inl (cI, 8, .inl (fun j => nI (wi j)))), (t3, .inl (cI, 8, .inl (fun j => nI (wo j)))), (t4, .inl (cI, 8, .inl (fun j => nI (wn j)))), (a3, .inl (cI, ((side + 1) * (side + 1)), .inl (fun j => nI (F3 j)))), (a4, .inl (cI, ((side + 1) * (side + 1)), .inl (fun j => nI (F4 j)))), (r1, .inl (cJ, (side + 1), .inr (.inl (fun j => lI (RR j))))), (r2, .inl (cI, side, .inl (fun j => nI (TR j)))), (r3, .inl (cJ, (side + 1), .inr (.inl (fun j => lI (RC j))))), (r4, .inl (cI, side, .inl (fun j => iI (SC j))))] s.heap.size = A at hD ⊢
  have hA : ∀ q : Nat, s.heap.size ≤ q → A q := fun q h => by rw [← hAe]; exact Or.inr h
  have hS : va_S A s.heap s.heap [] := va_S.rf
  have hP : va_P D vwCl [(hb_, .inr (1, [.ref bo, .ref hz, .int (nI side), .int (nI kf), .int (nI tn), .ref r1, .ref r2, .ref r3, .ref r4])), (bo, .inr (2, [.ref hz, .ref h0])), (h0, .inr (3, [.int (nI side), .ref a1, .ref a2, .ref a3, .ref a4, .int (pI sm)])), (hz, .inr (5, [.ref t1, .ref t2, .ref t3, .ref t4, .int (nI cn)])), (t1, .inl (cI, 8, .inl (fun j => nI (th j)))), (t2, .inl (cI, 8, .inl (fun j => nI (wi j)))), (t3, .inl (cI, 8, .inl (fun j => nI (wo j)))), (t4, .inl (cI, 8, .inl (fun j => nI (wn j)))), (a3, .inl (cI, ((side + 1) * (side + 1)), .inl (fun j => nI (F3 j)))), (a4, .inl (cI, ((side + 1) * (side + 1)), .inl (fun j => nI (F4 j)))), (r1, .inl (cJ, (side + 1), .inr (.inl (fun j => lI (RR j))))), (r2, .inl (cI, side, .inl (fun j => nI (TR j)))), (r3, .inl (cJ, (side + 1), .inr (.inl (fun j => lI (RC j))))), (r4, .inl (cI, side, .inl (fun j => iI (SC j))))] s.heap := hP
  have hl := lv_entry ([.ref hb_, .int (nI row)]) (n := 10) (Nat.le_of_ble_eq_true rfl)
  rw [lg_entry_eq]
  generalize (lg_sl ([.ref hb_, .int (nI row)]) ++ List.replicate (10 - (lg_sl ([.ref hb_, .int (nI row)])).length) Slot.unset).toArray = ls at hl ⊢
  have hl : lv_has ls 10 [(0, .ref hb_), (1, .int (nI row))] := hl
  have hsb := fun t_ => sbR_bd (side := side) (kf := kf) (thick := t_) (th := th) (ok := (okC side fb th wi wn tn row)) (va := (vaC side fl th wi wo tn row)) (cn := cn) hw1 (fun c_ i hi => vaC_bd (ho i (by omega))) s2
  have hB := fun k (hk : k ≤ side - row) => rowFold_bd (kf := kf) hrow hsb hRR k hk
  refine lv_aload_n hx hb d_Be_planRow_0 rfl (lv_at hl 0 rfl) ?_
  refine va_get (D := D) (ci := 1) (v := .ref r1) (C := R_Be) (T := T_Be) (N := 9) hx hb hts (fun w h => List.mem_cons_of_mem _ (iw_Be w h)) hown hK hP 0 rfl rfl 5 (by decide) (hts _ (List.mem_cons_of_mem _ k_112)) (fun _ h9 => h9) rfl d_Be_planRow_1 ?_
  refine lv_iload_n hx hb d_Be_planRow_4 rfl (lv_at hl 1 rfl) ?_
  refine lv_iconst (v := nI 1) hx hb d_Be_planRow_5 (by decide +kernel) ?_
  refine lv_iadd hx hb d_Be_planRow_6 ?_
  refine ka_i (y := nI (row + 1)) (nI_add _ _) ?_
  refine ka_lald (k := (row + 1)) (n := (side + 1)) (f := fun j => lI (RR j)) (nI_t (by omega)) (by omega) hx hb hK hP 10 1 rfl rfl d_Be_planRow_7 ?_
  refine lv_lstore_n (lv' := [(2, .long (lI (RR (row + 1)))), (0, .ref hb_), (1, .int (nI row))]) hx hb d_Be_planRow_8 rfl hl (by decide) rfl (fun ls hl => ?_)
  refine lv_iconst (v := nI 0) hx hb d_Be_planRow_9 (by decide +kernel) ?_
  refine lv_istore (lv' := [(4, .int (nI 0)), (2, .long (lI (RR (row + 1)))), (0, .ref hb_), (1, .int (nI row))]) hx hb d_Be_planRow_10 hl (by decide) rfl (fun ls hl => ?_)
  refine lv_iconst (v := nI 1) hx hb d_Be_planRow_12 (by decide +kernel) ?_
  refine lv_istore (lv' := [(5, .int (nI 1)), (4, .int (nI 0)), (2, .long (lI (RR (row + 1)))), (0, .ref hb_), (1, .int (nI row))]) hx hb d_Be_planRow_13 hl (by decide) rfl (fun ls hl => ?_)
  have lp : ∀ (n : Nat) (k : Nat) (b1 : Int) (b2 : Nat) (RC : Nat → Int) (SC : Nat → Int), (k + n = side - row) → (b1 = (rowFold RR side kf row (sbR side kf th wi (okC side fb th wi wn tn row) (vaC side fl th wi wo tn row) cn) k).1) → (b2 = (rowFold RR side kf row (sbR side kf th wi (okC side fb th wi wn tn row) (vaC side fl th wi wo tn row) cn) k).2) → (RC side = 0) → ∀ (H : Heap) (locs : List Loc), va_P D vwCl [(hb_, .inr (1, [.ref bo, .ref hz, .int (nI side), .int (nI kf), .int (nI tn), .ref r1, .ref r2, .ref r3, .ref r4])), (bo, .inr (2, [.ref hz, .ref h0])), (h0, .inr (3, [.int (nI side), .ref a1, .ref a2, .ref a3, .ref a4, .int (pI sm)])), (hz, .inr (5, [.ref t1, .ref t2, .ref t3, .ref t4, .int (nI cn)])), (t1, .inl (cI, 8, .inl (fun j => nI (th j)))), (t2, .inl (cI, 8, .inl (fun j => nI (wi j)))), (t3, .inl (cI, 8, .inl (fun j => nI (wo j)))), (t4, .inl (cI, 8, .inl (fun j => nI (wn j)))), (a3, .inl (cI, ((side + 1) * (side + 1)), .inl (fun j => nI (F3 j)))), (a4, .inl (cI, ((side + 1) * (side + 1)), .inl (fun j => nI (F4 j)))), (r1, .inl (cJ, (side + 1), .inr (.inl (fun j => lI (RR j))))), (r2, .inl (cI, side, .inl (fun j => nI (TR j)))), (r3, .inl (cJ, (side + 1), .inr (.inl (fun j => lI (RC j))))), (r4, .inl (cI, side, .inl (fun j => iI (SC j))))] H → va_D A [(hb_, .inr (1, [.ref bo, .ref hz, .int (nI side), .int (nI kf), .int (nI tn), .ref r1, .ref r2, .ref r3, .ref r4])), (bo, .inr (2, [.ref hz, .ref h0])), (h0, .inr (3, [.int (nI side), .ref a1, .ref a2, .ref a3, .ref a4, .int (pI sm)])), (hz, .inr (5, [.ref t1, .ref t2, .ref t3, .ref t4, .int (nI cn)])), (t1, .inl (cI, 8, .inl (fun j => nI (th j)))), (t2, .inl (cI, 8, .inl (fun j => nI (wi j)))), (t3, .inl (cI, 8, .inl (fun j => nI (wo j)))), (t4, .inl (cI, 8, .inl (fun j => nI (wn j)))), (a3, .inl (cI, ((side + 1) * (side + 1)), .inl (fun j => nI (F3 j)))), (a4, .inl (cI, ((side + 1) * (side + 1)), .inl (fun j => nI (F4 j)))), (r1, .inl (cJ, (side + 1), .inr (.inl (fun j => lI (RR j))))), (r2, .inl (cI, side, .inl (fun j => nI (TR j)))), (r3, .inl (cJ, (side + 1), .inr (.inl (fun j => lI (RC j))))), (r4, .inl (cI, side, .inl (fun j => iI (SC j))))] → va_S A s.heap H locs → ∀ ls : Array Slot, lv_has ls 10 [(5, .int (nI (k + 1))), (4, .int (nI b2)), (2, .long (lI b1)), (0, .ref hb_), (1, .int (nI row))] → W p l e (headSpec w_Be_planRow ({ frames := 4, cells := 0, slots := 0, locals := 104 })).room s m ([.ref hb_, .int (nI row)]).toArray below meth c H locs 0 0 (MQ below (va_Qv (fun (u : (Nat → Int) × (Nat → Int)) => u.1 side = 0) (fun (u : (Nat → Int) × (Nat → Int)) t => kE D vwCl A [(hb_, .inr (1, [.ref bo, .ref hz, .int (nI side), .int (nI kf), .int (nI tn), .ref r1, .ref r2, .ref r3, .ref r4])), (bo, .inr (2, [.ref hz, .ref h0])), (h0, .inr (3, [.int (nI side), .ref a1, .ref a2, .ref a3, .ref a4, .int (pI sm)])), (hz, .inr (5, [.ref t1, .ref t2, .ref t3, .ref t4, .int (nI cn)])), (t1, .inl (cI, 8, .inl (fun j => nI (th j)))), (t2, .inl (cI, 8, .inl (fun j => nI (wi j)))), (t3, .inl (cI, 8, .inl (fun j => nI (wo j)))), (t4, .inl (cI, 8, .inl (fun j => nI (wn j)))), (a3, .inl (cI, ((side + 1) * (side + 1)), .inl (fun j => nI (F3 j)))), (a4, .inl (cI, ((side + 1) * (side + 1)), .inl (fun j => nI (F4 j)))), (r1, .inl (cJ, (side + 1), .inr (.inl (fun j => lI ((va_up RR row (rowFold RR side kf row (sbR side kf th wi (okC side fb th wi wn tn row) (vaC side fl th wi wo tn row) cn) (side - row)).1) j))))), (r2, .inl (cI, side, .inl (fun j => nI ((va_up TR row (rowFold RR side kf row (sbR side kf th wi (okC side fb th wi wn tn row) (vaC side fl th wi wo tn row) cn) (side - row)).2) j)))), (r3, .inl (cJ, (side + 1), .inr (.inl (fun j => lI (u.1 j))))), (r4, .inl (cI, side, .inl (fun j => iI (u.2 j))))] t) A) ([.ref hb_, .int (nI row)]).toArray s 0 0 A) (F0 m 15 ls []) := by
    intro n
    induction n with
    | zero =>
      intro k b1 b2 RC SC hi e1 e2 hC H locs hP hD hS ls hl
      refine lv_iload hx hb d_Be_planRow_15 (lv_at hl 0 rfl) ?_
      refine lv_aload_n hx hb d_Be_planRow_17 rfl (lv_at hl 3 rfl) ?_
      refine va_get (D := D) (ci := 1) (v := .int (nI side)) (C := R_Be) (T := T_Be) (N := 9) hx hb hts (fun w h => List.mem_cons_of_mem _ (iw_Be w h)) hown hK hP 0 rfl rfl 2 (by decide) (hts _ (List.mem_cons_of_mem _ k_109)) (fun _ h9 => h9) rfl d_Be_planRow_18 ?_
      refine lv_iload_n hx hb d_Be_planRow_21 rfl (lv_at hl 4 rfl) ?_
      refine lv_isub hx hb d_Be_planRow_22 ?_
      refine ka_i (y := nI (side - row)) (pk_sub (by omega)) ?_
      refine kb_cgt (tgt := 116) (nI_t (by omega)) (nI_t (by omega)) hx hb d_Be_planRow_23 (by decide) (fun c_23 => ?_) (fun c_23 => ?_)
      · have ek : k = side - row := by omega
        subst ek
        subst e1
        subst e2
        refine lv_aload_n hx hb d_Be_planRow_116 rfl (lv_at hl 3 rfl) ?_
        refine va_get (D := D) (ci := 1) (v := .ref r1) (C := R_Be) (T := T_Be) (N := 9) hx hb hts (fun w h => List.mem_cons_of_mem _ (iw_Be w h)) hown hK hP 0 rfl rfl 5 (by decide) (hts _ (List.mem_cons_of_mem _ k_112)) (fun _ h9 => h9) rfl d_Be_planRow_117 ?_
        refine lv_iload_n hx hb d_Be_planRow_120 rfl (lv_at hl 4 rfl) ?_
        refine lv_lload_n hx hb d_Be_planRow_121 rfl (lv_at hl 2 rfl) ?_
        refine ka_lastI (F := RR) (v := ((rowFold RR side kf row (sbR side kf th wi (okC side fb th wi wn tn row) (vaC side fl th wi wo tn row) cn) (side - row)).1)) (k := row) (n := (side + 1)) (nI_t (by omega)) (by omega) hx hb hK hP hD hS 10 1 rfl rfl d_Be_planRow_122 (fun H locs hP hD hS => ?_)
        have hP : va_P D vwCl [(hb_, .inr (1, [.ref bo, .ref hz, .int (nI side), .int (nI kf), .int (nI tn), .ref r1, .ref r2, .ref r3, .ref r4])), (bo, .inr (2, [.ref hz, .ref h0])), (h0, .inr (3, [.int (nI side), .ref a1, .ref a2, .ref a3, .ref a4, .int (pI sm)])), (hz, .inr (5, [.ref t1, .ref t2, .ref t3, .ref t4, .int (nI cn)])), (t1, .inl (cI, 8, .inl (fun j => nI (th j)))), (t2, .inl (cI, 8, .inl (fun j => nI (wi j)))), (t3, .inl (cI, 8, .inl (fun j => nI (wo j)))), (t4, .inl (cI, 8, .inl (fun j => nI (wn j)))), (a3, .inl (cI, ((side + 1) * (side + 1)), .inl (fun j => nI (F3 j)))), (a4, .inl (cI, ((side + 1) * (side + 1)), .inl (fun j => nI (F4 j)))), (r1, .inl (cJ, (side + 1), .inr (.inl (fun j => lI ((va_up RR row ((rowFold RR side kf row (sbR side kf th wi (okC side fb th wi wn tn row) (vaC side fl th wi wo tn row) cn) (side - row)).1)) j))))), (r2, .inl (cI, side, .inl (fun j => nI (TR j)))), (r3, .inl (cJ, (side + 1), .inr (.inl (fun j => lI (RC j))))), (r4, .inl (cI, side, .inl (fun j => iI (SC j))))] H := hP
        have hD : va_D A [(hb_, .inr (1, [.ref bo, .ref hz, .int (nI side), .int (nI kf), .int (nI tn), .ref r1, .ref r2, .ref r3, .ref r4])), (bo, .inr (2, [.ref hz, .ref h0])), (h0, .inr (3, [.int (nI side), .ref a1, .ref a2, .ref a3, .ref a4, .int (pI sm)])), (hz, .inr (5, [.ref t1, .ref t2, .ref t3, .ref t4, .int (nI cn)])), (t1, .inl (cI, 8, .inl (fun j => nI (th j)))), (t2, .inl (cI, 8, .inl (fun j => nI (wi j)))), (t3, .inl (cI, 8, .inl (fun j => nI (wo j)))), (t4, .inl (cI, 8, .inl (fun j => nI (wn j)))), (a3, .inl (cI, ((side + 1) * (side + 1)), .inl (fun j => nI (F3 j)))), (a4, .inl (cI, ((side + 1) * (side + 1)), .inl (fun j => nI (F4 j)))), (r1, .inl (cJ, (side + 1), .inr (.inl (fun j => lI ((va_up RR row ((rowFold RR side kf row (sbR side kf th wi (okC side fb th wi wn tn row) (vaC side fl th wi wo tn row) cn) (side - row)).1)) j))))), (r2, .inl (cI, side, .inl (fun j => nI (TR j)))), (r3, .inl (cJ, (side + 1), .inr (.inl (fun j => lI (RC j))))), (r4, .inl (cI, side, .inl (fun j => iI (SC j))))] := hD
        refine lv_aload_n hx hb d_Be_planRow_123 rfl (lv_at hl 3 rfl) ?_
        refine va_get (D := D) (ci := 1) (v := .ref r2) (C := R_Be) (T := T_Be) (N := 9) hx hb hts (fun w h => List.mem_cons_of_mem _ (iw_Be w h)) hown hK hP 0 rfl rfl 6 (by decide) (hts _ (List.mem_cons_of_mem _ k_113)) (fun _ h9 => h9) rfl d_Be_planRow_124 ?_
        refine lv_iload_n hx hb d_Be_planRow_127 rfl (lv_at hl 4 rfl) ?_
        refine lv_iload hx hb d_Be_planRow_128 (lv_at hl 1 rfl) ?_
        refine ka_iastN (F := TR) (v := ((rowFold RR side kf row (sbR side kf th wi (okC side fb th wi wn tn row) (vaC side fl th wi wo tn row) cn) (side - row)).2)) (k := row) (n := side) (nI_t (by omega)) (by omega) hx hb hK hP hD hS 11 0 rfl rfl d_Be_planRow_130 (fun H locs hP hD hS => ?_)
        have hP : va_P D vwCl [(hb_, .inr (1, [.ref bo, .ref hz, .int (nI side), .int (nI kf), .int (nI tn), .ref r1, .ref r2, .ref r3, .ref r4])), (bo, .inr (2, [.ref hz, .ref h0])), (h0, .inr (3, [.int (nI side), .ref a1, .ref a2, .ref a3, .ref a4, .int (pI sm)])), (hz, .inr (5, [.ref t1, .ref t2, .ref t3, .ref t4, .int (nI cn)])), (t1, .inl (cI, 8, .inl (fun j => nI (th j)))), (t2, .inl (cI, 8, .inl (fun j => nI (wi j)))), (t3, .inl (cI, 8, .inl (fun j => nI (wo j)))), (t4, .inl (cI, 8, .inl (fun j => nI (wn j)))), (a3, .inl (cI, ((side + 1) * (side + 1)), .inl (fun j => nI (F3 j)))), (a4, .inl (cI, ((side + 1) * (side + 1)), .inl (fun j => nI (F4 j)))), (r1, .inl (cJ, (side + 1), .inr (.inl (fun j => lI ((va_up RR row ((rowFold RR side kf row (sbR side kf th wi (okC side fb th wi wn tn row) (vaC side fl th wi wo tn row) cn) (side - row)).1)) j))))), (r2, .inl (cI, side, .inl (fun j => nI ((va_up TR row ((rowFold RR side kf row (sbR side kf th wi (okC side fb th wi wn tn row) (vaC side fl th wi wo tn row) cn) (side - row)).2)) j)))), (r3, .inl (cJ, (side + 1), .inr (.inl (fun j => lI (RC j))))), (r4, .inl (cI, side, .inl (fun j => iI (SC j))))] H := hP
        have hD : va_D A [(hb_, .inr (1, [.ref bo, .ref hz, .int (nI side), .int (nI kf), .int (nI tn), .ref r1, .ref r2, .ref r3, .ref r4])), (bo, .inr (2, [.ref hz, .ref h0])), (h0, .inr (3, [.int (nI side), .ref a1, .ref a2, .ref a3, .ref a4, .int (pI sm)])), (hz, .inr (5, [.ref t1, .ref t2, .ref t3, .ref t4, .int (nI cn)])), (t1, .inl (cI, 8, .inl (fun j => nI (th j)))), (t2, .inl (cI, 8, .inl (fun j => nI (wi j)))), (t3, .inl (cI, 8, .inl (fun j => nI (wo j)))), (t4, .inl (cI, 8, .inl (fun j => nI (wn j)))), (a3, .inl (cI, ((side + 1) * (side + 1)), .inl (fun j => nI (F3 j)))), (a4, .inl (cI, ((side + 1) * (side + 1)), .inl (fun j => nI (F4 j)))), (r1, .inl (cJ, (side + 1), .inr (.inl (fun j => lI ((va_up RR row ((rowFold RR side kf row (sbR side kf th wi (okC side fb th wi wn tn row) (vaC side fl th wi wo tn row) cn) (side - row)).1)) j))))), (r2, .inl (cI, side, .inl (fun j => nI ((va_up TR row ((rowFold RR side kf row (sbR side kf th wi (okC side fb th wi wn tn row) (vaC side fl th wi wo tn row) cn) (side - row)).2)) j)))), (r3, .inl (cJ, (side + 1), .inr (.inl (fun j => lI (RC j))))), (r4, .inl (cI, side, .inl (fun j => iI (SC j))))] := hD
        exact kretv (u := (RC, SC)) hx hb hr hP hD hS hlocks rfl (hC) d_Be_planRow_131
      · exfalso; omega
    | succ n ih =>
      intro k b1 b2 RC SC hi e1 e2 hC H locs hP hD hS ls hl
      refine lv_iload hx hb d_Be_planRow_15 (lv_at hl 0 rfl) ?_
      refine lv_aload_n hx hb d_Be_planRow_17 rfl (lv_at hl 3 rfl) ?_
      refine va_get (D := D) (ci := 1) (v := .int (nI side)) (C := R_Be) (T := T_Be) (N := 9) hx hb hts (fun w h => List.mem_cons_of_mem _ (iw_Be w h)) hown hK hP 0 rfl rfl 2 (by decide) (hts _ (List.mem_cons_of_mem _ k_109)) (fun _ h9 => h9) rfl d_Be_planRow_18 ?_
      refine lv_iload_n hx hb d_Be_planRow_21 rfl (lv_at hl 4 rfl) ?_
      refine lv_isub hx hb d_Be_planRow_22 ?_
      refine ka_i (y := nI (side - row)) (pk_sub (by omega)) ?_
      refine kb_cgt (tgt := 116) (nI_t (by omega)) (nI_t (by omega)) hx hb d_Be_planRow_23 (by decide) (fun c_23 => ?_) (fun c_23 => ?_)
      · exfalso; omega
      · have q := hB k (by omega)
        rw [← e1, ← e2] at q
        have q6 := hsb (k + 1)
        have q8 := hRR (min side (row + (k + 1) + kf)) (by omega) (by omega)
        have es : (rowFold RR side kf row (sbR side kf th wi (okC side fb th wi wn tn row) (vaC side fl th wi wo tn row) cn) (k + 1)) = rowStep RR side kf row (sbR side kf th wi (okC side fb th wi wn tn row) (vaC side fl th wi wo tn row) cn) (k + 1) (b1, b2) := by
          rw [e1, e2]; rfl
        refine lv_aload_n hx hb d_Be_planRow_26 rfl (lv_at hl 3 rfl) ?_
        refine va_get (D := D) (ci := 1) (v := .ref hz) (C := R_Be) (T := T_Be) (N := 9) hx hb hts (fun w h => List.mem_cons_of_mem _ (iw_Be w h)) hown hK hP 0 rfl rfl 1 (by decide) (hts _ (List.mem_cons_of_mem _ k_108)) (fun _ h9 => h9) rfl d_Be_planRow_27 ?_
        refine lv_iload hx hb d_Be_planRow_30 (lv_at hl 0 rfl) ?_
        refine kcallR (r := .int (pI (∃ k_, k_ < cn ∧ th k_ = (k + 1)))) (va_runV (As := [.int (nI (k + 1))]) (rest := []) ⟨hx, hb, hml, hown, hts⟩ (c_haveT l D cI cJ cZ hz t1 t2 t3 t4 cn th (k + 1) (by omega) (by omega) ht) ⟨callB_of 1 hts (gd kc_Si_haveThickness) rfl rfl rfl (hts _ (List.mem_cons_of_mem _ k_4)) (hts _ (List.mem_cons_of_mem _ k_220)) (by decide +kernel) ⟨Nat.le_of_ble_eq_true rfl, Nat.le_of_ble_eq_true rfl⟩, hts _ (List.mem_cons_of_mem _ k_221), hts _ (List.mem_cons_of_mem _ k_222)⟩ ⟨kR_blind, va_recv hK hP (ci := 5) (q0 := 3) rfl rfl, kR_at hP hK hZ [3, 4] rfl⟩ rfl rfl hl.1 rfl (lv_room (Nat.le_of_ble_eq_true rfl)) d_Be_planRow_32 ⟨Nat.zero_le _, Nat.zero_le _⟩) ?_
        refine kb_eqP (tgt := 48) hx hb d_Be_planRow_35 (by decide) (fun ch => ?_) (fun ch => ?_)
        · refine lv_lconst (v := lI 0) hx hb d_Be_planRow_48 (by decide +kernel) ?_
          refine ka_l (y := lI ((sbR side kf th wi (okC side fb th wi wn tn row) (vaC side fl th wi wo tn row) cn) (k + 1))) (congrArg lI (by unfold sbR; rw [cif_f ch])) ?_
          refine lv_lstore (lv' := [(6, .long (lI ((sbR side kf th wi (okC side fb th wi wn tn row) (vaC side fl th wi wo tn row) cn) (k + 1)))), (5, .int (nI (k + 1))), (4, .int (nI b2)), (2, .long (lI b1)), (0, .ref hb_), (1, .int (nI row))]) hx hb d_Be_planRow_49 hl (by decide) rfl (fun ls hl => ?_)
          refine lv_lload hx hb d_Be_planRow_51 (lv_at hl 0 rfl) ?_
          refine lv_aload_n hx hb d_Be_planRow_53 rfl (lv_at hl 4 rfl) ?_
          refine va_get (D := D) (ci := 1) (v := .ref r1) (C := R_Be) (T := T_Be) (N := 9) hx hb hts (fun w h => List.mem_cons_of_mem _ (iw_Be w h)) hown hK hP 0 rfl rfl 5 (by decide) (hts _ (List.mem_cons_of_mem _ k_112)) (fun _ h9 => h9) rfl d_Be_planRow_54 ?_
          refine lv_aload_n hx hb d_Be_planRow_57 rfl (lv_at hl 4 rfl) ?_
          refine va_get (D := D) (ci := 1) (v := .int (nI side)) (C := R_Be) (T := T_Be) (N := 9) hx hb hts (fun w h => List.mem_cons_of_mem _ (iw_Be w h)) hown hK hP 0 rfl rfl 2 (by decide) (hts _ (List.mem_cons_of_mem _ k_109)) (fun _ h9 => h9) rfl d_Be_planRow_58 ?_
          refine lv_iload_n hx hb d_Be_planRow_61 rfl (lv_at hl 5 rfl) ?_
          refine lv_iload hx hb d_Be_planRow_62 (lv_at hl 1 rfl) ?_
          refine lv_iadd hx hb d_Be_planRow_64 ?_
          refine ka_i (y := nI (row + (k + 1))) (nI_add _ _) ?_
          refine lv_aload_n hx hb d_Be_planRow_65 rfl (lv_at hl 4 rfl) ?_
          refine va_get (D := D) (ci := 1) (v := .int (nI kf)) (C := R_Be) (T := T_Be) (N := 9) hx hb hts (fun w h => List.mem_cons_of_mem _ (iw_Be w h)) hown hK hP 0 rfl rfl 3 (by decide) (hts _ (List.mem_cons_of_mem _ k_110)) (fun _ h9 => h9) rfl d_Be_planRow_66 ?_
          refine lv_iadd hx hb d_Be_planRow_69 ?_
          refine ka_i (y := nI ((row + (k + 1)) + kf)) (nI_add _ _) ?_
          refine va_mmin hx hb (hml.trans hl.1.symm) hown (hts _ (List.mem_cons_of_mem _ k_262)) (hts _ (List.mem_cons_of_mem _ k_24)) (hts _ (List.mem_cons_of_mem _ k_2)) (hts _ (List.mem_cons_of_mem _ k_25)) (Nat.le_of_ble_eq_true rfl) (Nat.le_of_ble_eq_true rfl) (Nat.zero_le _) (Nat.zero_le _) d_Be_planRow_70 ?_
          refine ka_i (y := iI (min ((side : Nat) : Int) (((row + (k + 1)) + kf : Nat) : Int))) (mmin32 (nI_t (by omega)) (nI_t (by omega))) ?_
          refine ka_lald (k := (min side (row + (k + 1) + kf))) (n := (side + 1)) (f := fun j => lI (RR j)) ((iI_t (by omega) (by omega)).trans (by omega)) (by omega) hx hb hK hP 10 1 rfl rfl d_Be_planRow_73 ?_
          refine lv_ladd hx hb d_Be_planRow_74 ?_
          refine ka_l (y := lI (((sbR side kf th wi (okC side fb th wi wn tn row) (vaC side fl th wi wo tn row) cn) (k + 1)) + (RR (min side (row + (k + 1) + kf))))) (lI_add _ _) ?_
          refine lv_lstore (lv' := [(8, .long (lI (((sbR side kf th wi (okC side fb th wi wn tn row) (vaC side fl th wi wo tn row) cn) (k + 1)) + (RR (min side (row + (k + 1) + kf)))))), (6, .long (lI ((sbR side kf th wi (okC side fb th wi wn tn row) (vaC side fl th wi wo tn row) cn) (k + 1)))), (5, .int (nI (k + 1))), (4, .int (nI b2)), (2, .long (lI b1)), (0, .ref hb_), (1, .int (nI row))]) hx hb d_Be_planRow_75 hl (by decide) rfl (fun ls hl => ?_)
          refine lv_lload hx hb d_Be_planRow_77 (lv_at hl 1 rfl) ?_
          refine lv_lconst (v := lI 0) hx hb d_Be_planRow_79 (by decide +kernel) ?_
          refine ka_lcmp (lI_t (by omega) (by omega)) (lI_t (by omega) (by omega)) hx hb d_Be_planRow_80 ?_
          refine kb_le (tgt := 110) (cmpI_b _ _) hx hb d_Be_planRow_81 (by decide) (fun g0 => ?_) (fun g0 => ?_)
          · have l0 := cmpI_le.mp g0
            refine lv_iinc (v := nI (k + 1 + 1)) (lv' := [(5, .int (nI (k + 1 + 1))), (8, .long (lI (((sbR side kf th wi (okC side fb th wi wn tn row) (vaC side fl th wi wo tn row) cn) (k + 1)) + (RR (min side (row + (k + 1) + kf)))))), (6, .long (lI ((sbR side kf th wi (okC side fb th wi wn tn row) (vaC side fl th wi wo tn row) cn) (k + 1)))), (4, .int (nI b2)), (2, .long (lI b1)), (0, .ref hb_), (1, .int (nI row))]) hx hb d_Be_planRow_110 hl (k := 2) rfl (nI_add _ 1) (by decide) rfl (fun ls hl => ?_)
            refine lv_goto (tgt := 15) hx hb d_Be_planRow_113 (by decide) ?_
            exact ih (k + 1) b1 b2 RC SC (by omega) (by rw [es]; unfold rowStep; rw [cif_f (fun h => by have h9 := h.1; omega)]) (by rw [es]; unfold rowStep; rw [cif_f (fun h => by have h9 := h.1; omega)]) hC _ _ hP hD hS ls (lv_sub hl [0, 3, 4, 5, 6] rfl)
          · have l0 := cmpI_gt.mp g0
            refine lv_lload hx hb d_Be_planRow_84 (lv_at hl 0 rfl) ?_
            refine lv_lload_n hx hb d_Be_planRow_86 rfl (lv_at hl 4 rfl) ?_
            refine ka_lcmp (lI_t (by omega) (by omega)) (lI_t (by omega) (by omega)) hx hb d_Be_planRow_87 ?_
            refine kb_gt (tgt := 103) (cmpI_b _ _) hx hb d_Be_planRow_88 (by decide) (fun g1 => ?_) (fun g1 => ?_)
            · have l1 := cmpI_gt.mp g1
              refine lv_lload hx hb d_Be_planRow_103 (lv_at hl 0 rfl) ?_
              refine lv_lstore_n (lv' := [(2, .long (lI (((sbR side kf th wi (okC side fb th wi wn tn row) (vaC side fl th wi wo tn row) cn) (k + 1)) + (RR (min side (row + (k + 1) + kf)))))), (8, .long (lI (((sbR side kf th wi (okC side fb th wi wn tn row) (vaC side fl th wi wo tn row) cn) (k + 1)) + (RR (min side (row + (k + 1) + kf)))))), (6, .long (lI ((sbR side kf th wi (okC side fb th wi wn tn row) (vaC side fl th wi wo tn row) cn) (k + 1)))), (5, .int (nI (k + 1))), (4, .int (nI b2)), (0, .ref hb_), (1, .int (nI row))]) hx hb d_Be_planRow_105 rfl hl (by decide) rfl (fun ls hl => ?_)
              refine lv_iload hx hb d_Be_planRow_106 (lv_at hl 3 rfl) ?_
              refine lv_istore (lv' := [(4, .int (nI (k + 1))), (2, .long (lI (((sbR side kf th wi (okC side fb th wi wn tn row) (vaC side fl th wi wo tn row) cn) (k + 1)) + (RR (min side (row + (k + 1) + kf)))))), (8, .long (lI (((sbR side kf th wi (okC side fb th wi wn tn row) (vaC side fl th wi wo tn row) cn) (k + 1)) + (RR (min side (row + (k + 1) + kf)))))), (6, .long (lI ((sbR side kf th wi (okC side fb th wi wn tn row) (vaC side fl th wi wo tn row) cn) (k + 1)))), (5, .int (nI (k + 1))), (0, .ref hb_), (1, .int (nI row))]) hx hb d_Be_planRow_108 hl (by decide) rfl (fun ls hl => ?_)
              refine lv_iinc (v := nI (k + 1 + 1)) (lv' := [(5, .int (nI (k + 1 + 1))), (4, .int (nI (k + 1))), (2, .long (lI (((sbR side kf th wi (okC side fb th wi wn tn row) (vaC side fl th wi wo tn row) cn) (k + 1)) + (RR (min side (row + (k + 1) + kf)))))), (8, .long (lI (((sbR side kf th wi (okC side fb th wi wn tn row) (vaC side fl th wi wo tn row) cn) (k + 1)) + (RR (min side (row + (k + 1) + kf)))))), (6, .long (lI ((sbR side kf th wi (okC side fb th wi wn tn row) (vaC side fl th wi wo tn row) cn) (k + 1)))), (0, .ref hb_), (1, .int (nI row))]) hx hb d_Be_planRow_110 hl (k := 4) rfl (nI_add _ 1) (by decide) rfl (fun ls hl => ?_)
              refine lv_goto (tgt := 15) hx hb d_Be_planRow_113 (by decide) ?_
              exact ih (k + 1) ((sbR side kf th wi (okC side fb th wi wn tn row) (vaC side fl th wi wo tn row) cn) (k + 1) + RR (min side (row + (k + 1) + kf))) (k + 1) RC SC (by omega) (by rw [es]; unfold rowStep; rw [cif_t (⟨l0, Or.inl l1⟩)]) (by rw [es]; unfold rowStep; rw [cif_t (⟨l0, Or.inl l1⟩)]) hC _ _ hP hD hS ls (lv_sub hl [0, 1, 2, 5, 6] rfl)
            · have l1 := cmpI_le.mp g1
              refine lv_lload hx hb d_Be_planRow_91 (lv_at hl 0 rfl) ?_
              refine lv_lload_n hx hb d_Be_planRow_93 rfl (lv_at hl 4 rfl) ?_
              refine ka_lcmp (lI_t (by omega) (by omega)) (lI_t (by omega) (by omega)) hx hb d_Be_planRow_94 ?_
              refine kb_ne (tgt := 110) (cmpI_b _ _) hx hb d_Be_planRow_95 (by decide) (fun g2 => ?_) (fun g2 => ?_)
              · have l2 := (not_congr cmpI_eq).mp g2
                refine lv_iinc (v := nI (k + 1 + 1)) (lv' := [(5, .int (nI (k + 1 + 1))), (8, .long (lI (((sbR side kf th wi (okC side fb th wi wn tn row) (vaC side fl th wi wo tn row) cn) (k + 1)) + (RR (min side (row + (k + 1) + kf)))))), (6, .long (lI ((sbR side kf th wi (okC side fb th wi wn tn row) (vaC side fl th wi wo tn row) cn) (k + 1)))), (4, .int (nI b2)), (2, .long (lI b1)), (0, .ref hb_), (1, .int (nI row))]) hx hb d_Be_planRow_110 hl (k := 2) rfl (nI_add _ 1) (by decide) rfl (fun ls hl => ?_)
                refine lv_goto (tgt := 15) hx hb d_Be_planRow_113 (by decide) ?_
                exact ih (k + 1) b1 b2 RC SC (by omega) (by rw [es]; unfold rowStep; rw [cif_f (fun h => by
                    rcases h.2 with h9 | h9
                    · have h9 : b1 < _ := h9
                      omega
                    · exact l2 h9.1)]) (by rw [es]; unfold rowStep; rw [cif_f (fun h => by
                    rcases h.2 with h9 | h9
                    · have h9 : b1 < _ := h9
                      omega
                    · exact l2 h9.1)]) hC _ _ hP hD hS ls (lv_sub hl [0, 3, 4, 5, 6] rfl)
              · have l2 := cmpI_eq.mp g2
                refine lv_iload hx hb d_Be_planRow_98 (lv_at hl 3 rfl) ?_
                refine kb_ne (tgt := 110) (nI_t (by omega)) hx hb d_Be_planRow_100 (by decide) (fun g3 => ?_) (fun g3 => ?_)
                · refine lv_iinc (v := nI (k + 1 + 1)) (lv' := [(5, .int (nI (k + 1 + 1))), (8, .long (lI (((sbR side kf th wi (okC side fb th wi wn tn row) (vaC side fl th wi wo tn row) cn) (k + 1)) + (RR (min side (row + (k + 1) + kf)))))), (6, .long (lI ((sbR side kf th wi (okC side fb th wi wn tn row) (vaC side fl th wi wo tn row) cn) (k + 1)))), (4, .int (nI b2)), (2, .long (lI b1)), (0, .ref hb_), (1, .int (nI row))]) hx hb d_Be_planRow_110 hl (k := 2) rfl (nI_add _ 1) (by decide) rfl (fun ls hl => ?_)
                  refine lv_goto (tgt := 15) hx hb d_Be_planRow_113 (by decide) ?_
                  exact ih (k + 1) b1 b2 RC SC (by omega) (by rw [es]; unfold rowStep; rw [cif_f (fun h => by
                      rcases h.2 with h9 | h9
                      · have h9 : b1 < _ := h9
                        omega
                      · have h9 : b2 = 0 := h9.2
                        omega)]) (by rw [es]; unfold rowStep; rw [cif_f (fun h => by
                      rcases h.2 with h9 | h9
                      · have h9 : b1 < _ := h9
                        omega
                      · have h9 : b2 = 0 := h9.2
                        omega)]) hC _ _ hP hD hS ls (lv_sub hl [0, 3, 4, 5, 6] rfl)
                · refine lv_lload hx hb d_Be_planRow_103 (lv_at hl 0 rfl) ?_
                  refine lv_lstore_n (lv' := [(2, .long (lI (((sbR side kf th wi (okC side fb th wi wn tn row) (vaC side fl th wi wo tn row) cn) (k + 1)) + (RR (min side (row + (k + 1) + kf)))))), (8, .long (lI (((sbR side kf th wi (okC side fb th wi wn tn row) (vaC side fl th wi wo tn row) cn) (k + 1)) + (RR (min side (row + (k + 1) + kf)))))), (6, .long (lI ((sbR side kf th wi (okC side fb th wi wn tn row) (vaC side fl th wi wo tn row) cn) (k + 1)))), (5, .int (nI (k + 1))), (4, .int (nI b2)), (0, .ref hb_), (1, .int (nI row))]) hx hb d_Be_planRow_105 rfl hl (by decide) rfl (fun ls hl => ?_)
                  refine lv_iload hx hb d_Be_planRow_106 (lv_at hl 3 rfl) ?_
                  refine lv_istore (lv' := [(4, .int (nI (k + 1))), (2, .long (lI (((sbR side kf th wi (okC side fb th wi wn tn row) (vaC side fl th wi wo tn row) cn) (k + 1)) + (RR (min side (row + (k + 1) + kf)))))), (8, .long (lI (((sbR side kf th wi (okC side fb th wi wn tn row) (vaC side fl th wi wo tn row) cn) (k + 1)) + (RR (min side (row + (k + 1) + kf)))))), (6, .long (lI ((sbR side kf th wi (okC side fb th wi wn tn row) (vaC side fl th wi wo tn row) cn) (k + 1)))), (5, .int (nI (k + 1))), (0, .ref hb_), (1, .int (nI row))]) hx hb d_Be_planRow_108 hl (by decide) rfl (fun ls hl => ?_)
                  refine lv_iinc (v := nI (k + 1 + 1)) (lv' := [(5, .int (nI (k + 1 + 1))), (4, .int (nI (k + 1))), (2, .long (lI (((sbR side kf th wi (okC side fb th wi wn tn row) (vaC side fl th wi wo tn row) cn) (k + 1)) + (RR (min side (row + (k + 1) + kf)))))), (8, .long (lI (((sbR side kf th wi (okC side fb th wi wn tn row) (vaC side fl th wi wo tn row) cn) (k + 1)) + (RR (min side (row + (k + 1) + kf)))))), (6, .long (lI ((sbR side kf th wi (okC side fb th wi wn tn row) (vaC side fl th wi wo tn row) cn) (k + 1)))), (0, .ref hb_), (1, .int (nI row))]) hx hb d_Be_planRow_110 hl (k := 4) rfl (nI_add _ 1) (by decide) rfl (fun ls hl => ?_)
                  refine lv_goto (tgt := 15) hx hb d_Be_planRow_113 (by decide) ?_
                  exact ih (k + 1) ((sbR side kf th wi (okC side fb th wi wn tn row) (vaC side fl th wi wo tn row) cn) (k + 1) + RR (min side (row + (k + 1) + kf))) (k + 1) RC SC (by omega) (by rw [es]; unfold rowStep; rw [cif_t (⟨l0, Or.inr ⟨l2, by omega⟩⟩)]) (by rw [es]; unfold rowStep; rw [cif_t (⟨l0, Or.inr ⟨l2, by omega⟩⟩)]) hC _ _ hP hD hS ls (lv_sub hl [0, 1, 2, 5, 6] rfl)
        · refine lv_aload_n hx hb d_Be_planRow_38 rfl (lv_at hl 3 rfl) ?_
          refine lv_iload_n hx hb d_Be_planRow_39 rfl (lv_at hl 4 rfl) ?_
          refine lv_iload hx hb d_Be_planRow_40 (lv_at hl 0 rfl) ?_
          refine kcalll (wc := [(hb_, .inr (1, [.ref bo, .ref hz, .int (nI side), .int (nI kf), .int (nI tn), .ref r1, .ref r2, .ref r3, .ref r4])), (bo, .inr (2, [.ref hz, .ref h0])), (h0, .inr (3, [.int (nI side), .ref a1, .ref a2, .ref a3, .ref a4, .int (pI sm)])), (hz, .inr (5, [.ref t1, .ref t2, .ref t3, .ref t4, .int (nI cn)])), (t1, .inl (cI, 8, .inl (fun j => nI (th j)))), (t2, .inl (cI, 8, .inl (fun j => nI (wi j)))), (t3, .inl (cI, 8, .inl (fun j => nI (wo j)))), (t4, .inl (cI, 8, .inl (fun j => nI (wn j)))), (a3, .inl (cI, ((side + 1) * (side + 1)), .inl (fun j => nI (F3 j)))), (a4, .inl (cI, ((side + 1) * (side + 1)), .inl (fun j => nI (F4 j)))), (r3, .inl (cJ, (side + 1), .inr (.inl (fun j => lI (RC j))))), (r4, .inl (cI, side, .inl (fun j => iI (SC j))))]) (wr := [(r1, .inl (cJ, (side + 1), .inr (.inl (fun j => lI (RR j))))), (r2, .inl (cI, side, .inl (fun j => nI (TR j))))]) [0, 1, 2, 3, 4, 5, 6, 7, 8, 9, 12, 13] [10, 11] (va_runV (As := [.int (nI row), .int (nI (k + 1))]) (rest := []) ⟨hx, hb, hml, hown, hts⟩ (c_planSlab l D cI cJ cZ H.size hb_ bo hz side kf tn r1 r2 r3 r4 h0 a1 a2 a3 a4 sm t1 t2 t3 t4 cn th wi wo wn F3 F4 fb fl RC SC row (k + 1) s1 s2 k4 tn1 n8 ht hw hw1 ho hn m3 m4 hfb hfl (by omega) (by omega) hC) ⟨callB_of 2 hts (gd kc_Be_planSlab) rfl rfl rfl (hts _ (List.mem_cons_of_mem _ k_6)) (hts _ (List.mem_cons_of_mem _ k_224)) (by decide +kernel) ⟨Nat.le_of_ble_eq_true rfl, Nat.le_of_ble_eq_true rfl⟩, hts _ (List.mem_cons_of_mem _ k_226), hts _ (List.mem_cons_of_mem _ ks_2)⟩ ⟨kB_blind, va_recv hK hP (ci := 1) (q0 := 0) rfl rfl, kB_at hP hD hK hZ [0, 1, 2, 3, 4, 5, 6, 7, 8, 9, 12, 13] rfl (by decide) rfl⟩ rfl rfl hl.1 rfl (lv_room (Nat.le_of_ble_eq_true rfl)) d_Be_planRow_42 ⟨Nat.zero_le _, Nat.zero_le _⟩) hP hD hS hA rfl rfl (by decide) (by decide) (fun r_42 u H locs hw_42 hP hD hS => ?_)
          have hP : va_P D vwCl [(r1, .inl (cJ, (side + 1), .inr (.inl (fun j => lI (RR j))))), (r2, .inl (cI, side, .inl (fun j => nI (TR j)))), (hb_, .inr (1, [.ref bo, .ref hz, .int (nI side), .int (nI kf), .int (nI tn), .ref r1, .ref r2, .ref r3, .ref r4])), (bo, .inr (2, [.ref hz, .ref h0])), (h0, .inr (3, [.int (nI side), .ref a1, .ref a2, .ref a3, .ref a4, .int (pI sm)])), (hz, .inr (5, [.ref t1, .ref t2, .ref t3, .ref t4, .int (nI cn)])), (t1, .inl (cI, 8, .inl (fun j => nI (th j)))), (t2, .inl (cI, 8, .inl (fun j => nI (wi j)))), (t3, .inl (cI, 8, .inl (fun j => nI (wo j)))), (t4, .inl (cI, 8, .inl (fun j => nI (wn j)))), (a3, .inl (cI, ((side + 1) * (side + 1)), .inl (fun j => nI (F3 j)))), (a4, .inl (cI, ((side + 1) * (side + 1)), .inl (fun j => nI (F4 j)))), (r3, .inl (cJ, (side + 1), .inr (.inl (fun j => lI (u.1 j))))), (r4, .inl (cI, side, .inl (fun j => iI (u.2 j))))] H := hP
          have hD : va_D A [(r1, .inl (cJ, (side + 1), .inr (.inl (fun j => lI (RR j))))), (r2, .inl (cI, side, .inl (fun j => nI (TR j)))), (hb_, .inr (1, [.ref bo, .ref hz, .int (nI side), .int (nI kf), .int (nI tn), .ref r1, .ref r2, .ref r3, .ref r4])), (bo, .inr (2, [.ref hz, .ref h0])), (h0, .inr (3, [.int (nI side), .ref a1, .ref a2, .ref a3, .ref a4, .int (pI sm)])), (hz, .inr (5, [.ref t1, .ref t2, .ref t3, .ref t4, .int (nI cn)])), (t1, .inl (cI, 8, .inl (fun j => nI (th j)))), (t2, .inl (cI, 8, .inl (fun j => nI (wi j)))), (t3, .inl (cI, 8, .inl (fun j => nI (wo j)))), (t4, .inl (cI, 8, .inl (fun j => nI (wn j)))), (a3, .inl (cI, ((side + 1) * (side + 1)), .inl (fun j => nI (F3 j)))), (a4, .inl (cI, ((side + 1) * (side + 1)), .inl (fun j => nI (F4 j)))), (r3, .inl (cJ, (side + 1), .inr (.inl (fun j => lI (u.1 j))))), (r4, .inl (cI, side, .inl (fun j => iI (u.2 j))))] := hD
          obtain ⟨hr_, hu1, hu2⟩ := hw_42
          subst hr_
          refine lv_goto (tgt := 49) hx hb d_Be_planRow_45 (by decide) ?_
          refine ka_l (y := lI ((sbR side kf th wi (okC side fb th wi wn tn row) (vaC side fl th wi wo tn row) cn) (k + 1))) (congrArg lI (by unfold sbR; rw [cif_t ch])) ?_
          refine lv_lstore (lv' := [(6, .long (lI ((sbR side kf th wi (okC side fb th wi wn tn row) (vaC side fl th wi wo tn row) cn) (k + 1)))), (5, .int (nI (k + 1))), (4, .int (nI b2)), (2, .long (lI b1)), (0, .ref hb_), (1, .int (nI row))]) hx hb d_Be_planRow_49 hl (by decide) rfl (fun ls hl => ?_)
          refine lv_lload hx hb d_Be_planRow_51 (lv_at hl 0 rfl) ?_
          refine lv_aload_n hx hb d_Be_planRow_53 rfl (lv_at hl 4 rfl) ?_
          refine va_get (D := D) (ci := 1) (v := .ref r1) (C := R_Be) (T := T_Be) (N := 9) hx hb hts (fun w h => List.mem_cons_of_mem _ (iw_Be w h)) hown hK hP 2 rfl rfl 5 (by decide) (hts _ (List.mem_cons_of_mem _ k_112)) (fun _ h9 => h9) rfl d_Be_planRow_54 ?_
          refine lv_aload_n hx hb d_Be_planRow_57 rfl (lv_at hl 4 rfl) ?_
          refine va_get (D := D) (ci := 1) (v := .int (nI side)) (C := R_Be) (T := T_Be) (N := 9) hx hb hts (fun w h => List.mem_cons_of_mem _ (iw_Be w h)) hown hK hP 2 rfl rfl 2 (by decide) (hts _ (List.mem_cons_of_mem _ k_109)) (fun _ h9 => h9) rfl d_Be_planRow_58 ?_
          refine lv_iload_n hx hb d_Be_planRow_61 rfl (lv_at hl 5 rfl) ?_
          refine lv_iload hx hb d_Be_planRow_62 (lv_at hl 1 rfl) ?_
          refine lv_iadd hx hb d_Be_planRow_64 ?_
          refine ka_i (y := nI (row + (k + 1))) (nI_add _ _) ?_
          refine lv_aload_n hx hb d_Be_planRow_65 rfl (lv_at hl 4 rfl) ?_
          refine va_get (D := D) (ci := 1) (v := .int (nI kf)) (C := R_Be) (T := T_Be) (N := 9) hx hb hts (fun w h => List.mem_cons_of_mem _ (iw_Be w h)) hown hK hP 2 rfl rfl 3 (by decide) (hts _ (List.mem_cons_of_mem _ k_110)) (fun _ h9 => h9) rfl d_Be_planRow_66 ?_
          refine lv_iadd hx hb d_Be_planRow_69 ?_
          refine ka_i (y := nI ((row + (k + 1)) + kf)) (nI_add _ _) ?_
          refine va_mmin hx hb (hml.trans hl.1.symm) hown (hts _ (List.mem_cons_of_mem _ k_262)) (hts _ (List.mem_cons_of_mem _ k_24)) (hts _ (List.mem_cons_of_mem _ k_2)) (hts _ (List.mem_cons_of_mem _ k_25)) (Nat.le_of_ble_eq_true rfl) (Nat.le_of_ble_eq_true rfl) (Nat.zero_le _) (Nat.zero_le _) d_Be_planRow_70 ?_
          refine ka_i (y := iI (min ((side : Nat) : Int) (((row + (k + 1)) + kf : Nat) : Int))) (mmin32 (nI_t (by omega)) (nI_t (by omega))) ?_
          refine ka_lald (k := (min side (row + (k + 1) + kf))) (n := (side + 1)) (f := fun j => lI (RR j)) ((iI_t (by omega) (by omega)).trans (by omega)) (by omega) hx hb hK hP 0 1 rfl rfl d_Be_planRow_73 ?_
          refine lv_ladd hx hb d_Be_planRow_74 ?_
          refine ka_l (y := lI (((sbR side kf th wi (okC side fb th wi wn tn row) (vaC side fl th wi wo tn row) cn) (k + 1)) + (RR (min side (row + (k + 1) + kf))))) (lI_add _ _) ?_
          refine lv_lstore (lv' := [(8, .long (lI (((sbR side kf th wi (okC side fb th wi wn tn row) (vaC side fl th wi wo tn row) cn) (k + 1)) + (RR (min side (row + (k + 1) + kf)))))), (6, .long (lI ((sbR side kf th wi (okC side fb th wi wn tn row) (vaC side fl th wi wo tn row) cn) (k + 1)))), (5, .int (nI (k + 1))), (4, .int (nI b2)), (2, .long (lI b1)), (0, .ref hb_), (1, .int (nI row))]) hx hb d_Be_planRow_75 hl (by decide) rfl (fun ls hl => ?_)
          refine lv_lload hx hb d_Be_planRow_77 (lv_at hl 1 rfl) ?_
          refine lv_lconst (v := lI 0) hx hb d_Be_planRow_79 (by decide +kernel) ?_
          refine ka_lcmp (lI_t (by omega) (by omega)) (lI_t (by omega) (by omega)) hx hb d_Be_planRow_80 ?_
          refine kb_le (tgt := 110) (cmpI_b _ _) hx hb d_Be_planRow_81 (by decide) (fun g0 => ?_) (fun g0 => ?_)
          · have l0 := cmpI_le.mp g0
            refine lv_iinc (v := nI (k + 1 + 1)) (lv' := [(5, .int (nI (k + 1 + 1))), (8, .long (lI (((sbR side kf th wi (okC side fb th wi wn tn row) (vaC side fl th wi wo tn row) cn) (k + 1)) + (RR (min side (row + (k + 1) + kf)))))), (6, .long (lI ((sbR side kf th wi (okC side fb th wi wn tn row) (vaC side fl th wi wo tn row) cn) (k + 1)))), (4, .int (nI b2)), (2, .long (lI b1)), (0, .ref hb_), (1, .int (nI row))]) hx hb d_Be_planRow_110 hl (k := 2) rfl (nI_add _ 1) (by decide) rfl (fun ls hl => ?_)
            refine lv_goto (tgt := 15) hx hb d_Be_planRow_113 (by decide) ?_
            exact ih (k + 1) b1 b2 u.1 u.2 (by omega) (by rw [es]; unfold rowStep; rw [cif_f (fun h => by have h9 := h.1; omega)]) (by rw [es]; unfold rowStep; rw [cif_f (fun h => by have h9 := h.1; omega)]) (by
                rw [hu1 side (Nat.le_refl _)]
                have h9 := slabT_bd (kf := kf) (thick := k + 1) (th := th) (wi := wi) (ok := (okC side fb th wi wn tn row)) (va := (vaC side fl th wi wo tn row)) (cn := cn) (RC := fun _ => 0) (SC := fun _ => 0) (side := side) rfl hw1 (fun c_ i hi => vaC_bd (ho i (by omega))) side (Nat.le_refl _) side (by omega) (Nat.le_refl _)
                unfold slab0
                omega) _ _ (hP.sub [2, 3, 4, 5, 6, 7, 8, 9, 10, 11, 0, 1, 12, 13] rfl) (hD.sub [2, 3, 4, 5, 6, 7, 8, 9, 10, 11, 0, 1, 12, 13] (by decide) rfl) hS ls (lv_sub hl [0, 3, 4, 5, 6] rfl)
          · have l0 := cmpI_gt.mp g0
            refine lv_lload hx hb d_Be_planRow_84 (lv_at hl 0 rfl) ?_
            refine lv_lload_n hx hb d_Be_planRow_86 rfl (lv_at hl 4 rfl) ?_
            refine ka_lcmp (lI_t (by omega) (by omega)) (lI_t (by omega) (by omega)) hx hb d_Be_planRow_87 ?_
            refine kb_gt (tgt := 103) (cmpI_b _ _) hx hb d_Be_planRow_88 (by decide) (fun g1 => ?_) (fun g1 => ?_)
            · have l1 := cmpI_gt.mp g1
              refine lv_lload hx hb d_Be_planRow_103 (lv_at hl 0 rfl) ?_
              refine lv_lstore_n (lv' := [(2, .long (lI (((sbR side kf th wi (okC side fb th wi wn tn row) (vaC side fl th wi wo tn row) cn) (k + 1)) + (RR (min side (row + (k + 1) + kf)))))), (8, .long (lI (((sbR side kf th wi (okC side fb th wi wn tn row) (vaC side fl th wi wo tn row) cn) (k + 1)) + (RR (min side (row + (k + 1) + kf)))))), (6, .long (lI ((sbR side kf th wi (okC side fb th wi wn tn row) (vaC side fl th wi wo tn row) cn) (k + 1)))), (5, .int (nI (k + 1))), (4, .int (nI b2)), (0, .ref hb_), (1, .int (nI row))]) hx hb d_Be_planRow_105 rfl hl (by decide) rfl (fun ls hl => ?_)
              refine lv_iload hx hb d_Be_planRow_106 (lv_at hl 3 rfl) ?_
              refine lv_istore (lv' := [(4, .int (nI (k + 1))), (2, .long (lI (((sbR side kf th wi (okC side fb th wi wn tn row) (vaC side fl th wi wo tn row) cn) (k + 1)) + (RR (min side (row + (k + 1) + kf)))))), (8, .long (lI (((sbR side kf th wi (okC side fb th wi wn tn row) (vaC side fl th wi wo tn row) cn) (k + 1)) + (RR (min side (row + (k + 1) + kf)))))), (6, .long (lI ((sbR side kf th wi (okC side fb th wi wn tn row) (vaC side fl th wi wo tn row) cn) (k + 1)))), (5, .int (nI (k + 1))), (0, .ref hb_), (1, .int (nI row))]) hx hb d_Be_planRow_108 hl (by decide) rfl (fun ls hl => ?_)
              refine lv_iinc (v := nI (k + 1 + 1)) (lv' := [(5, .int (nI (k + 1 + 1))), (4, .int (nI (k + 1))), (2, .long (lI (((sbR side kf th wi (okC side fb th wi wn tn row) (vaC side fl th wi wo tn row) cn) (k + 1)) + (RR (min side (row + (k + 1) + kf)))))), (8, .long (lI (((sbR side kf th wi (okC side fb th wi wn tn row) (vaC side fl th wi wo tn row) cn) (k + 1)) + (RR (min side (row + (k + 1) + kf)))))), (6, .long (lI ((sbR side kf th wi (okC side fb th wi wn tn row) (vaC side fl th wi wo tn row) cn) (k + 1)))), (0, .ref hb_), (1, .int (nI row))]) hx hb d_Be_planRow_110 hl (k := 4) rfl (nI_add _ 1) (by decide) rfl (fun ls hl => ?_)
              refine lv_goto (tgt := 15) hx hb d_Be_planRow_113 (by decide) ?_
              exact ih (k + 1) ((sbR side kf th wi (okC side fb th wi wn tn row) (vaC side fl th wi wo tn row) cn) (k + 1) + RR (min side (row + (k + 1) + kf))) (k + 1) u.1 u.2 (by omega) (by rw [es]; unfold rowStep; rw [cif_t (⟨l0, Or.inl l1⟩)]) (by rw [es]; unfold rowStep; rw [cif_t (⟨l0, Or.inl l1⟩)]) (by
                  rw [hu1 side (Nat.le_refl _)]
                  have h9 := slabT_bd (kf := kf) (thick := k + 1) (th := th) (wi := wi) (ok := (okC side fb th wi wn tn row)) (va := (vaC side fl th wi wo tn row)) (cn := cn) (RC := fun _ => 0) (SC := fun _ => 0) (side := side) rfl hw1 (fun c_ i hi => vaC_bd (ho i (by omega))) side (Nat.le_refl _) side (by omega) (Nat.le_refl _)
                  unfold slab0
                  omega) _ _ (hP.sub [2, 3, 4, 5, 6, 7, 8, 9, 10, 11, 0, 1, 12, 13] rfl) (hD.sub [2, 3, 4, 5, 6, 7, 8, 9, 10, 11, 0, 1, 12, 13] (by decide) rfl) hS ls (lv_sub hl [0, 1, 2, 5, 6] rfl)
            · have l1 := cmpI_le.mp g1
              refine lv_lload hx hb d_Be_planRow_91 (lv_at hl 0 rfl) ?_
              refine lv_lload_n hx hb d_Be_planRow_93 rfl (lv_at hl 4 rfl) ?_
              refine ka_lcmp (lI_t (by omega) (by omega)) (lI_t (by omega) (by omega)) hx hb d_Be_planRow_94 ?_
              refine kb_ne (tgt := 110) (cmpI_b _ _) hx hb d_Be_planRow_95 (by decide) (fun g2 => ?_) (fun g2 => ?_)
              · have l2 := (not_congr cmpI_eq).mp g2
                refine lv_iinc (v := nI (k + 1 + 1)) (lv' := [(5, .int (nI (k + 1 + 1))), (8, .long (lI (((sbR side kf th wi (okC side fb th wi wn tn row) (vaC side fl th wi wo tn row) cn) (k + 1)) + (RR (min side (row + (k + 1) + kf)))))), (6, .long (lI ((sbR side kf th wi (okC side fb th wi wn tn row) (vaC side fl th wi wo tn row) cn) (k + 1)))), (4, .int (nI b2)), (2, .long (lI b1)), (0, .ref hb_), (1, .int (nI row))]) hx hb d_Be_planRow_110 hl (k := 2) rfl (nI_add _ 1) (by decide) rfl (fun ls hl => ?_)
                refine lv_goto (tgt := 15) hx hb d_Be_planRow_113 (by decide) ?_
                exact ih (k + 1) b1 b2 u.1 u.2 (by omega) (by rw [es]; unfold rowStep; rw [cif_f (fun h => by
                    rcases h.2 with h9 | h9
                    · have h9 : b1 < _ := h9
                      omega
                    · exact l2 h9.1)]) (by rw [es]; unfold rowStep; rw [cif_f (fun h => by
                    rcases h.2 with h9 | h9
                    · have h9 : b1 < _ := h9
                      omega
                    · exact l2 h9.1)]) (by
                    rw [hu1 side (Nat.le_refl _)]
                    have h9 := slabT_bd (kf := kf) (thick := k + 1) (th := th) (wi := wi) (ok := (okC side fb th wi wn tn row)) (va := (vaC side fl th wi wo tn row)) (cn := cn) (RC := fun _ => 0) (SC := fun _ => 0) (side := side) rfl hw1 (fun c_ i hi => vaC_bd (ho i (by omega))) side (Nat.le_refl _) side (by omega) (Nat.le_refl _)
                    unfold slab0
                    omega) _ _ (hP.sub [2, 3, 4, 5, 6, 7, 8, 9, 10, 11, 0, 1, 12, 13] rfl) (hD.sub [2, 3, 4, 5, 6, 7, 8, 9, 10, 11, 0, 1, 12, 13] (by decide) rfl) hS ls (lv_sub hl [0, 3, 4, 5, 6] rfl)
              · have l2 := cmpI_eq.mp g2
                refine lv_iload hx hb d_Be_planRow_98 (lv_at hl 3 rfl) ?_
                refine kb_ne (tgt := 110) (nI_t (by omega)) hx hb d_Be_planRow_100 (by decide) (fun g3 => ?_) (fun g3 => ?_)
                · refine lv_iinc (v := nI (k + 1 + 1)) (lv' := [(5, .int (nI (k + 1 + 1))), (8, .long (lI (((sbR side kf th wi (okC side fb th wi wn tn row) (vaC side fl th wi wo tn row) cn) (k + 1)) + (RR (min side (row + (k + 1) + kf)))))), (6, .long (lI ((sbR side kf th wi (okC side fb th wi wn tn row) (vaC side fl th wi wo tn row) cn) (k + 1)))), (4, .int (nI b2)), (2, .long (lI b1)), (0, .ref hb_), (1, .int (nI row))]) hx hb d_Be_planRow_110 hl (k := 2) rfl (nI_add _ 1) (by decide) rfl (fun ls hl => ?_)
                  refine lv_goto (tgt := 15) hx hb d_Be_planRow_113 (by decide) ?_
                  exact ih (k + 1) b1 b2 u.1 u.2 (by omega) (by rw [es]; unfold rowStep; rw [cif_f (fun h => by
                      rcases h.2 with h9 | h9
                      · have h9 : b1 < _ := h9
                        omega
                      · have h9 : b2 = 0 := h9.2
                        omega)]) (by rw [es]; unfold rowStep; rw [cif_f (fun h => by
                      rcases h.2 with h9 | h9
                      · have h9 : b1 < _ := h9
                        omega
                      · have h9 : b2 = 0 := h9.2
                        omega)]) (by
                      rw [hu1 side (Nat.le_refl _)]
                      have h9 := slabT_bd (kf := kf) (thick := k + 1) (th := th) (wi := wi) (ok := (okC side fb th wi wn tn row)) (va := (vaC side fl th wi wo tn row)) (cn := cn) (RC := fun _ => 0) (SC := fun _ => 0) (side := side) rfl hw1 (fun c_ i hi => vaC_bd (ho i (by omega))) side (Nat.le_refl _) side (by omega) (Nat.le_refl _)
                      unfold slab0
                      omega) _ _ (hP.sub [2, 3, 4, 5, 6, 7, 8, 9, 10, 11, 0, 1, 12, 13] rfl) (hD.sub [2, 3, 4, 5, 6, 7, 8, 9, 10, 11, 0, 1, 12, 13] (by decide) rfl) hS ls (lv_sub hl [0, 3, 4, 5, 6] rfl)
                · refine lv_lload hx hb d_Be_planRow_103 (lv_at hl 0 rfl) ?_
                  refine lv_lstore_n (lv' := [(2, .long (lI (((sbR side kf th wi (okC side fb th wi wn tn row) (vaC side fl th wi wo tn row) cn) (k + 1)) + (RR (min side (row + (k + 1) + kf)))))), (8, .long (lI (((sbR side kf th wi (okC side fb th wi wn tn row) (vaC side fl th wi wo tn row) cn) (k + 1)) + (RR (min side (row + (k + 1) + kf)))))), (6, .long (lI ((sbR side kf th wi (okC side fb th wi wn tn row) (vaC side fl th wi wo tn row) cn) (k + 1)))), (5, .int (nI (k + 1))), (4, .int (nI b2)), (0, .ref hb_), (1, .int (nI row))]) hx hb d_Be_planRow_105 rfl hl (by decide) rfl (fun ls hl => ?_)
                  refine lv_iload hx hb d_Be_planRow_106 (lv_at hl 3 rfl) ?_
                  refine lv_istore (lv' := [(4, .int (nI (k + 1))), (2, .long (lI (((sbR side kf th wi (okC side fb th wi wn tn row) (vaC side fl th wi wo tn row) cn) (k + 1)) + (RR (min side (row + (k + 1) + kf)))))), (8, .long (lI (((sbR side kf th wi (okC side fb th wi wn tn row) (vaC side fl th wi wo tn row) cn) (k + 1)) + (RR (min side (row + (k + 1) + kf)))))), (6, .long (lI ((sbR side kf th wi (okC side fb th wi wn tn row) (vaC side fl th wi wo tn row) cn) (k + 1)))), (5, .int (nI (k + 1))), (0, .ref hb_), (1, .int (nI row))]) hx hb d_Be_planRow_108 hl (by decide) rfl (fun ls hl => ?_)
                  refine lv_iinc (v := nI (k + 1 + 1)) (lv' := [(5, .int (nI (k + 1 + 1))), (4, .int (nI (k + 1))), (2, .long (lI (((sbR side kf th wi (okC side fb th wi wn tn row) (vaC side fl th wi wo tn row) cn) (k + 1)) + (RR (min side (row + (k + 1) + kf)))))), (8, .long (lI (((sbR side kf th wi (okC side fb th wi wn tn row) (vaC side fl th wi wo tn row) cn) (k + 1)) + (RR (min side (row + (k + 1) + kf)))))), (6, .long (lI ((sbR side kf th wi (okC side fb th wi wn tn row) (vaC side fl th wi wo tn row) cn) (k + 1)))), (0, .ref hb_), (1, .int (nI row))]) hx hb d_Be_planRow_110 hl (k := 4) rfl (nI_add _ 1) (by decide) rfl (fun ls hl => ?_)
                  refine lv_goto (tgt := 15) hx hb d_Be_planRow_113 (by decide) ?_
                  exact ih (k + 1) ((sbR side kf th wi (okC side fb th wi wn tn row) (vaC side fl th wi wo tn row) cn) (k + 1) + RR (min side (row + (k + 1) + kf))) (k + 1) u.1 u.2 (by omega) (by rw [es]; unfold rowStep; rw [cif_t (⟨l0, Or.inr ⟨l2, by omega⟩⟩)]) (by rw [es]; unfold rowStep; rw [cif_t (⟨l0, Or.inr ⟨l2, by omega⟩⟩)]) (by
                      rw [hu1 side (Nat.le_refl _)]
                      have h9 := slabT_bd (kf := kf) (thick := k + 1) (th := th) (wi := wi) (ok := (okC side fb th wi wn tn row)) (va := (vaC side fl th wi wo tn row)) (cn := cn) (RC := fun _ => 0) (SC := fun _ => 0) (side := side) rfl hw1 (fun c_ i hi => vaC_bd (ho i (by omega))) side (Nat.le_refl _) side (by omega) (Nat.le_refl _)
                      unfold slab0
                      omega) _ _ (hP.sub [2, 3, 4, 5, 6, 7, 8, 9, 10, 11, 0, 1, 12, 13] rfl) (hD.sub [2, 3, 4, 5, 6, 7, 8, 9, 10, 11, 0, 1, 12, 13] (by decide) rfl) hS ls (lv_sub hl [0, 1, 2, 5, 6] rfl)
  exact lp (side - row) 0 (RR (row + 1)) 0 RC SC (by omega) rfl rfl hR0 _ _ hP hD hS ls (lv_sub hl [0, 1, 2, 3, 4] rfl)
end
section
theorem d_Be_plan_0 : decode b_Be_plan 0 = .ok (.aload_n 0, 1) := by decide +kernel
theorem d_Be_plan_1 : decode b_Be_plan 1 = .ok (.iload_n 1, 1) := by decide +kernel
theorem d_Be_plan_2 : decode b_Be_plan 2 = .ok (.putfield 45, 3) := by decide +kernel
theorem d_Be_plan_5 : decode b_Be_plan 5 = .ok (.aload_n 0, 1) := by decide +kernel
theorem d_Be_plan_6 : decode b_Be_plan 6 = .ok (.getfield 22, 3) := by decide +kernel
theorem d_Be_plan_9 : decode b_Be_plan 9 = .ok (.iconst 1, 1) := by decide +kernel
theorem d_Be_plan_10 : decode b_Be_plan 10 = .ok (.isub, 1) := by decide +kernel
theorem d_Be_plan_11 : decode b_Be_plan 11 = .ok (.istore_n 2, 1) := by decide +kernel
theorem d_Be_plan_12 : decode b_Be_plan 12 = .ok (.iload_n 2, 1) := by decide +kernel
theorem d_Be_plan_13 : decode b_Be_plan 13 = .ok (.ifCond .lt 14, 3) := by decide +kernel
theorem d_Be_plan_16 : decode b_Be_plan 16 = .ok (.aload_n 0, 1) := by decide +kernel
theorem d_Be_plan_17 : decode b_Be_plan 17 = .ok (.iload_n 2, 1) := by decide +kernel
theorem d_Be_plan_18 : decode b_Be_plan 18 = .ok (.invokevirtual 48, 3) := by decide +kernel
theorem d_Be_plan_21 : decode b_Be_plan 21 = .ok (.iinc 2 (-1), 3) := by decide +kernel
theorem d_Be_plan_24 : decode b_Be_plan 24 = .ok (.goto (-12), 3) := by decide +kernel
theorem d_Be_plan_27 : decode b_Be_plan 27 = .ok (.aload_n 0, 1) := by decide +kernel
theorem d_Be_plan_28 : decode b_Be_plan 28 = .ok (.getfield 29, 3) := by decide +kernel
theorem d_Be_plan_31 : decode b_Be_plan 31 = .ok (.iconst 0, 1) := by decide +kernel
theorem d_Be_plan_32 : decode b_Be_plan 32 = .ok (.laload, 1) := by decide +kernel
theorem d_Be_plan_33 : decode b_Be_plan 33 = .ok (.lreturn, 1) := by decide +kernel
theorem d_Pa_clear_0 : decode b_Pa_clear 0 = .ok (.aload_n 0, 1) := by decide +kernel
theorem d_Pa_clear_1 : decode b_Pa_clear 1 = .ok (.iload_n 1, 1) := by decide +kernel
theorem d_Pa_clear_2 : decode b_Pa_clear 2 = .ok (.putfield 19, 3) := by decide +kernel
theorem d_Pa_clear_5 : decode b_Pa_clear 5 = .ok (.aload_n 0, 1) := by decide +kernel
theorem d_Pa_clear_6 : decode b_Pa_clear 6 = .ok (.iconst 0, 1) := by decide +kernel
theorem d_Pa_clear_7 : decode b_Pa_clear 7 = .ok (.putfield 23, 3) := by decide +kernel
theorem d_Pa_clear_10 : decode b_Pa_clear 10 = .ok (.aload_n 0, 1) := by decide +kernel
theorem d_Pa_clear_11 : decode b_Pa_clear 11 = .ok (.iconst 0, 1) := by decide +kernel
theorem d_Pa_clear_12 : decode b_Pa_clear 12 = .ok (.putfield 26, 3) := by decide +kernel
theorem d_Pa_clear_15 : decode b_Pa_clear 15 = .ok (.aload_n 0, 1) := by decide +kernel
theorem d_Pa_clear_16 : decode b_Pa_clear 16 = .ok (.iconst 0, 1) := by decide +kernel
theorem d_Pa_clear_17 : decode b_Pa_clear 17 = .ok (.putfield 29, 3) := by decide +kernel
theorem d_Pa_clear_20 : decode b_Pa_clear 20 = .ok (.aload_n 0, 1) := by decide +kernel
theorem d_Pa_clear_21 : decode b_Pa_clear 21 = .ok (.iconst 0, 1) := by decide +kernel
theorem d_Pa_clear_22 : decode b_Pa_clear 22 = .ok (.putfield 32, 3) := by decide +kernel
theorem d_Pa_clear_25 : decode b_Pa_clear 25 = .ok (.return_, 1) := by decide +kernel
theorem d_Pa_add_0 : decode b_Pa_add 0 = .ok (.aload_n 0, 1) := by decide +kernel
theorem d_Pa_add_1 : decode b_Pa_add 1 = .ok (.getfield 26, 3) := by decide +kernel
theorem d_Pa_add_4 : decode b_Pa_add 4 = .ok (.aload_n 0, 1) := by decide +kernel
theorem d_Pa_add_5 : decode b_Pa_add 5 = .ok (.getfield 7, 3) := by decide +kernel
theorem d_Pa_add_8 : decode b_Pa_add 8 = .ok (.arraylength, 1) := by decide +kernel
theorem d_Pa_add_9 : decode b_Pa_add 9 = .ok (.if_icmp .lt 4, 3) := by decide +kernel
theorem d_Pa_add_12 : decode b_Pa_add 12 = .ok (.return_, 1) := by decide +kernel
theorem d_Pa_add_13 : decode b_Pa_add 13 = .ok (.aload_n 0, 1) := by decide +kernel
theorem d_Pa_add_14 : decode b_Pa_add 14 = .ok (.getfield 7, 3) := by decide +kernel
theorem d_Pa_add_17 : decode b_Pa_add 17 = .ok (.aload_n 0, 1) := by decide +kernel
theorem d_Pa_add_18 : decode b_Pa_add 18 = .ok (.getfield 26, 3) := by decide +kernel
theorem d_Pa_add_21 : decode b_Pa_add 21 = .ok (.iload_n 1, 1) := by decide +kernel
theorem d_Pa_add_22 : decode b_Pa_add 22 = .ok (.iastore, 1) := by decide +kernel
theorem d_Pa_add_23 : decode b_Pa_add 23 = .ok (.aload_n 0, 1) := by decide +kernel
theorem d_Pa_add_24 : decode b_Pa_add 24 = .ok (.getfield 13, 3) := by decide +kernel
theorem d_Pa_add_27 : decode b_Pa_add 27 = .ok (.aload_n 0, 1) := by decide +kernel
theorem d_Pa_add_28 : decode b_Pa_add 28 = .ok (.getfield 26, 3) := by decide +kernel
theorem d_Pa_add_31 : decode b_Pa_add 31 = .ok (.iload_n 2, 1) := by decide +kernel
theorem d_Pa_add_32 : decode b_Pa_add 32 = .ok (.iastore, 1) := by decide +kernel
theorem d_Pa_add_33 : decode b_Pa_add 33 = .ok (.aload_n 0, 1) := by decide +kernel
theorem d_Pa_add_34 : decode b_Pa_add 34 = .ok (.getfield 16, 3) := by decide +kernel
theorem d_Pa_add_37 : decode b_Pa_add 37 = .ok (.aload_n 0, 1) := by decide +kernel
theorem d_Pa_add_38 : decode b_Pa_add 38 = .ok (.getfield 26, 3) := by decide +kernel
theorem d_Pa_add_41 : decode b_Pa_add 41 = .ok (.iload_n 3, 1) := by decide +kernel
theorem d_Pa_add_42 : decode b_Pa_add 42 = .ok (.iastore, 1) := by decide +kernel
theorem d_Pa_add_43 : decode b_Pa_add 43 = .ok (.aload_n 0, 1) := by decide +kernel
theorem d_Pa_add_44 : decode b_Pa_add 44 = .ok (.dup, 1) := by decide +kernel
theorem d_Pa_add_45 : decode b_Pa_add 45 = .ok (.getfield 26, 3) := by decide +kernel
theorem d_Pa_add_48 : decode b_Pa_add 48 = .ok (.iconst 1, 1) := by decide +kernel
theorem d_Pa_add_49 : decode b_Pa_add 49 = .ok (.iadd, 1) := by decide +kernel
theorem d_Pa_add_50 : decode b_Pa_add 50 = .ok (.putfield 26, 3) := by decide +kernel
theorem d_Pa_add_53 : decode b_Pa_add 53 = .ok (.return_, 1) := by decide +kernel
theorem d_Si_add_0 : decode b_Si_add 0 = .ok (.aload_n 0, 1) := by decide +kernel
theorem d_Si_add_1 : decode b_Si_add 1 = .ok (.getfield 24, 3) := by decide +kernel
theorem d_Si_add_4 : decode b_Si_add 4 = .ok (.bipush 8, 2) := by decide +kernel
theorem d_Si_add_6 : decode b_Si_add 6 = .ok (.if_icmp .lt 5, 3) := by decide +kernel
theorem d_Si_add_9 : decode b_Si_add 9 = .ok (.iconst (-1), 1) := by decide +kernel
theorem d_Si_add_10 : decode b_Si_add 10 = .ok (.ireturn, 1) := by decide +kernel
theorem d_Si_add_11 : decode b_Si_add 11 = .ok (.aload_n 0, 1) := by decide +kernel
theorem d_Si_add_12 : decode b_Si_add 12 = .ok (.getfield 9, 3) := by decide +kernel
theorem d_Si_add_15 : decode b_Si_add 15 = .ok (.aload_n 0, 1) := by decide +kernel
theorem d_Si_add_16 : decode b_Si_add 16 = .ok (.getfield 24, 3) := by decide +kernel
theorem d_Si_add_19 : decode b_Si_add 19 = .ok (.iload_n 1, 1) := by decide +kernel
theorem d_Si_add_20 : decode b_Si_add 20 = .ok (.iastore, 1) := by decide +kernel
theorem d_Si_add_21 : decode b_Si_add 21 = .ok (.aload_n 0, 1) := by decide +kernel
theorem d_Si_add_22 : decode b_Si_add 22 = .ok (.getfield 15, 3) := by decide +kernel
theorem d_Si_add_25 : decode b_Si_add 25 = .ok (.aload_n 0, 1) := by decide +kernel
theorem d_Si_add_26 : decode b_Si_add 26 = .ok (.getfield 24, 3) := by decide +kernel
theorem d_Si_add_29 : decode b_Si_add 29 = .ok (.iload_n 2, 1) := by decide +kernel
theorem d_Si_add_30 : decode b_Si_add 30 = .ok (.iastore, 1) := by decide +kernel
theorem d_Si_add_31 : decode b_Si_add 31 = .ok (.aload_n 0, 1) := by decide +kernel
theorem d_Si_add_32 : decode b_Si_add 32 = .ok (.getfield 18, 3) := by decide +kernel
theorem d_Si_add_35 : decode b_Si_add 35 = .ok (.aload_n 0, 1) := by decide +kernel
theorem d_Si_add_36 : decode b_Si_add 36 = .ok (.getfield 24, 3) := by decide +kernel
theorem d_Si_add_39 : decode b_Si_add 39 = .ok (.iload_n 3, 1) := by decide +kernel
theorem d_Si_add_40 : decode b_Si_add 40 = .ok (.iastore, 1) := by decide +kernel
theorem d_Si_add_41 : decode b_Si_add 41 = .ok (.aload_n 0, 1) := by decide +kernel
theorem d_Si_add_42 : decode b_Si_add 42 = .ok (.getfield 21, 3) := by decide +kernel
theorem d_Si_add_45 : decode b_Si_add 45 = .ok (.aload_n 0, 1) := by decide +kernel
theorem d_Si_add_46 : decode b_Si_add 46 = .ok (.getfield 24, 3) := by decide +kernel
theorem d_Si_add_49 : decode b_Si_add 49 = .ok (.iload 4, 2) := by decide +kernel
theorem d_Si_add_51 : decode b_Si_add 51 = .ok (.iastore, 1) := by decide +kernel
theorem d_Si_add_52 : decode b_Si_add 52 = .ok (.aload_n 0, 1) := by decide +kernel
theorem d_Si_add_53 : decode b_Si_add 53 = .ok (.dup, 1) := by decide +kernel
theorem d_Si_add_54 : decode b_Si_add 54 = .ok (.getfield 24, 3) := by decide +kernel
theorem d_Si_add_57 : decode b_Si_add 57 = .ok (.iconst 1, 1) := by decide +kernel
theorem d_Si_add_58 : decode b_Si_add 58 = .ok (.iadd, 1) := by decide +kernel
theorem d_Si_add_59 : decode b_Si_add 59 = .ok (.putfield 24, 3) := by decide +kernel
theorem d_Si_add_62 : decode b_Si_add 62 = .ok (.aload_n 0, 1) := by decide +kernel
theorem d_Si_add_63 : decode b_Si_add 63 = .ok (.getfield 24, 3) := by decide +kernel
theorem d_Si_add_66 : decode b_Si_add 66 = .ok (.iconst 1, 1) := by decide +kernel
theorem d_Si_add_67 : decode b_Si_add 67 = .ok (.isub, 1) := by decide +kernel
theorem d_Si_add_68 : decode b_Si_add 68 = .ok (.ireturn, 1) := by decide +kernel
noncomputable def sbT (side kf : Nat) (th wi wo wn : Nat → Nat) (fb fl : Nat → Nat → Nat) (cn tn row : Nat) : Nat → Int := sbR side kf th wi (okC side fb th wi wn tn row) (vaC side fl th wi wo tn row) cn
theorem sbT_bd {side kf : Nat} {th wi wo wn : Nat → Nat} {fb fl : Nat → Nat → Nat} {cn tn : Nat} (hw : ∀ i, i < cn → 1 ≤ wi i) (ho : ∀ i, i < cn → wo i ≤ 100000) (hs : side ≤ 20) : ∀ r t, 0 ≤ sbT side kf th wi wo wn fb fl cn tn r t ∧ sbT side kf th wi wo wn fb fl cn tn r t ≤ 2000020000 := fun r t => sbR_bd hw (fun _ i hi => vaC_bd (ho i hi)) hs
/-- a turn's tables, whole -/
noncomputable def plan0 (side kf : Nat) (th wi wo wn : Nat → Nat) (fb fl : Nat → Nat → Nat) (cn tn : Nat) : (Nat → Int) × (Nat → Nat) := planT side kf (sbT side kf th wi wo wn fb fl cn tn) (fun _ => 0) (fun _ => 0) side
set_option maxHeartbeats 4000000 in
set_option maxRecDepth 100000 in
theorem c_plan (l : Launch) (D : va_G) (cI cJ cZ : ClassId) (sz : Nat) (hb_ : Nat) (bo : Nat) (hz : Nat) (side : Nat) (kf : Nat) (tn : Nat) (r1 : Nat) (r2 : Nat) (r3 : Nat) (r4 : Nat) (h0 : Nat) (a1 : Nat) (a2 : Nat) (a3 : Nat) (a4 : Nat) (sm : Prop) (t1 : Nat) (t2 : Nat) (t3 : Nat) (t4 : Nat) (cn : Nat) (th : Nat → Nat) (wi : Nat → Nat) (wo : Nat → Nat) (wn : Nat → Nat) (F3 : Nat → Nat) (F4 : Nat → Nat) (fb : Nat → Nat → Nat) (fl : Nat → Nat → Nat) (RR : Nat → Int) (TR : Nat → Nat) (RC : Nat → Int) (SC : Nat → Int) (tq : Nat) (s1 : 1 ≤ side) (s2 : side ≤ 20) (k4 : kf ≤ 4) (tn1 : tn ≤ 1) (n8 : cn ≤ 8) (ht : ∀ k, k < 8 → th k ≤ 20) (hw : ∀ k, k < 8 → wi k ≤ 20) (hw1 : ∀ k, k < cn → 1 ≤ wi k) (ho : ∀ k, k < 8 → wo k ≤ 100000) (hn : ∀ k, k < 8 → wn k ≤ 400) (m3 : ∀ X Y, X ≤ side → Y ≤ side → F3 (Y * (side + 1) + X) = psm fb X Y) (m4 : ∀ X Y, X ≤ side → Y ≤ side → F4 (Y * (side + 1) + X) = psm fl X Y) (hfb : ∀ i j, i < side → j < side → fb i j ≤ 10000) (hfl : ∀ i j, i < side → j < side → fl i j ≤ 10000) (tq1 : tq ≤ 1) (hR0 : RC side = 0) (hRR0 : RR side = 0) : Met l y_Be_plan w_Be_plan ({ frames := 5, cells := 0, slots := 0, locals := 133 }) (va_Pc [.ref hb_, .int (nI tq)] (kB D vwCl (tyL cI cJ cZ) sz [(hb_, .inr (1, [.ref bo, .ref hz, .int (nI side), .int (nI kf), .int (nI tn), .ref r1, .ref r2, .ref r3, .ref r4])), (bo, .inr (2, [.ref hz, .ref h0])), (h0, .inr (3, [.int (nI side), .ref a1, .ref a2, .ref a3, .ref a4, .int (pI sm)])), (hz, .inr (5, [.ref t1, .ref t2, .ref t3, .ref t4, .int (nI cn)])), (t1, .inl (cI, 8, .inl (fun j => nI (th j)))), (t2, .inl (cI, 8, .inl (fun j => nI (wi j)))), (t3, .inl (cI, 8, .inl (fun j => nI (wo j)))), (t4, .inl (cI, 8, .inl (fun j => nI (wn j)))), (a3, .inl (cI, ((side + 1) * (side + 1)), .inl (fun j => nI (F3 j)))), (a4, .inl (cI, ((side + 1) * (side + 1)), .inl (fun j => nI (F4 j)))), (r1, .inl (cJ, (side + 1), .inr (.inl (fun j => lI (RR j))))), (r2, .inl (cI, side, .inl (fun j => nI (TR j)))), (r3, .inl (cJ, (side + 1), .inr (.inl (fun j => lI (RC j))))), (r4, .inl (cI, side, .inl (fun j => iI (SC j))))])) (va_Ql (fun (r : Int64) (u : (Nat → Int) × (Nat → Nat) × (Nat → Int) × (Nat → Int)) => r = lI ((plan0 side kf th wi wo wn fb fl cn tq).1 0) ∧ (∀ j, j ≤ side → u.1 j = (plan0 side kf th wi wo wn fb fl cn tq).1 j) ∧ (∀ j, j < side → u.2.1 j = (plan0 side kf th wi wo wn fb fl cn tq).2 j) ∧ u.2.2.1 side = 0) (fun (u : (Nat → Int) × (Nat → Nat) × (Nat → Int) × (Nat → Int)) t => kE D vwCl (va_A [(hb_, .inr (1, [.ref bo, .ref hz, .int (nI side), .int (nI kf), .int (nI tn), .ref r1, .ref r2, .ref r3, .ref r4])), (bo, .inr (2, [.ref hz, .ref h0])), (h0, .inr (3, [.int (nI side), .ref a1, .ref a2, .ref a3, .ref a4, .int (pI sm)])), (hz, .inr (5, [.ref t1, .ref t2, .ref t3, .ref t4, .int (nI cn)])), (t1, .inl (cI, 8, .inl (fun j => nI (th j)))), (t2, .inl (cI, 8, .inl (fun j => nI (wi j)))), (t3, .inl (cI, 8, .inl (fun j => nI (wo j)))), (t4, .inl (cI, 8, .inl (fun j => nI (wn j)))), (a3, .inl (cI, ((side + 1) * (side + 1)), .inl (fun j => nI (F3 j)))), (a4, .inl (cI, ((side + 1) * (side + 1)), .inl (fun j => nI (F4 j)))), (r1, .inl (cJ, (side + 1), .inr (.inl (fun j => lI (RR j))))), (r2, .inl (cI, side, .inl (fun j => nI (TR j)))), (r3, .inl (cJ, (side + 1), .inr (.inl (fun j => lI (RC j))))), (r4, .inl (cI, side, .inl (fun j => iI (SC j))))] sz) [(hb_, .inr (1, [.ref bo, .ref hz, .int (nI side), .int (nI kf), .int (nI tq), .ref r1, .ref r2, .ref r3, .ref r4])), (bo, .inr (2, [.ref hz, .ref h0])), (h0, .inr (3, [.int (nI side), .ref a1, .ref a2, .ref a3, .ref a4, .int (pI sm)])), (hz, .inr (5, [.ref t1, .ref t2, .ref t3, .ref t4, .int (nI cn)])), (t1, .inl (cI, 8, .inl (fun j => nI (th j)))), (t2, .inl (cI, 8, .inl (fun j => nI (wi j)))), (t3, .inl (cI, 8, .inl (fun j => nI (wo j)))), (t4, .inl (cI, 8, .inl (fun j => nI (wn j)))), (a3, .inl (cI, ((side + 1) * (side + 1)), .inl (fun j => nI (F3 j)))), (a4, .inl (cI, ((side + 1) * (side + 1)), .inl (fun j => nI (F4 j)))), (r1, .inl (cJ, (side + 1), .inr (.inl (fun j => lI (u.1 j))))), (r2, .inl (cI, side, .inl (fun j => nI (u.2.1 j)))), (r3, .inl (cJ, (side + 1), .inr (.inl (fun j => lI (u.2.2.1 j))))), (r4, .inl (cI, side, .inl (fun j => iI (u.2.2.2 j))))] t) (va_A [(hb_, .inr (1, [.ref bo, .ref hz, .int (nI side), .int (nI kf), .int (nI tn), .ref r1, .ref r2, .ref r3, .ref r4])), (bo, .inr (2, [.ref hz, .ref h0])), (h0, .inr (3, [.int (nI side), .ref a1, .ref a2, .ref a3, .ref a4, .int (pI sm)])), (hz, .inr (5, [.ref t1, .ref t2, .ref t3, .ref t4, .int (nI cn)])), (t1, .inl (cI, 8, .inl (fun j => nI (th j)))), (t2, .inl (cI, 8, .inl (fun j => nI (wi j)))), (t3, .inl (cI, 8, .inl (fun j => nI (wo j)))), (t4, .inl (cI, 8, .inl (fun j => nI (wn j)))), (a3, .inl (cI, ((side + 1) * (side + 1)), .inl (fun j => nI (F3 j)))), (a4, .inl (cI, ((side + 1) * (side + 1)), .inl (fun j => nI (F4 j)))), (r1, .inl (cJ, (side + 1), .inr (.inl (fun j => lI (RR j))))), (r2, .inl (cI, side, .inl (fun j => nI (TR j)))), (r3, .inl (cJ, (side + 1), .inr (.inl (fun j => lI (RC j))))), (r4, .inl (cI, side, .inl (fun j => iI (SC j))))] sz)) 0 0 (va_A [(hb_, .inr (1, [.ref bo, .ref hz, .int (nI side), .int (nI kf), .int (nI tn), .ref r1, .ref r2, .ref r3, .ref r4])), (bo, .inr (2, [.ref hz, .ref h0])), (h0, .inr (3, [.int (nI side), .ref a1, .ref a2, .ref a3, .ref a4, .int (pI sm)])), (hz, .inr (5, [.ref t1, .ref t2, .ref t3, .ref t4, .int (nI cn)])), (t1, .inl (cI, 8, .inl (fun j => nI (th j)))), (t2, .inl (cI, 8, .inl (fun j => nI (wi j)))), (t3, .inl (cI, 8, .inl (fun j => nI (wo j)))), (t4, .inl (cI, 8, .inl (fun j => nI (wn j)))), (a3, .inl (cI, ((side + 1) * (side + 1)), .inl (fun j => nI (F3 j)))), (a4, .inl (cI, ((side + 1) * (side + 1)), .inl (fun j => nI (F4 j)))), (r1, .inl (cJ, (side + 1), .inr (.inl (fun j => lI (RR j))))), (r2, .inl (cI, side, .inl (fun j => nI (TR j)))), (r3, .inl (cJ, (side + 1), .inr (.inl (fun j => lI (RC j))))), (r4, .inl (cI, side, .inl (fun j => iI (SC j))))] sz) := by
  refine Met.ofW (cc := b_Be_plan) (maxL := 3) (ret := (some (.long))) (by decide) rfl ?_
  intro p e s m args below meth c s₁ B hml hv
  obtain ⟨rfl, hsz, hP, hK, hD0, hZ⟩ := hv
  have hx := B.exec
  have hb := B.bytes
  have hr := B.returns
  have hts := atoms_spec (ws := w_Be_plan) B.pre
  have hown : s.vm.findClass R_Be = some m.cls := findClass_of_methodNamed B.named
  have hlocks := B.notSynchronized
  subst hsz
  have hD := hD0.self (sz := s.heap.size)
  generalize hAe : va_A [(hb_, .inr (1, [.ref bo, .ref hz, .int (nI side), .int (nI kf), .int (nI tn), .ref r1, .ref r2, .ref r3, .ref r4])), (bo, .inr (2, [.ref hz, .ref h0])), (h0, .inr (3, [.int (nI side), .ref a1, .ref a2, .ref a3, .ref a4, .int (pI sm)])), (hz, .inr (5, [.ref t1, .ref t2, .ref t3, .ref t4, .int (nI cn)])), (t1, .inl (cI, 8, .inl (fun j => nI (th j)))), (t2, .inl (cI, 8, .inl (fun j => nI (wi j)))), (t3, .inl (cI, 8, .inl (fun j => nI (wo j)))), (t4, .inl (cI, 8, .inl (fun j => nI (wn j)))), (a3, .inl (cI, ((side + 1) * (side + 1)), .inl (fun j => nI (F3 j)))), (a4, .inl (cI, ((side + 1) * (side + 1)), .inl (fun j => nI (F4 j)))), (r1, .inl (cJ, (side + 1), .inr (.inl (fun j => lI (RR j))))), (r2, .inl (cI, side, .inl (fun j => nI (TR j)))), (r3, .inl (cJ, (side + 1), .inr (.inl (fun j => lI (RC j))))), (r4, .inl (cI, side, .inl (fun j => iI (SC j))))] s.heap.size = A at hD ⊢
  have hA : ∀ q : Nat, s.heap.size ≤ q → A q := fun q h => by rw [← hAe]; exact Or.inr h
  have hS : va_S A s.heap s.heap [] := va_S.rf
  have hP : va_P D vwCl [(hb_, .inr (1, [.ref bo, .ref hz, .int (nI side), .int (nI kf), .int (nI tn), .ref r1, .ref r2, .ref r3, .ref r4])), (bo, .inr (2, [.ref hz, .ref h0])), (h0, .inr (3, [.int (nI side), .ref a1, .ref a2, .ref a3, .ref a4, .int (pI sm)])), (hz, .inr (5, [.ref t1, .ref t2, .ref t3, .ref t4, .int (nI cn)])), (t1, .inl (cI, 8, .inl (fun j => nI (th j)))), (t2, .inl (cI, 8, .inl (fun j => nI (wi j)))), (t3, .inl (cI, 8, .inl (fun j => nI (wo j)))), (t4, .inl (cI, 8, .inl (fun j => nI (wn j)))), (a3, .inl (cI, ((side + 1) * (side + 1)), .inl (fun j => nI (F3 j)))), (a4, .inl (cI, ((side + 1) * (side + 1)), .inl (fun j => nI (F4 j)))), (r1, .inl (cJ, (side + 1), .inr (.inl (fun j => lI (RR j))))), (r2, .inl (cI, side, .inl (fun j => nI (TR j)))), (r3, .inl (cJ, (side + 1), .inr (.inl (fun j => lI (RC j))))), (r4, .inl (cI, side, .inl (fun j => iI (SC j))))] s.heap := hP
  have hl := lv_entry ([.ref hb_, .int (nI tq)]) (n := 3) (Nat.le_of_ble_eq_true rfl)
  rw [lg_entry_eq]
  generalize (lg_sl ([.ref hb_, .int (nI tq)]) ++ List.replicate (3 - (lg_sl ([.ref hb_, .int (nI tq)])).length) Slot.unset).toArray = ls at hl ⊢
  have hl : lv_has ls 3 [(0, .ref hb_), (1, .int (nI tq))] := hl
  refine lv_aload_n hx hb d_Be_plan_0 rfl (lv_at hl 0 rfl) ?_
  refine lv_iload_n hx hb d_Be_plan_1 rfl (lv_at hl 1 rfl) ?_
  refine va_put (D := D) (ci := 1) (v := .int (nI tq)) (ty := .int) (C := R_Be) (T := T_Be) (N := 9) hx hb hts (fun w h => List.mem_cons_of_mem _ (iw_Be w h)) ty_Be tyok_Be nm_Be hown hK hP hD hS 0 rfl rfl 4 (by decide) (hts _ (List.mem_cons_of_mem _ k_111)) (fun _ h9 => h9) rfl (by decide +kernel) (rfl) (rfl) (Nat.le_of_ble_eq_true rfl) d_Be_plan_2 (fun H locs hP hD hS => ?_)
  have hP : va_P D vwCl [(hb_, .inr (1, [.ref bo, .ref hz, .int (nI side), .int (nI kf), .int (nI tq), .ref r1, .ref r2, .ref r3, .ref r4])), (bo, .inr (2, [.ref hz, .ref h0])), (h0, .inr (3, [.int (nI side), .ref a1, .ref a2, .ref a3, .ref a4, .int (pI sm)])), (hz, .inr (5, [.ref t1, .ref t2, .ref t3, .ref t4, .int (nI cn)])), (t1, .inl (cI, 8, .inl (fun j => nI (th j)))), (t2, .inl (cI, 8, .inl (fun j => nI (wi j)))), (t3, .inl (cI, 8, .inl (fun j => nI (wo j)))), (t4, .inl (cI, 8, .inl (fun j => nI (wn j)))), (a3, .inl (cI, ((side + 1) * (side + 1)), .inl (fun j => nI (F3 j)))), (a4, .inl (cI, ((side + 1) * (side + 1)), .inl (fun j => nI (F4 j)))), (r1, .inl (cJ, (side + 1), .inr (.inl (fun j => lI (RR j))))), (r2, .inl (cI, side, .inl (fun j => nI (TR j)))), (r3, .inl (cJ, (side + 1), .inr (.inl (fun j => lI (RC j))))), (r4, .inl (cI, side, .inl (fun j => iI (SC j))))] H := hP
  have hD : va_D A [(hb_, .inr (1, [.ref bo, .ref hz, .int (nI side), .int (nI kf), .int (nI tq), .ref r1, .ref r2, .ref r3, .ref r4])), (bo, .inr (2, [.ref hz, .ref h0])), (h0, .inr (3, [.int (nI side), .ref a1, .ref a2, .ref a3, .ref a4, .int (pI sm)])), (hz, .inr (5, [.ref t1, .ref t2, .ref t3, .ref t4, .int (nI cn)])), (t1, .inl (cI, 8, .inl (fun j => nI (th j)))), (t2, .inl (cI, 8, .inl (fun j => nI (wi j)))), (t3, .inl (cI, 8, .inl (fun j => nI (wo j)))), (t4, .inl (cI, 8, .inl (fun j => nI (wn j)))), (a3, .inl (cI, ((side + 1) * (side + 1)), .inl (fun j => nI (F3 j)))), (a4, .inl (cI, ((side + 1) * (side + 1)), .inl (fun j => nI (F4 j)))), (r1, .inl (cJ, (side + 1), .inr (.inl (fun j => lI (RR j))))), (r2, .inl (cI, side, .inl (fun j => nI (TR j)))), (r3, .inl (cJ, (side + 1), .inr (.inl (fun j => lI (RC j))))), (r4, .inl (cI, side, .inl (fun j => iI (SC j))))] := hD
  refine lv_aload_n hx hb d_Be_plan_5 rfl (lv_at hl 0 rfl) ?_
  refine va_get (D := D) (ci := 1) (v := .int (nI side)) (C := R_Be) (T := T_Be) (N := 9) hx hb hts (fun w h => List.mem_cons_of_mem _ (iw_Be w h)) hown hK hP 0 rfl rfl 2 (by decide) (hts _ (List.mem_cons_of_mem _ k_109)) (fun _ h9 => h9) rfl d_Be_plan_6 ?_
  refine lv_iconst (v := nI 1) hx hb d_Be_plan_9 (by decide +kernel) ?_
  refine lv_isub hx hb d_Be_plan_10 ?_
  refine ka_i (y := iI (((side : Nat) : Int) - ((1 : Nat) : Int))) (by rw [iI_of side, iI_of 1]; exact iI_sub _ _) ?_
  refine lv_istore_n (lv' := [(2, .int (iI (((side : Nat) : Int) - ((1 : Nat) : Int)))), (0, .ref hb_), (1, .int (nI tq))]) hx hb d_Be_plan_11 rfl hl (by decide) rfl (fun ls hl => ?_)
  have hPB := planT_bd (kf := kf) (TR := TR) hRR0 (sbT_bd (side := side) (kf := kf) (th := th) (wo := wo) (wn := wn) (fb := fb) (fl := fl) (cn := cn) (tn := tq) hw1 (fun i hi => ho i (by omega)) s2)
  have lp : ∀ (n : Nat) (d : Nat) (z : Int) (RC : Nat → Int) (SC : Nat → Int), (d + n = side) → (z = (side : Int) - 1 - (d : Int)) → (RC side = 0) → ∀ (H : Heap) (locs : List Loc), va_P D vwCl [(hb_, .inr (1, [.ref bo, .ref hz, .int (nI side), .int (nI kf), .int (nI tq), .ref r1, .ref r2, .ref r3, .ref r4])), (bo, .inr (2, [.ref hz, .ref h0])), (h0, .inr (3, [.int (nI side), .ref a1, .ref a2, .ref a3, .ref a4, .int (pI sm)])), (hz, .inr (5, [.ref t1, .ref t2, .ref t3, .ref t4, .int (nI cn)])), (t1, .inl (cI, 8, .inl (fun j => nI (th j)))), (t2, .inl (cI, 8, .inl (fun j => nI (wi j)))), (t3, .inl (cI, 8, .inl (fun j => nI (wo j)))), (t4, .inl (cI, 8, .inl (fun j => nI (wn j)))), (a3, .inl (cI, ((side + 1) * (side + 1)), .inl (fun j => nI (F3 j)))), (a4, .inl (cI, ((side + 1) * (side + 1)), .inl (fun j => nI (F4 j)))), (r1, .inl (cJ, (side + 1), .inr (.inl (fun j => lI (((planT side kf (sbT side kf th wi wo wn fb fl cn tq) RR TR d).1) j))))), (r2, .inl (cI, side, .inl (fun j => nI (((planT side kf (sbT side kf th wi wo wn fb fl cn tq) RR TR d).2) j)))), (r3, .inl (cJ, (side + 1), .inr (.inl (fun j => lI (RC j))))), (r4, .inl (cI, side, .inl (fun j => iI (SC j))))] H → va_D A [(hb_, .inr (1, [.ref bo, .ref hz, .int (nI side), .int (nI kf), .int (nI tq), .ref r1, .ref r2, .ref r3, .ref r4])), (bo, .inr (2, [.ref hz, .ref h0])), (h0, .inr (3, [.int (nI side), .ref a1, .ref a2, .ref a3, .ref a4, .int (pI sm)])), (hz, .inr (5, [.ref t1, .ref t2, .ref t3, .ref t4, .int (nI cn)])), (t1, .inl (cI, 8, .inl (fun j => nI (th j)))), (t2, .inl (cI, 8, .inl (fun j => nI (wi j)))), (t3, .inl (cI, 8, .inl (fun j => nI (wo j)))), (t4, .inl (cI, 8, .inl (fun j => nI (wn j)))), (a3, .inl (cI, ((side + 1) * (side + 1)), .inl (fun j => nI (F3 j)))), (a4, .inl (cI, ((side + 1) * (side + 1)), .inl (fun j => nI (F4 j)))), (r1, .inl (cJ, (side + 1), .inr (.inl (fun j => lI (((planT side kf (sbT side kf th wi wo wn fb fl cn tq) RR TR d).1) j))))), (r2, .inl (cI, side, .inl (fun j => nI (((planT side kf (sbT side kf th wi wo wn fb fl cn tq) RR TR d).2) j)))), (r3, .inl (cJ, (side + 1), .inr (.inl (fun j => lI (RC j))))), (r4, .inl (cI, side, .inl (fun j => iI (SC j))))] → va_S A s.heap H locs → ∀ ls : Array Slot, lv_has ls 3 [(2, .int (iI z)), (0, .ref hb_), (1, .int (nI tq))] → W p l e (headSpec w_Be_plan ({ frames := 5, cells := 0, slots := 0, locals := 133 })).room s m ([.ref hb_, .int (nI tq)]).toArray below meth c H locs 0 0 (MQ below (va_Ql (fun (r : Int64) (u : (Nat → Int) × (Nat → Nat) × (Nat → Int) × (Nat → Int)) => r = lI ((plan0 side kf th wi wo wn fb fl cn tq).1 0) ∧ (∀ j, j ≤ side → u.1 j = (plan0 side kf th wi wo wn fb fl cn tq).1 j) ∧ (∀ j, j < side → u.2.1 j = (plan0 side kf th wi wo wn fb fl cn tq).2 j) ∧ u.2.2.1 side = 0) (fun (u : (Nat → Int) × (Nat → Nat) × (Nat → Int) × (Nat → Int)) t => kE D vwCl A [(hb_, .inr (1, [.ref bo, .ref hz, .int (nI side), .int (nI kf), .int (nI tq), .ref r1, .ref r2, .ref r3, .ref r4])), (bo, .inr (2, [.ref hz, .ref h0])), (h0, .inr (3, [.int (nI side), .ref a1, .ref a2, .ref a3, .ref a4, .int (pI sm)])), (hz, .inr (5, [.ref t1, .ref t2, .ref t3, .ref t4, .int (nI cn)])), (t1, .inl (cI, 8, .inl (fun j => nI (th j)))), (t2, .inl (cI, 8, .inl (fun j => nI (wi j)))), (t3, .inl (cI, 8, .inl (fun j => nI (wo j)))), (t4, .inl (cI, 8, .inl (fun j => nI (wn j)))), (a3, .inl (cI, ((side + 1) * (side + 1)), .inl (fun j => nI (F3 j)))), (a4, .inl (cI, ((side + 1) * (side + 1)), .inl (fun j => nI (F4 j)))), (r1, .inl (cJ, (side + 1), .inr (.inl (fun j => lI (u.1 j))))), (r2, .inl (cI, side, .inl (fun j => nI (u.2.1 j)))), (r3, .inl (cJ, (side + 1), .inr (.inl (fun j => lI (u.2.2.1 j))))), (r4, .inl (cI, side, .inl (fun j => iI (u.2.2.2 j))))] t) A) ([.ref hb_, .int (nI tq)]).toArray s 0 0 A) (F0 m 12 ls []) := by
    intro n
    induction n with
    | zero =>
      intro d z RC SC hi ez hC H locs hP hD hS ls hl
      refine lv_iload_n hx hb d_Be_plan_12 rfl (lv_at hl 0 rfl) ?_
      refine kb_lt (tgt := 27) (iI_t (by omega) (by omega)) hx hb d_Be_plan_13 (by decide) (fun c_13 => ?_) (fun c_13 => ?_)
      · have ed : side = d := by omega
        subst ed
        refine lv_aload_n hx hb d_Be_plan_27 rfl (lv_at hl 1 rfl) ?_
        refine va_get (D := D) (ci := 1) (v := .ref r1) (C := R_Be) (T := T_Be) (N := 9) hx hb hts (fun w h => List.mem_cons_of_mem _ (iw_Be w h)) hown hK hP 0 rfl rfl 5 (by decide) (hts _ (List.mem_cons_of_mem _ k_112)) (fun _ h9 => h9) rfl d_Be_plan_28 ?_
        refine lv_iconst (v := nI 0) hx hb d_Be_plan_31 (by decide +kernel) ?_
        refine ka_lald (k := 0) (n := (side + 1)) (f := fun j => lI (((planT side kf (sbT side kf th wi wo wn fb fl cn tq) RR TR side).1) j)) (nI_t (by omega)) (by omega) hx hb hK hP 10 1 rfl rfl d_Be_plan_32 ?_
        have qs := planT_same (kf := kf) (sb := sbT side kf th wi wo wn fb fl cn tq) (RR := RR) (TR := TR) (RR' := fun _ => 0) (TR' := fun _ => 0) hRR0 side (Nat.le_refl _)
        exact kretl (u := ((planT side kf (sbT side kf th wi wo wn fb fl cn tq) RR TR side).1, (planT side kf (sbT side kf th wi wo wn fb fl cn tq) RR TR side).2, RC, SC)) hx hb hr hP hD hS hlocks rfl (⟨congrArg lI (qs.1 0 (by omega) (by omega)), fun j hj => qs.1 j (by omega) hj, fun j hj => qs.2 j (by omega) hj, hC⟩) d_Be_plan_33
      · exfalso; omega
    | succ n ih =>
      intro d z RC SC hi ez hC H locs hP hD hS ls hl
      refine lv_iload_n hx hb d_Be_plan_12 rfl (lv_at hl 0 rfl) ?_
      refine kb_lt (tgt := 27) (iI_t (by omega) (by omega)) hx hb d_Be_plan_13 (by decide) (fun c_13 => ?_) (fun c_13 => ?_)
      · exfalso; omega
      · refine lv_aload_n hx hb d_Be_plan_16 rfl (lv_at hl 1 rfl) ?_
        refine lv_iload_n hx hb d_Be_plan_17 rfl (lv_at hl 0 rfl) ?_
        refine ka_i (y := nI (side - 1 - d)) (iI_eqn (by omega)) ?_
        refine kcallv (wc := [(hb_, .inr (1, [.ref bo, .ref hz, .int (nI side), .int (nI kf), .int (nI tq), .ref r1, .ref r2, .ref r3, .ref r4])), (bo, .inr (2, [.ref hz, .ref h0])), (h0, .inr (3, [.int (nI side), .ref a1, .ref a2, .ref a3, .ref a4, .int (pI sm)])), (hz, .inr (5, [.ref t1, .ref t2, .ref t3, .ref t4, .int (nI cn)])), (t1, .inl (cI, 8, .inl (fun j => nI (th j)))), (t2, .inl (cI, 8, .inl (fun j => nI (wi j)))), (t3, .inl (cI, 8, .inl (fun j => nI (wo j)))), (t4, .inl (cI, 8, .inl (fun j => nI (wn j)))), (a3, .inl (cI, ((side + 1) * (side + 1)), .inl (fun j => nI (F3 j)))), (a4, .inl (cI, ((side + 1) * (side + 1)), .inl (fun j => nI (F4 j)))), (r1, .inl (cJ, (side + 1), .inr (.inl (fun j => lI (((planT side kf (sbT side kf th wi wo wn fb fl cn tq) RR TR d).1) j))))), (r2, .inl (cI, side, .inl (fun j => nI (((planT side kf (sbT side kf th wi wo wn fb fl cn tq) RR TR d).2) j)))), (r3, .inl (cJ, (side + 1), .inr (.inl (fun j => lI (RC j))))), (r4, .inl (cI, side, .inl (fun j => iI (SC j))))]) (wr := []) [0, 1, 2, 3, 4, 5, 6, 7, 8, 9, 10, 11, 12, 13] [] (va_runV (As := [.int (nI (side - 1 - d))]) (rest := []) ⟨hx, hb, hml, hown, hts⟩ (c_planRow l D cI cJ cZ H.size hb_ bo hz side kf tq r1 r2 r3 r4 h0 a1 a2 a3 a4 sm t1 t2 t3 t4 cn th wi wo wn F3 F4 fb fl ((planT side kf (sbT side kf th wi wo wn fb fl cn tq) RR TR d).1) ((planT side kf (sbT side kf th wi wo wn fb fl cn tq) RR TR d).2) RC SC (side - 1 - d) s1 s2 k4 tq1 n8 ht hw hw1 ho hn m3 m4 hfb hfl (by omega) hC (fun j h3 h4 => (hPB d (by omega)).1 j (by omega) h4)) ⟨callB_of 1 hts (gd kc_Be_planRow) rfl rfl rfl (hts _ (List.mem_cons_of_mem _ k_6)) (hts _ (List.mem_cons_of_mem _ k_216)) (by decide +kernel) ⟨Nat.le_of_ble_eq_true rfl, Nat.le_of_ble_eq_true rfl⟩, hts _ (List.mem_cons_of_mem _ k_218), hts _ (List.mem_cons_of_mem _ ks_1)⟩ ⟨kB_blind, va_recv hK hP (ci := 1) (q0 := 0) rfl rfl, kB_at hP hD hK hZ [0, 1, 2, 3, 4, 5, 6, 7, 8, 9, 10, 11, 12, 13] rfl (by decide) rfl⟩ rfl rfl hl.1 rfl (lv_room (Nat.le_of_ble_eq_true rfl)) d_Be_plan_18 ⟨Nat.zero_le _, Nat.zero_le _⟩) hP hD hS hA rfl rfl (by decide) (by decide) (fun u H locs hw_18 hP hD hS => ?_)
        have hP : va_P D vwCl [(hb_, .inr (1, [.ref bo, .ref hz, .int (nI side), .int (nI kf), .int (nI tq), .ref r1, .ref r2, .ref r3, .ref r4])), (bo, .inr (2, [.ref hz, .ref h0])), (h0, .inr (3, [.int (nI side), .ref a1, .ref a2, .ref a3, .ref a4, .int (pI sm)])), (hz, .inr (5, [.ref t1, .ref t2, .ref t3, .ref t4, .int (nI cn)])), (t1, .inl (cI, 8, .inl (fun j => nI (th j)))), (t2, .inl (cI, 8, .inl (fun j => nI (wi j)))), (t3, .inl (cI, 8, .inl (fun j => nI (wo j)))), (t4, .inl (cI, 8, .inl (fun j => nI (wn j)))), (a3, .inl (cI, ((side + 1) * (side + 1)), .inl (fun j => nI (F3 j)))), (a4, .inl (cI, ((side + 1) * (side + 1)), .inl (fun j => nI (F4 j)))), (r1, .inl (cJ, (side + 1), .inr (.inl (fun j => lI ((va_up ((planT side kf (sbT side kf th wi wo wn fb fl cn tq) RR TR d).1) (side - 1 - d) (rowFold ((planT side kf (sbT side kf th wi wo wn fb fl cn tq) RR TR d).1) side kf (side - 1 - d) (sbR side kf th wi (okC side fb th wi wn tq (side - 1 - d)) (vaC side fl th wi wo tq (side - 1 - d)) cn) (side - (side - 1 - d))).1) j))))), (r2, .inl (cI, side, .inl (fun j => nI ((va_up ((planT side kf (sbT side kf th wi wo wn fb fl cn tq) RR TR d).2) (side - 1 - d) (rowFold ((planT side kf (sbT side kf th wi wo wn fb fl cn tq) RR TR d).1) side kf (side - 1 - d) (sbR side kf th wi (okC side fb th wi wn tq (side - 1 - d)) (vaC side fl th wi wo tq (side - 1 - d)) cn) (side - (side - 1 - d))).2) j)))), (r3, .inl (cJ, (side + 1), .inr (.inl (fun j => lI (u.1 j))))), (r4, .inl (cI, side, .inl (fun j => iI (u.2 j))))] H := hP
        have hD : va_D A [(hb_, .inr (1, [.ref bo, .ref hz, .int (nI side), .int (nI kf), .int (nI tq), .ref r1, .ref r2, .ref r3, .ref r4])), (bo, .inr (2, [.ref hz, .ref h0])), (h0, .inr (3, [.int (nI side), .ref a1, .ref a2, .ref a3, .ref a4, .int (pI sm)])), (hz, .inr (5, [.ref t1, .ref t2, .ref t3, .ref t4, .int (nI cn)])), (t1, .inl (cI, 8, .inl (fun j => nI (th j)))), (t2, .inl (cI, 8, .inl (fun j => nI (wi j)))), (t3, .inl (cI, 8, .inl (fun j => nI (wo j)))), (t4, .inl (cI, 8, .inl (fun j => nI (wn j)))), (a3, .inl (cI, ((side + 1) * (side + 1)), .inl (fun j => nI (F3 j)))), (a4, .inl (cI, ((side + 1) * (side + 1)), .inl (fun j => nI (F4 j)))), (r1, .inl (cJ, (side + 1), .inr (.inl (fun j => lI ((va_up ((planT side kf (sbT side kf th wi wo wn fb fl cn tq) RR TR d).1) (side - 1 - d) (rowFold ((planT side kf (sbT side kf th wi wo wn fb fl cn tq) RR TR d).1) side kf (side - 1 - d) (sbR side kf th wi (okC side fb th wi wn tq (side - 1 - d)) (vaC side fl th wi wo tq (side - 1 - d)) cn) (side - (side - 1 - d))).1) j))))), (r2, .inl (cI, side, .inl (fun j => nI ((va_up ((planT side kf (sbT side kf th wi wo wn fb fl cn tq) RR TR d).2) (side - 1 - d) (rowFold ((planT side kf (sbT side kf th wi wo wn fb fl cn tq) RR TR d).1) side kf (side - 1 - d) (sbR side kf th wi (okC side fb th wi wn tq (side - 1 - d)) (vaC side fl th wi wo tq (side - 1 - d)) cn) (side - (side - 1 - d))).2) j)))), (r3, .inl (cJ, (side + 1), .inr (.inl (fun j => lI (u.1 j))))), (r4, .inl (cI, side, .inl (fun j => iI (u.2 j))))] := hD
        refine lv_iinc (v := iI (z + (-1))) (lv' := [(2, .int (iI (z + (-1)))), (0, .ref hb_), (1, .int (nI tq))]) hx hb d_Be_plan_21 hl (k := 0) rfl (iI_add _ _) (by decide) rfl (fun ls hl => ?_)
        refine lv_goto (tgt := 12) hx hb d_Be_plan_24 (by decide) ?_
        exact ih (d + 1) (z + (-1)) u.1 u.2 (by omega) (by omega) hw_18 _ _ hP hD hS ls (lv_sub hl [0, 1, 2] rfl)
  exact lp side 0 (((side : Nat) : Int) - ((1 : Nat) : Int)) RC SC (by omega) (by omega) hR0 _ _ hP hD hS ls (lv_sub hl [0, 1, 2] rfl)
set_option maxHeartbeats 4000000 in
set_option maxRecDepth 100000 in
theorem c_clear (l : Launch) (D : va_G) (cI cJ cZ : ClassId) (sz : Nat) (hp : Nat) (p1 : Nat) (p2 : Nat) (p3 : Nat) (pt : Nat) (psl : Nat) (pc_ : Nat) (pv : Int) (pce : Nat) (tq : Nat)  : Met l y_Pa_clear w_Pa_clear ({ frames := 0, cells := 0, slots := 0, locals := 0 }) (va_Pc [.ref hp, .int (nI tq)] (kB D vwCl (tyL cI cJ cZ) sz [(hp, .inr (4, [.ref p1, .ref p2, .ref p3, .int (nI pt), .int (nI psl), .int (nI pc_), .int (iI pv), .int (nI pce)]))])) (va_Qv (fun (_ : Unit) => True) (fun (_ : Unit) t => kE D vwCl (va_A [(hp, .inr (4, [.ref p1, .ref p2, .ref p3, .int (nI pt), .int (nI psl), .int (nI pc_), .int (iI pv), .int (nI pce)]))] sz) [(hp, .inr (4, [.ref p1, .ref p2, .ref p3, .int (nI tq), .int (nI 0), .int (nI 0), .int (iI 0), .int (nI 0)]))] t) (va_A [(hp, .inr (4, [.ref p1, .ref p2, .ref p3, .int (nI pt), .int (nI psl), .int (nI pc_), .int (iI pv), .int (nI pce)]))] sz)) 0 0 (va_A [(hp, .inr (4, [.ref p1, .ref p2, .ref p3, .int (nI pt), .int (nI psl), .int (nI pc_), .int (iI pv), .int (nI pce)]))] sz) := by
  refine Met.ofW (cc := b_Pa_clear) (maxL := 2) (ret := none) (by decide) rfl ?_
  intro p e s m args below meth c s₁ B hml hv
  obtain ⟨rfl, hsz, hP, hK, hD0, hZ⟩ := hv
  have hx := B.exec
  have hb := B.bytes
  have hr := B.returns
  have hts := atoms_spec (ws := w_Pa_clear) B.pre
  have hown : s.vm.findClass R_Pa = some m.cls := findClass_of_methodNamed B.named
  have hlocks := B.notSynchronized
  subst hsz
  have hD := hD0.self (sz := s.heap.size)
  generalize hAe : va_A [(hp, .inr (4, [.ref p1, .ref p2, .ref p3, .int (nI pt), .int (nI psl), .int (nI pc_), .int (iI pv), .int (nI pce)]))] s.heap.size = A at hD ⊢
  have hA : ∀ q : Nat, s.heap.size ≤ q → A q := fun q h => by rw [← hAe]; exact Or.inr h
  have hS : va_S A s.heap s.heap [] := va_S.rf
  have hP : va_P D vwCl [(hp, .inr (4, [.ref p1, .ref p2, .ref p3, .int (nI pt), .int (nI psl), .int (nI pc_), .int (iI pv), .int (nI pce)]))] s.heap := hP
  have hl := lv_entry ([.ref hp, .int (nI tq)]) (n := 2) (Nat.le_of_ble_eq_true rfl)
  rw [lg_entry_eq]
  generalize (lg_sl ([.ref hp, .int (nI tq)]) ++ List.replicate (2 - (lg_sl ([.ref hp, .int (nI tq)])).length) Slot.unset).toArray = ls at hl ⊢
  have hl : lv_has ls 2 [(0, .ref hp), (1, .int (nI tq))] := hl
  refine lv_aload_n hx hb d_Pa_clear_0 rfl (lv_at hl 0 rfl) ?_
  refine lv_iload_n hx hb d_Pa_clear_1 rfl (lv_at hl 1 rfl) ?_
  refine va_put (D := D) (ci := 4) (v := .int (nI tq)) (ty := .int) (C := R_Pa) (T := T_Pa) (N := 8) hx hb hts (fun w h => List.mem_cons_of_mem _ (iw_Pa w h)) ty_Pa tyok_Pa nm_Pa hown hK hP hD hS 0 rfl rfl 3 (by decide) (hts _ (List.mem_cons_of_mem _ k_148)) (fun _ h9 => h9) rfl (by decide +kernel) (rfl) (rfl) (Nat.le_of_ble_eq_true rfl) d_Pa_clear_2 (fun H locs hP hD hS => ?_)
  have hP : va_P D vwCl [(hp, .inr (4, [.ref p1, .ref p2, .ref p3, .int (nI tq), .int (nI psl), .int (nI pc_), .int (iI pv), .int (nI pce)]))] H := hP
  have hD : va_D A [(hp, .inr (4, [.ref p1, .ref p2, .ref p3, .int (nI tq), .int (nI psl), .int (nI pc_), .int (iI pv), .int (nI pce)]))] := hD
  refine lv_aload_n hx hb d_Pa_clear_5 rfl (lv_at hl 0 rfl) ?_
  refine lv_iconst (v := nI 0) hx hb d_Pa_clear_6 (by decide +kernel) ?_
  refine va_put (D := D) (ci := 4) (v := .int (nI 0)) (ty := .int) (C := R_Pa) (T := T_Pa) (N := 8) hx hb hts (fun w h => List.mem_cons_of_mem _ (iw_Pa w h)) ty_Pa tyok_Pa nm_Pa hown hK hP hD hS 0 rfl rfl 4 (by decide) (hts _ (List.mem_cons_of_mem _ k_150)) (fun _ h9 => h9) rfl (by decide +kernel) (rfl) (rfl) (Nat.le_of_ble_eq_true rfl) d_Pa_clear_7 (fun H locs hP hD hS => ?_)
  have hP : va_P D vwCl [(hp, .inr (4, [.ref p1, .ref p2, .ref p3, .int (nI tq), .int (nI 0), .int (nI pc_), .int (iI pv), .int (nI pce)]))] H := hP
  have hD : va_D A [(hp, .inr (4, [.ref p1, .ref p2, .ref p3, .int (nI tq), .int (nI 0), .int (nI pc_), .int (iI pv), .int (nI pce)]))] := hD
  refine lv_aload_n hx hb d_Pa_clear_10 rfl (lv_at hl 0 rfl) ?_
  refine lv_iconst (v := nI 0) hx hb d_Pa_clear_11 (by decide +kernel) ?_
  refine va_put (D := D) (ci := 4) (v := .int (nI 0)) (ty := .int) (C := R_Pa) (T := T_Pa) (N := 8) hx hb hts (fun w h => List.mem_cons_of_mem _ (iw_Pa w h)) ty_Pa tyok_Pa nm_Pa hown hK hP hD hS 0 rfl rfl 5 (by decide) (hts _ (List.mem_cons_of_mem _ k_153)) (fun _ h9 => h9) rfl (by decide +kernel) (rfl) (rfl) (Nat.le_of_ble_eq_true rfl) d_Pa_clear_12 (fun H locs hP hD hS => ?_)
  have hP : va_P D vwCl [(hp, .inr (4, [.ref p1, .ref p2, .ref p3, .int (nI tq), .int (nI 0), .int (nI 0), .int (iI pv), .int (nI pce)]))] H := hP
  have hD : va_D A [(hp, .inr (4, [.ref p1, .ref p2, .ref p3, .int (nI tq), .int (nI 0), .int (nI 0), .int (iI pv), .int (nI pce)]))] := hD
  refine lv_aload_n hx hb d_Pa_clear_15 rfl (lv_at hl 0 rfl) ?_
  refine lv_iconst (v := nI 0) hx hb d_Pa_clear_16 (by decide +kernel) ?_
  refine ka_i (y := iI 0) (by decide +kernel) ?_
  refine va_put (D := D) (ci := 4) (v := .int (iI 0)) (ty := .int) (C := R_Pa) (T := T_Pa) (N := 8) hx hb hts (fun w h => List.mem_cons_of_mem _ (iw_Pa w h)) ty_Pa tyok_Pa nm_Pa hown hK hP hD hS 0 rfl rfl 6 (by decide) (hts _ (List.mem_cons_of_mem _ k_155)) (fun _ h9 => h9) rfl (by decide +kernel) (rfl) (rfl) (Nat.le_of_ble_eq_true rfl) d_Pa_clear_17 (fun H locs hP hD hS => ?_)
  have hP : va_P D vwCl [(hp, .inr (4, [.ref p1, .ref p2, .ref p3, .int (nI tq), .int (nI 0), .int (nI 0), .int (iI 0), .int (nI pce)]))] H := hP
  have hD : va_D A [(hp, .inr (4, [.ref p1, .ref p2, .ref p3, .int (nI tq), .int (nI 0), .int (nI 0), .int (iI 0), .int (nI pce)]))] := hD
  refine lv_aload_n hx hb d_Pa_clear_20 rfl (lv_at hl 0 rfl) ?_
  refine lv_iconst (v := nI 0) hx hb d_Pa_clear_21 (by decide +kernel) ?_
  refine va_put (D := D) (ci := 4) (v := .int (nI 0)) (ty := .int) (C := R_Pa) (T := T_Pa) (N := 8) hx hb hts (fun w h => List.mem_cons_of_mem _ (iw_Pa w h)) ty_Pa tyok_Pa nm_Pa hown hK hP hD hS 0 rfl rfl 7 (by decide) (hts _ (List.mem_cons_of_mem _ k_158)) (fun _ h9 => h9) rfl (by decide +kernel) (rfl) (rfl) (Nat.le_of_ble_eq_true rfl) d_Pa_clear_22 (fun H locs hP hD hS => ?_)
  have hP : va_P D vwCl [(hp, .inr (4, [.ref p1, .ref p2, .ref p3, .int (nI tq), .int (nI 0), .int (nI 0), .int (iI 0), .int (nI 0)]))] H := hP
  have hD : va_D A [(hp, .inr (4, [.ref p1, .ref p2, .ref p3, .int (nI tq), .int (nI 0), .int (nI 0), .int (iI 0), .int (nI 0)]))] := hD
  exact kretv (u := ()) hx hb hr hP hD hS hlocks rfl (trivial) d_Pa_clear_25
set_option maxHeartbeats 4000000 in
set_option maxRecDepth 100000 in
theorem c_padd (l : Launch) (D : va_G) (cI cJ cZ : ClassId) (sz : Nat) (hp : Nat) (p1 : Nat) (p2 : Nat) (p3 : Nat) (pt : Nat) (psl : Nat) (pc_ : Nat) (pv : Int) (pce : Nat) (pn : Nat) (g1 : Nat → Nat) (g2 : Nat → Nat) (g3 : Nat → Nat) (i : Nat) (x : Nat) (y : Nat) (hpn : pn ≤ 400) (hct : pc_ < pn) : Met l y_Pa_add w_Pa_add ({ frames := 0, cells := 0, slots := 0, locals := 0 }) (va_Pc [.ref hp, .int (nI i), .int (nI x), .int (nI y)] (kB D vwCl (tyL cI cJ cZ) sz [(hp, .inr (4, [.ref p1, .ref p2, .ref p3, .int (nI pt), .int (nI psl), .int (nI pc_), .int (iI pv), .int (nI pce)])), (p1, .inl (cI, pn, .inl (fun j => nI (g1 j)))), (p2, .inl (cI, pn, .inl (fun j => nI (g2 j)))), (p3, .inl (cI, pn, .inl (fun j => nI (g3 j))))])) (va_Qv (fun (_ : Unit) => True) (fun (_ : Unit) t => kE D vwCl (va_A [(hp, .inr (4, [.ref p1, .ref p2, .ref p3, .int (nI pt), .int (nI psl), .int (nI pc_), .int (iI pv), .int (nI pce)])), (p1, .inl (cI, pn, .inl (fun j => nI (g1 j)))), (p2, .inl (cI, pn, .inl (fun j => nI (g2 j)))), (p3, .inl (cI, pn, .inl (fun j => nI (g3 j))))] sz) [(hp, .inr (4, [.ref p1, .ref p2, .ref p3, .int (nI pt), .int (nI psl), .int (nI (pc_ + 1)), .int (iI pv), .int (nI pce)])), (p1, .inl (cI, pn, .inl (fun j => nI ((va_up g1 pc_ i) j)))), (p2, .inl (cI, pn, .inl (fun j => nI ((va_up g2 pc_ x) j)))), (p3, .inl (cI, pn, .inl (fun j => nI ((va_up g3 pc_ y) j))))] t) (va_A [(hp, .inr (4, [.ref p1, .ref p2, .ref p3, .int (nI pt), .int (nI psl), .int (nI pc_), .int (iI pv), .int (nI pce)])), (p1, .inl (cI, pn, .inl (fun j => nI (g1 j)))), (p2, .inl (cI, pn, .inl (fun j => nI (g2 j)))), (p3, .inl (cI, pn, .inl (fun j => nI (g3 j))))] sz)) 0 0 (va_A [(hp, .inr (4, [.ref p1, .ref p2, .ref p3, .int (nI pt), .int (nI psl), .int (nI pc_), .int (iI pv), .int (nI pce)])), (p1, .inl (cI, pn, .inl (fun j => nI (g1 j)))), (p2, .inl (cI, pn, .inl (fun j => nI (g2 j)))), (p3, .inl (cI, pn, .inl (fun j => nI (g3 j))))] sz) := by
  refine Met.ofW (cc := b_Pa_add) (maxL := 4) (ret := none) (by decide) rfl ?_
  intro p e s m args below meth c s₁ B hml hv
  obtain ⟨rfl, hsz, hP, hK, hD0, hZ⟩ := hv
  have hx := B.exec
  have hb := B.bytes
  have hr := B.returns
  have hts := atoms_spec (ws := w_Pa_add) B.pre
  have hown : s.vm.findClass R_Pa = some m.cls := findClass_of_methodNamed B.named
  have hlocks := B.notSynchronized
  subst hsz
  have hD := hD0.self (sz := s.heap.size)
  generalize hAe : va_A [(hp, .inr (4, [.ref p1, .ref p2, .ref p3, .int (nI pt), .int (nI psl), .int (nI pc_), .int (iI pv), .int (nI pce)])), (p1, .inl (cI, pn, .inl (fun j => nI (g1 j)))), (p2, .inl (cI, pn, .inl (fun j => nI (g2 j)))), (p3, .inl (cI, pn, .inl (fun j => nI (g3 j))))] s.heap.size = A at hD ⊢
  have hA : ∀ q : Nat, s.heap.size ≤ q → A q := fun q h => by rw [← hAe]; exact Or.inr h
  have hS : va_S A s.heap s.heap [] := va_S.rf
  have hP : va_P D vwCl [(hp, .inr (4, [.ref p1, .ref p2, .ref p3, .int (nI pt), .int (nI psl), .int (nI pc_), .int (iI pv), .int (nI pce)])), (p1, .inl (cI, pn, .inl (fun j => nI (g1 j)))), (p2, .inl (cI, pn, .inl (fun j => nI (g2 j)))), (p3, .inl (cI, pn, .inl (fun j => nI (g3 j))))] s.heap := hP
  have hl := lv_entry ([.ref hp, .int (nI i), .int (nI x), .int (nI y)]) (n := 4) (Nat.le_of_ble_eq_true rfl)
  rw [lg_entry_eq]
  generalize (lg_sl ([.ref hp, .int (nI i), .int (nI x), .int (nI y)]) ++ List.replicate (4 - (lg_sl ([.ref hp, .int (nI i), .int (nI x), .int (nI y)])).length) Slot.unset).toArray = ls at hl ⊢
  have hl : lv_has ls 4 [(0, .ref hp), (1, .int (nI i)), (2, .int (nI x)), (3, .int (nI y))] := hl
  refine lv_aload_n hx hb d_Pa_add_0 rfl (lv_at hl 0 rfl) ?_
  refine va_get (D := D) (ci := 4) (v := .int (nI pc_)) (C := R_Pa) (T := T_Pa) (N := 8) hx hb hts (fun w h => List.mem_cons_of_mem _ (iw_Pa w h)) hown hK hP 0 rfl rfl 5 (by decide) (hts _ (List.mem_cons_of_mem _ k_153)) (fun _ h9 => h9) rfl d_Pa_add_1 ?_
  refine lv_aload_n hx hb d_Pa_add_4 rfl (lv_at hl 0 rfl) ?_
  refine va_get (D := D) (ci := 4) (v := .ref p1) (C := R_Pa) (T := T_Pa) (N := 8) hx hb hts (fun w h => List.mem_cons_of_mem _ (iw_Pa w h)) hown hK hP 0 rfl rfl 0 (by decide) (hts _ (List.mem_cons_of_mem _ k_142)) (fun _ h9 => h9) rfl d_Pa_add_5 ?_
  refine va_alen (v := nI pn) hx hb hK hP 1 0 rfl rfl rfl d_Pa_add_8 ?_
  refine kb_clt (tgt := 13) (nI_t (by omega)) (nI_t (by omega)) hx hb d_Pa_add_9 (by decide) (fun c_9 => ?_) (fun c_9 => ?_)
  · refine lv_aload_n hx hb d_Pa_add_13 rfl (lv_at hl 0 rfl) ?_
    refine va_get (D := D) (ci := 4) (v := .ref p1) (C := R_Pa) (T := T_Pa) (N := 8) hx hb hts (fun w h => List.mem_cons_of_mem _ (iw_Pa w h)) hown hK hP 0 rfl rfl 0 (by decide) (hts _ (List.mem_cons_of_mem _ k_142)) (fun _ h9 => h9) rfl d_Pa_add_14 ?_
    refine lv_aload_n hx hb d_Pa_add_17 rfl (lv_at hl 0 rfl) ?_
    refine va_get (D := D) (ci := 4) (v := .int (nI pc_)) (C := R_Pa) (T := T_Pa) (N := 8) hx hb hts (fun w h => List.mem_cons_of_mem _ (iw_Pa w h)) hown hK hP 0 rfl rfl 5 (by decide) (hts _ (List.mem_cons_of_mem _ k_153)) (fun _ h9 => h9) rfl d_Pa_add_18 ?_
    refine lv_iload_n hx hb d_Pa_add_21 rfl (lv_at hl 1 rfl) ?_
    refine ka_iastN (F := g1) (v := i) (k := pc_) (n := pn) (nI_t (by omega)) (by omega) hx hb hK hP hD hS 1 0 rfl rfl d_Pa_add_22 (fun H locs hP hD hS => ?_)
    have hP : va_P D vwCl [(hp, .inr (4, [.ref p1, .ref p2, .ref p3, .int (nI pt), .int (nI psl), .int (nI pc_), .int (iI pv), .int (nI pce)])), (p1, .inl (cI, pn, .inl (fun j => nI ((va_up g1 pc_ i) j)))), (p2, .inl (cI, pn, .inl (fun j => nI (g2 j)))), (p3, .inl (cI, pn, .inl (fun j => nI (g3 j))))] H := hP
    have hD : va_D A [(hp, .inr (4, [.ref p1, .ref p2, .ref p3, .int (nI pt), .int (nI psl), .int (nI pc_), .int (iI pv), .int (nI pce)])), (p1, .inl (cI, pn, .inl (fun j => nI ((va_up g1 pc_ i) j)))), (p2, .inl (cI, pn, .inl (fun j => nI (g2 j)))), (p3, .inl (cI, pn, .inl (fun j => nI (g3 j))))] := hD
    refine lv_aload_n hx hb d_Pa_add_23 rfl (lv_at hl 0 rfl) ?_
    refine va_get (D := D) (ci := 4) (v := .ref p2) (C := R_Pa) (T := T_Pa) (N := 8) hx hb hts (fun w h => List.mem_cons_of_mem _ (iw_Pa w h)) hown hK hP 0 rfl rfl 1 (by decide) (hts _ (List.mem_cons_of_mem _ k_144)) (fun _ h9 => h9) rfl d_Pa_add_24 ?_
    refine lv_aload_n hx hb d_Pa_add_27 rfl (lv_at hl 0 rfl) ?_
    refine va_get (D := D) (ci := 4) (v := .int (nI pc_)) (C := R_Pa) (T := T_Pa) (N := 8) hx hb hts (fun w h => List.mem_cons_of_mem _ (iw_Pa w h)) hown hK hP 0 rfl rfl 5 (by decide) (hts _ (List.mem_cons_of_mem _ k_153)) (fun _ h9 => h9) rfl d_Pa_add_28 ?_
    refine lv_iload_n hx hb d_Pa_add_31 rfl (lv_at hl 2 rfl) ?_
    refine ka_iastN (F := g2) (v := x) (k := pc_) (n := pn) (nI_t (by omega)) (by omega) hx hb hK hP hD hS 2 0 rfl rfl d_Pa_add_32 (fun H locs hP hD hS => ?_)
    have hP : va_P D vwCl [(hp, .inr (4, [.ref p1, .ref p2, .ref p3, .int (nI pt), .int (nI psl), .int (nI pc_), .int (iI pv), .int (nI pce)])), (p1, .inl (cI, pn, .inl (fun j => nI ((va_up g1 pc_ i) j)))), (p2, .inl (cI, pn, .inl (fun j => nI ((va_up g2 pc_ x) j)))), (p3, .inl (cI, pn, .inl (fun j => nI (g3 j))))] H := hP
    have hD : va_D A [(hp, .inr (4, [.ref p1, .ref p2, .ref p3, .int (nI pt), .int (nI psl), .int (nI pc_), .int (iI pv), .int (nI pce)])), (p1, .inl (cI, pn, .inl (fun j => nI ((va_up g1 pc_ i) j)))), (p2, .inl (cI, pn, .inl (fun j => nI ((va_up g2 pc_ x) j)))), (p3, .inl (cI, pn, .inl (fun j => nI (g3 j))))] := hD
    refine lv_aload_n hx hb d_Pa_add_33 rfl (lv_at hl 0 rfl) ?_
    refine va_get (D := D) (ci := 4) (v := .ref p3) (C := R_Pa) (T := T_Pa) (N := 8) hx hb hts (fun w h => List.mem_cons_of_mem _ (iw_Pa w h)) hown hK hP 0 rfl rfl 2 (by decide) (hts _ (List.mem_cons_of_mem _ k_146)) (fun _ h9 => h9) rfl d_Pa_add_34 ?_
    refine lv_aload_n hx hb d_Pa_add_37 rfl (lv_at hl 0 rfl) ?_
    refine va_get (D := D) (ci := 4) (v := .int (nI pc_)) (C := R_Pa) (T := T_Pa) (N := 8) hx hb hts (fun w h => List.mem_cons_of_mem _ (iw_Pa w h)) hown hK hP 0 rfl rfl 5 (by decide) (hts _ (List.mem_cons_of_mem _ k_153)) (fun _ h9 => h9) rfl d_Pa_add_38 ?_
    refine lv_iload_n hx hb d_Pa_add_41 rfl (lv_at hl 3 rfl) ?_
    refine ka_iastN (F := g3) (v := y) (k := pc_) (n := pn) (nI_t (by omega)) (by omega) hx hb hK hP hD hS 3 0 rfl rfl d_Pa_add_42 (fun H locs hP hD hS => ?_)
    have hP : va_P D vwCl [(hp, .inr (4, [.ref p1, .ref p2, .ref p3, .int (nI pt), .int (nI psl), .int (nI pc_), .int (iI pv), .int (nI pce)])), (p1, .inl (cI, pn, .inl (fun j => nI ((va_up g1 pc_ i) j)))), (p2, .inl (cI, pn, .inl (fun j => nI ((va_up g2 pc_ x) j)))), (p3, .inl (cI, pn, .inl (fun j => nI ((va_up g3 pc_ y) j))))] H := hP
    have hD : va_D A [(hp, .inr (4, [.ref p1, .ref p2, .ref p3, .int (nI pt), .int (nI psl), .int (nI pc_), .int (iI pv), .int (nI pce)])), (p1, .inl (cI, pn, .inl (fun j => nI ((va_up g1 pc_ i) j)))), (p2, .inl (cI, pn, .inl (fun j => nI ((va_up g2 pc_ x) j)))), (p3, .inl (cI, pn, .inl (fun j => nI ((va_up g3 pc_ y) j))))] := hD
    refine lv_aload_n hx hb d_Pa_add_43 rfl (lv_at hl 0 rfl) ?_
    refine lv_dup hx hb d_Pa_add_44 rfl ?_
    refine va_get (D := D) (ci := 4) (v := .int (nI pc_)) (C := R_Pa) (T := T_Pa) (N := 8) hx hb hts (fun w h => List.mem_cons_of_mem _ (iw_Pa w h)) hown hK hP 0 rfl rfl 5 (by decide) (hts _ (List.mem_cons_of_mem _ k_153)) (fun _ h9 => h9) rfl d_Pa_add_45 ?_
    refine lv_iconst (v := nI 1) hx hb d_Pa_add_48 (by decide +kernel) ?_
    refine lv_iadd hx hb d_Pa_add_49 ?_
    refine ka_i (y := nI (pc_ + 1)) (nI_add _ _) ?_
    refine va_put (D := D) (ci := 4) (v := .int (nI (pc_ + 1))) (ty := .int) (C := R_Pa) (T := T_Pa) (N := 8) hx hb hts (fun w h => List.mem_cons_of_mem _ (iw_Pa w h)) ty_Pa tyok_Pa nm_Pa hown hK hP hD hS 0 rfl rfl 5 (by decide) (hts _ (List.mem_cons_of_mem _ k_153)) (fun _ h9 => h9) rfl (by decide +kernel) (rfl) (rfl) (Nat.le_of_ble_eq_true rfl) d_Pa_add_50 (fun H locs hP hD hS => ?_)
    have hP : va_P D vwCl [(hp, .inr (4, [.ref p1, .ref p2, .ref p3, .int (nI pt), .int (nI psl), .int (nI (pc_ + 1)), .int (iI pv), .int (nI pce)])), (p1, .inl (cI, pn, .inl (fun j => nI ((va_up g1 pc_ i) j)))), (p2, .inl (cI, pn, .inl (fun j => nI ((va_up g2 pc_ x) j)))), (p3, .inl (cI, pn, .inl (fun j => nI ((va_up g3 pc_ y) j))))] H := hP
    have hD : va_D A [(hp, .inr (4, [.ref p1, .ref p2, .ref p3, .int (nI pt), .int (nI psl), .int (nI (pc_ + 1)), .int (iI pv), .int (nI pce)])), (p1, .inl (cI, pn, .inl (fun j => nI ((va_up g1 pc_ i) j)))), (p2, .inl (cI, pn, .inl (fun j => nI ((va_up g2 pc_ x) j)))), (p3, .inl (cI, pn, .inl (fun j => nI ((va_up g3 pc_ y) j))))] := hD
    exact kretv (u := ()) hx hb hr hP hD hS hlocks rfl (trivial) d_Pa_add_53
  · exfalso; omega
set_option maxHeartbeats 4000000 in
set_option maxRecDepth 100000 in
theorem c_sadd (l : Launch) (D : va_G) (cI cJ cZ : ClassId) (sz : Nat) (hz : Nat) (t1 : Nat) (t2 : Nat) (t3 : Nat) (t4 : Nat) (cn : Nat) (th : Nat → Nat) (wi : Nat → Nat) (wo : Nat → Nat) (wn : Nat → Nat) (q1 : Nat) (q2 : Nat) (q3 : Nat) (q4 : Nat) (hcn : cn < 8) : Met l y_Si_add w_Si_add ({ frames := 0, cells := 0, slots := 0, locals := 0 }) (va_Pc [.ref hz, .int (nI q1), .int (nI q2), .int (nI q3), .int (nI q4)] (kB D vwCl (tyL cI cJ cZ) sz [(hz, .inr (5, [.ref t1, .ref t2, .ref t3, .ref t4, .int (nI cn)])), (t1, .inl (cI, 8, .inl (fun j => nI (th j)))), (t2, .inl (cI, 8, .inl (fun j => nI (wi j)))), (t3, .inl (cI, 8, .inl (fun j => nI (wo j)))), (t4, .inl (cI, 8, .inl (fun j => nI (wn j))))])) (va_Qi (fun (r : Int32) (_ : Unit) => r = nI cn) (fun (_ : Unit) t => kE D vwCl (va_A [(hz, .inr (5, [.ref t1, .ref t2, .ref t3, .ref t4, .int (nI cn)])), (t1, .inl (cI, 8, .inl (fun j => nI (th j)))), (t2, .inl (cI, 8, .inl (fun j => nI (wi j)))), (t3, .inl (cI, 8, .inl (fun j => nI (wo j)))), (t4, .inl (cI, 8, .inl (fun j => nI (wn j))))] sz) [(hz, .inr (5, [.ref t1, .ref t2, .ref t3, .ref t4, .int (nI (cn + 1))])), (t1, .inl (cI, 8, .inl (fun j => nI ((va_up th cn q1) j)))), (t2, .inl (cI, 8, .inl (fun j => nI ((va_up wi cn q2) j)))), (t3, .inl (cI, 8, .inl (fun j => nI ((va_up wo cn q3) j)))), (t4, .inl (cI, 8, .inl (fun j => nI ((va_up wn cn q4) j))))] t) (va_A [(hz, .inr (5, [.ref t1, .ref t2, .ref t3, .ref t4, .int (nI cn)])), (t1, .inl (cI, 8, .inl (fun j => nI (th j)))), (t2, .inl (cI, 8, .inl (fun j => nI (wi j)))), (t3, .inl (cI, 8, .inl (fun j => nI (wo j)))), (t4, .inl (cI, 8, .inl (fun j => nI (wn j))))] sz)) 0 0 (va_A [(hz, .inr (5, [.ref t1, .ref t2, .ref t3, .ref t4, .int (nI cn)])), (t1, .inl (cI, 8, .inl (fun j => nI (th j)))), (t2, .inl (cI, 8, .inl (fun j => nI (wi j)))), (t3, .inl (cI, 8, .inl (fun j => nI (wo j)))), (t4, .inl (cI, 8, .inl (fun j => nI (wn j))))] sz) := by
  refine Met.ofW (cc := b_Si_add) (maxL := 5) (ret := (some (.int))) (by decide) rfl ?_
  intro p e s m args below meth c s₁ B hml hv
  obtain ⟨rfl, hsz, hP, hK, hD0, hZ⟩ := hv
  have hx := B.exec
  have hb := B.bytes
  have hr := B.returns
  have hts := atoms_spec (ws := w_Si_add) B.pre
  have hown : s.vm.findClass R_Si = some m.cls := findClass_of_methodNamed B.named
  have hlocks := B.notSynchronized
  subst hsz
  have hD := hD0.self (sz := s.heap.size)
  generalize hAe : va_A [(hz, .inr (5, [.ref t1, .ref t2, .ref t3, .ref t4, .int (nI cn)])), (t1, .inl (cI, 8, .inl (fun j => nI (th j)))), (t2, .inl (cI, 8, .inl (fun j => nI (wi j)))), (t3, .inl (cI, 8, .inl (fun j => nI (wo j)))), (t4, .inl (cI, 8, .inl (fun j => nI (wn j))))] s.heap.size = A at hD ⊢
  have hA : ∀ q : Nat, s.heap.size ≤ q → A q := fun q h => by rw [← hAe]; exact Or.inr h
  have hS : va_S A s.heap s.heap [] := va_S.rf
  have hP : va_P D vwCl [(hz, .inr (5, [.ref t1, .ref t2, .ref t3, .ref t4, .int (nI cn)])), (t1, .inl (cI, 8, .inl (fun j => nI (th j)))), (t2, .inl (cI, 8, .inl (fun j => nI (wi j)))), (t3, .inl (cI, 8, .inl (fun j => nI (wo j)))), (t4, .inl (cI, 8, .inl (fun j => nI (wn j))))] s.heap := hP
  have hl := lv_entry ([.ref hz, .int (nI q1), .int (nI q2), .int (nI q3), .int (nI q4)]) (n := 5) (Nat.le_of_ble_eq_true rfl)
  rw [lg_entry_eq]
  generalize (lg_sl ([.ref hz, .int (nI q1), .int (nI q2), .int (nI q3), .int (nI q4)]) ++ List.replicate (5 - (lg_sl ([.ref hz, .int (nI q1), .int (nI q2), .int (nI q3), .int (nI q4)])).length) Slot.unset).toArray = ls at hl ⊢
  have hl : lv_has ls 5 [(0, .ref hz), (1, .int (nI q1)), (2, .int (nI q2)), (3, .int (nI q3)), (4, .int (nI q4))] := hl
  refine lv_aload_n hx hb d_Si_add_0 rfl (lv_at hl 0 rfl) ?_
  refine va_get (D := D) (ci := 5) (v := .int (nI cn)) (C := R_Si) (T := T_Si) (N := 5) hx hb hts (fun w h => List.mem_cons_of_mem _ (iw_Si w h)) hown hK hP 0 rfl rfl 4 (by decide) (hts _ (List.mem_cons_of_mem _ k_73)) (fun _ h9 => h9) rfl d_Si_add_1 ?_
  refine lv_bipush (v := nI 8) hx hb d_Si_add_4 (by decide +kernel) ?_
  refine kb_clt (tgt := 11) (nI_t (by omega)) (nI_t (by omega)) hx hb d_Si_add_6 (by decide) (fun c_6 => ?_) (fun c_6 => ?_)
  · refine lv_aload_n hx hb d_Si_add_11 rfl (lv_at hl 0 rfl) ?_
    refine va_get (D := D) (ci := 5) (v := .ref t1) (C := R_Si) (T := T_Si) (N := 5) hx hb hts (fun w h => List.mem_cons_of_mem _ (iw_Si w h)) hown hK hP 0 rfl rfl 0 (by decide) (hts _ (List.mem_cons_of_mem _ k_65)) (fun _ h9 => h9) rfl d_Si_add_12 ?_
    refine lv_aload_n hx hb d_Si_add_15 rfl (lv_at hl 0 rfl) ?_
    refine va_get (D := D) (ci := 5) (v := .int (nI cn)) (C := R_Si) (T := T_Si) (N := 5) hx hb hts (fun w h => List.mem_cons_of_mem _ (iw_Si w h)) hown hK hP 0 rfl rfl 4 (by decide) (hts _ (List.mem_cons_of_mem _ k_73)) (fun _ h9 => h9) rfl d_Si_add_16 ?_
    refine lv_iload_n hx hb d_Si_add_19 rfl (lv_at hl 1 rfl) ?_
    refine ka_iastN (F := th) (v := q1) (k := cn) (n := 8) (nI_t (by omega)) (by omega) hx hb hK hP hD hS 1 0 rfl rfl d_Si_add_20 (fun H locs hP hD hS => ?_)
    have hP : va_P D vwCl [(hz, .inr (5, [.ref t1, .ref t2, .ref t3, .ref t4, .int (nI cn)])), (t1, .inl (cI, 8, .inl (fun j => nI ((va_up th cn q1) j)))), (t2, .inl (cI, 8, .inl (fun j => nI (wi j)))), (t3, .inl (cI, 8, .inl (fun j => nI (wo j)))), (t4, .inl (cI, 8, .inl (fun j => nI (wn j))))] H := hP
    have hD : va_D A [(hz, .inr (5, [.ref t1, .ref t2, .ref t3, .ref t4, .int (nI cn)])), (t1, .inl (cI, 8, .inl (fun j => nI ((va_up th cn q1) j)))), (t2, .inl (cI, 8, .inl (fun j => nI (wi j)))), (t3, .inl (cI, 8, .inl (fun j => nI (wo j)))), (t4, .inl (cI, 8, .inl (fun j => nI (wn j))))] := hD
    refine lv_aload_n hx hb d_Si_add_21 rfl (lv_at hl 0 rfl) ?_
    refine va_get (D := D) (ci := 5) (v := .ref t2) (C := R_Si) (T := T_Si) (N := 5) hx hb hts (fun w h => List.mem_cons_of_mem _ (iw_Si w h)) hown hK hP 0 rfl rfl 1 (by decide) (hts _ (List.mem_cons_of_mem _ k_67)) (fun _ h9 => h9) rfl d_Si_add_22 ?_
    refine lv_aload_n hx hb d_Si_add_25 rfl (lv_at hl 0 rfl) ?_
    refine va_get (D := D) (ci := 5) (v := .int (nI cn)) (C := R_Si) (T := T_Si) (N := 5) hx hb hts (fun w h => List.mem_cons_of_mem _ (iw_Si w h)) hown hK hP 0 rfl rfl 4 (by decide) (hts _ (List.mem_cons_of_mem _ k_73)) (fun _ h9 => h9) rfl d_Si_add_26 ?_
    refine lv_iload_n hx hb d_Si_add_29 rfl (lv_at hl 2 rfl) ?_
    refine ka_iastN (F := wi) (v := q2) (k := cn) (n := 8) (nI_t (by omega)) (by omega) hx hb hK hP hD hS 2 0 rfl rfl d_Si_add_30 (fun H locs hP hD hS => ?_)
    have hP : va_P D vwCl [(hz, .inr (5, [.ref t1, .ref t2, .ref t3, .ref t4, .int (nI cn)])), (t1, .inl (cI, 8, .inl (fun j => nI ((va_up th cn q1) j)))), (t2, .inl (cI, 8, .inl (fun j => nI ((va_up wi cn q2) j)))), (t3, .inl (cI, 8, .inl (fun j => nI (wo j)))), (t4, .inl (cI, 8, .inl (fun j => nI (wn j))))] H := hP
    have hD : va_D A [(hz, .inr (5, [.ref t1, .ref t2, .ref t3, .ref t4, .int (nI cn)])), (t1, .inl (cI, 8, .inl (fun j => nI ((va_up th cn q1) j)))), (t2, .inl (cI, 8, .inl (fun j => nI ((va_up wi cn q2) j)))), (t3, .inl (cI, 8, .inl (fun j => nI (wo j)))), (t4, .inl (cI, 8, .inl (fun j => nI (wn j))))] := hD
    refine lv_aload_n hx hb d_Si_add_31 rfl (lv_at hl 0 rfl) ?_
    refine va_get (D := D) (ci := 5) (v := .ref t3) (C := R_Si) (T := T_Si) (N := 5) hx hb hts (fun w h => List.mem_cons_of_mem _ (iw_Si w h)) hown hK hP 0 rfl rfl 2 (by decide) (hts _ (List.mem_cons_of_mem _ k_69)) (fun _ h9 => h9) rfl d_Si_add_32 ?_
    refine lv_aload_n hx hb d_Si_add_35 rfl (lv_at hl 0 rfl) ?_
    refine va_get (D := D) (ci := 5) (v := .int (nI cn)) (C := R_Si) (T := T_Si) (N := 5) hx hb hts (fun w h => List.mem_cons_of_mem _ (iw_Si w h)) hown hK hP 0 rfl rfl 4 (by decide) (hts _ (List.mem_cons_of_mem _ k_73)) (fun _ h9 => h9) rfl d_Si_add_36 ?_
    refine lv_iload_n hx hb d_Si_add_39 rfl (lv_at hl 3 rfl) ?_
    refine ka_iastN (F := wo) (v := q3) (k := cn) (n := 8) (nI_t (by omega)) (by omega) hx hb hK hP hD hS 3 0 rfl rfl d_Si_add_40 (fun H locs hP hD hS => ?_)
    have hP : va_P D vwCl [(hz, .inr (5, [.ref t1, .ref t2, .ref t3, .ref t4, .int (nI cn)])), (t1, .inl (cI, 8, .inl (fun j => nI ((va_up th cn q1) j)))), (t2, .inl (cI, 8, .inl (fun j => nI ((va_up wi cn q2) j)))), (t3, .inl (cI, 8, .inl (fun j => nI ((va_up wo cn q3) j)))), (t4, .inl (cI, 8, .inl (fun j => nI (wn j))))] H := hP
    have hD : va_D A [(hz, .inr (5, [.ref t1, .ref t2, .ref t3, .ref t4, .int (nI cn)])), (t1, .inl (cI, 8, .inl (fun j => nI ((va_up th cn q1) j)))), (t2, .inl (cI, 8, .inl (fun j => nI ((va_up wi cn q2) j)))), (t3, .inl (cI, 8, .inl (fun j => nI ((va_up wo cn q3) j)))), (t4, .inl (cI, 8, .inl (fun j => nI (wn j))))] := hD
    refine lv_aload_n hx hb d_Si_add_41 rfl (lv_at hl 0 rfl) ?_
    refine va_get (D := D) (ci := 5) (v := .ref t4) (C := R_Si) (T := T_Si) (N := 5) hx hb hts (fun w h => List.mem_cons_of_mem _ (iw_Si w h)) hown hK hP 0 rfl rfl 3 (by decide) (hts _ (List.mem_cons_of_mem _ k_71)) (fun _ h9 => h9) rfl d_Si_add_42 ?_
    refine lv_aload_n hx hb d_Si_add_45 rfl (lv_at hl 0 rfl) ?_
    refine va_get (D := D) (ci := 5) (v := .int (nI cn)) (C := R_Si) (T := T_Si) (N := 5) hx hb hts (fun w h => List.mem_cons_of_mem _ (iw_Si w h)) hown hK hP 0 rfl rfl 4 (by decide) (hts _ (List.mem_cons_of_mem _ k_73)) (fun _ h9 => h9) rfl d_Si_add_46 ?_
    refine lv_iload hx hb d_Si_add_49 (lv_at hl 4 rfl) ?_
    refine ka_iastN (F := wn) (v := q4) (k := cn) (n := 8) (nI_t (by omega)) (by omega) hx hb hK hP hD hS 4 0 rfl rfl d_Si_add_51 (fun H locs hP hD hS => ?_)
    have hP : va_P D vwCl [(hz, .inr (5, [.ref t1, .ref t2, .ref t3, .ref t4, .int (nI cn)])), (t1, .inl (cI, 8, .inl (fun j => nI ((va_up th cn q1) j)))), (t2, .inl (cI, 8, .inl (fun j => nI ((va_up wi cn q2) j)))), (t3, .inl (cI, 8, .inl (fun j => nI ((va_up wo cn q3) j)))), (t4, .inl (cI, 8, .inl (fun j => nI ((va_up wn cn q4) j))))] H := hP
    have hD : va_D A [(hz, .inr (5, [.ref t1, .ref t2, .ref t3, .ref t4, .int (nI cn)])), (t1, .inl (cI, 8, .inl (fun j => nI ((va_up th cn q1) j)))), (t2, .inl (cI, 8, .inl (fun j => nI ((va_up wi cn q2) j)))), (t3, .inl (cI, 8, .inl (fun j => nI ((va_up wo cn q3) j)))), (t4, .inl (cI, 8, .inl (fun j => nI ((va_up wn cn q4) j))))] := hD
    refine lv_aload_n hx hb d_Si_add_52 rfl (lv_at hl 0 rfl) ?_
    refine lv_dup hx hb d_Si_add_53 rfl ?_
    refine va_get (D := D) (ci := 5) (v := .int (nI cn)) (C := R_Si) (T := T_Si) (N := 5) hx hb hts (fun w h => List.mem_cons_of_mem _ (iw_Si w h)) hown hK hP 0 rfl rfl 4 (by decide) (hts _ (List.mem_cons_of_mem _ k_73)) (fun _ h9 => h9) rfl d_Si_add_54 ?_
    refine lv_iconst (v := nI 1) hx hb d_Si_add_57 (by decide +kernel) ?_
    refine lv_iadd hx hb d_Si_add_58 ?_
    refine ka_i (y := nI (cn + 1)) (nI_add _ _) ?_
    refine va_put (D := D) (ci := 5) (v := .int (nI (cn + 1))) (ty := .int) (C := R_Si) (T := T_Si) (N := 5) hx hb hts (fun w h => List.mem_cons_of_mem _ (iw_Si w h)) ty_Si tyok_Si nm_Si hown hK hP hD hS 0 rfl rfl 4 (by decide) (hts _ (List.mem_cons_of_mem _ k_73)) (fun _ h9 => h9) rfl (by decide +kernel) (rfl) (rfl) (Nat.le_of_ble_eq_true rfl) d_Si_add_59 (fun H locs hP hD hS => ?_)
    have hP : va_P D vwCl [(hz, .inr (5, [.ref t1, .ref t2, .ref t3, .ref t4, .int (nI (cn + 1))])), (t1, .inl (cI, 8, .inl (fun j => nI ((va_up th cn q1) j)))), (t2, .inl (cI, 8, .inl (fun j => nI ((va_up wi cn q2) j)))), (t3, .inl (cI, 8, .inl (fun j => nI ((va_up wo cn q3) j)))), (t4, .inl (cI, 8, .inl (fun j => nI ((va_up wn cn q4) j))))] H := hP
    have hD : va_D A [(hz, .inr (5, [.ref t1, .ref t2, .ref t3, .ref t4, .int (nI (cn + 1))])), (t1, .inl (cI, 8, .inl (fun j => nI ((va_up th cn q1) j)))), (t2, .inl (cI, 8, .inl (fun j => nI ((va_up wi cn q2) j)))), (t3, .inl (cI, 8, .inl (fun j => nI ((va_up wo cn q3) j)))), (t4, .inl (cI, 8, .inl (fun j => nI ((va_up wn cn q4) j))))] := hD
    refine lv_aload_n hx hb d_Si_add_62 rfl (lv_at hl 0 rfl) ?_
    refine va_get (D := D) (ci := 5) (v := .int (nI (cn + 1))) (C := R_Si) (T := T_Si) (N := 5) hx hb hts (fun w h => List.mem_cons_of_mem _ (iw_Si w h)) hown hK hP 0 rfl rfl 4 (by decide) (hts _ (List.mem_cons_of_mem _ k_73)) (fun _ h9 => h9) rfl d_Si_add_63 ?_
    refine lv_iconst (v := nI 1) hx hb d_Si_add_66 (by decide +kernel) ?_
    refine lv_isub hx hb d_Si_add_67 ?_
    refine ka_i (y := nI ((cn + 1) - 1)) (pk_sub (by omega)) ?_
    refine ka_i (y := nI cn) (congrArg nI (by omega)) ?_
    exact kreti (u := ()) hx hb hr hP hD hS hlocks rfl (rfl) d_Si_add_68
  · exfalso; omega
end
section
theorem d_Be_layOutBoard_0 : decode b_Be_layOutBoard 0 = .ok (.aload_n 1, 1) := by decide +kernel
theorem d_Be_layOutBoard_1 : decode b_Be_layOutBoard 1 = .ok (.iload_n 2, 1) := by decide +kernel
theorem d_Be_layOutBoard_2 : decode b_Be_layOutBoard 2 = .ok (.iload_n 3, 1) := by decide +kernel
theorem d_Be_layOutBoard_3 : decode b_Be_layOutBoard 3 = .ok (.iload 4, 2) := by decide +kernel
theorem d_Be_layOutBoard_5 : decode b_Be_layOutBoard 5 = .ok (.invokevirtual 114, 3) := by decide +kernel
theorem d_Be_layOutBoard_8 : decode b_Be_layOutBoard 8 = .ok (.aload_n 1, 1) := by decide +kernel
theorem d_Be_layOutBoard_9 : decode b_Be_layOutBoard 9 = .ok (.dup, 1) := by decide +kernel
theorem d_Be_layOutBoard_10 : decode b_Be_layOutBoard 10 = .ok (.getfield 117, 3) := by decide +kernel
theorem d_Be_layOutBoard_13 : decode b_Be_layOutBoard 13 = .ok (.aload_n 0, 1) := by decide +kernel
theorem d_Be_layOutBoard_14 : decode b_Be_layOutBoard 14 = .ok (.getfield 9, 3) := by decide +kernel
theorem d_Be_layOutBoard_17 : decode b_Be_layOutBoard 17 = .ok (.iload_n 2, 1) := by decide +kernel
theorem d_Be_layOutBoard_18 : decode b_Be_layOutBoard 18 = .ok (.iload_n 3, 1) := by decide +kernel
theorem d_Be_layOutBoard_19 : decode b_Be_layOutBoard 19 = .ok (.iload 4, 2) := by decide +kernel
theorem d_Be_layOutBoard_21 : decode b_Be_layOutBoard 21 = .ok (.aload_n 0, 1) := by decide +kernel
theorem d_Be_layOutBoard_22 : decode b_Be_layOutBoard 22 = .ok (.getfield 45, 3) := by decide +kernel
theorem d_Be_layOutBoard_25 : decode b_Be_layOutBoard 25 = .ok (.invokevirtual 88, 3) := by decide +kernel
theorem d_Be_layOutBoard_28 : decode b_Be_layOutBoard 28 = .ok (.iadd, 1) := by decide +kernel
theorem d_Be_layOutBoard_29 : decode b_Be_layOutBoard 29 = .ok (.putfield 117, 3) := by decide +kernel
theorem d_Be_layOutBoard_32 : decode b_Be_layOutBoard 32 = .ok (.aload_n 1, 1) := by decide +kernel
theorem d_Be_layOutBoard_33 : decode b_Be_layOutBoard 33 = .ok (.dup, 1) := by decide +kernel
theorem d_Be_layOutBoard_34 : decode b_Be_layOutBoard 34 = .ok (.getfield 120, 3) := by decide +kernel
theorem d_Be_layOutBoard_37 : decode b_Be_layOutBoard 37 = .ok (.aload_n 0, 1) := by decide +kernel
theorem d_Be_layOutBoard_38 : decode b_Be_layOutBoard 38 = .ok (.getfield 21, 3) := by decide +kernel
theorem d_Be_layOutBoard_41 : decode b_Be_layOutBoard 41 = .ok (.getfield 75, 3) := by decide +kernel
theorem d_Be_layOutBoard_44 : decode b_Be_layOutBoard 44 = .ok (.iload_n 2, 1) := by decide +kernel
theorem d_Be_layOutBoard_45 : decode b_Be_layOutBoard 45 = .ok (.iaload, 1) := by decide +kernel
theorem d_Be_layOutBoard_46 : decode b_Be_layOutBoard 46 = .ok (.aload_n 0, 1) := by decide +kernel
theorem d_Be_layOutBoard_47 : decode b_Be_layOutBoard 47 = .ok (.getfield 21, 3) := by decide +kernel
theorem d_Be_layOutBoard_50 : decode b_Be_layOutBoard 50 = .ok (.getfield 92, 3) := by decide +kernel
theorem d_Be_layOutBoard_53 : decode b_Be_layOutBoard 53 = .ok (.iload_n 2, 1) := by decide +kernel
theorem d_Be_layOutBoard_54 : decode b_Be_layOutBoard 54 = .ok (.iaload, 1) := by decide +kernel
theorem d_Be_layOutBoard_55 : decode b_Be_layOutBoard 55 = .ok (.imul, 1) := by decide +kernel
theorem d_Be_layOutBoard_56 : decode b_Be_layOutBoard 56 = .ok (.iadd, 1) := by decide +kernel
theorem d_Be_layOutBoard_57 : decode b_Be_layOutBoard 57 = .ok (.putfield 120, 3) := by decide +kernel
theorem d_Be_layOutBoard_60 : decode b_Be_layOutBoard 60 = .ok (.return_, 1) := by decide +kernel
theorem d_Be_layOutSlab_0 : decode b_Be_layOutSlab 0 = .ok (.aload_n 0, 1) := by decide +kernel
theorem d_Be_layOutSlab_1 : decode b_Be_layOutSlab 1 = .ok (.iload_n 2, 1) := by decide +kernel
theorem d_Be_layOutSlab_2 : decode b_Be_layOutSlab 2 = .ok (.iload_n 3, 1) := by decide +kernel
theorem d_Be_layOutSlab_3 : decode b_Be_layOutSlab 3 = .ok (.invokevirtual 58, 3) := by decide +kernel
theorem d_Be_layOutSlab_6 : decode b_Be_layOutSlab 6 = .ok (.pop2, 1) := by decide +kernel
theorem d_Be_layOutSlab_7 : decode b_Be_layOutSlab 7 = .ok (.iconst 0, 1) := by decide +kernel
theorem d_Be_layOutSlab_8 : decode b_Be_layOutSlab 8 = .ok (.istore 4, 2) := by decide +kernel
theorem d_Be_layOutSlab_10 : decode b_Be_layOutSlab 10 = .ok (.iconst 0, 1) := by decide +kernel
theorem d_Be_layOutSlab_11 : decode b_Be_layOutSlab 11 = .ok (.istore 5, 2) := by decide +kernel
theorem d_Be_layOutSlab_13 : decode b_Be_layOutSlab 13 = .ok (.iload 5, 2) := by decide +kernel
theorem d_Be_layOutSlab_15 : decode b_Be_layOutSlab 15 = .ok (.aload_n 0, 1) := by decide +kernel
theorem d_Be_layOutSlab_16 : decode b_Be_layOutSlab 16 = .ok (.getfield 22, 3) := by decide +kernel
theorem d_Be_layOutSlab_19 : decode b_Be_layOutSlab 19 = .ok (.if_icmp .ge 78, 3) := by decide +kernel
theorem d_Be_layOutSlab_22 : decode b_Be_layOutSlab 22 = .ok (.aload_n 0, 1) := by decide +kernel
theorem d_Be_layOutSlab_23 : decode b_Be_layOutSlab 23 = .ok (.getfield 40, 3) := by decide +kernel
theorem d_Be_layOutSlab_26 : decode b_Be_layOutSlab 26 = .ok (.iload 5, 2) := by decide +kernel
theorem d_Be_layOutSlab_28 : decode b_Be_layOutSlab 28 = .ok (.iaload, 1) := by decide +kernel
theorem d_Be_layOutSlab_29 : decode b_Be_layOutSlab 29 = .ok (.istore 6, 2) := by decide +kernel
theorem d_Be_layOutSlab_31 : decode b_Be_layOutSlab 31 = .ok (.iload 5, 2) := by decide +kernel
theorem d_Be_layOutSlab_33 : decode b_Be_layOutSlab 33 = .ok (.iload 4, 2) := by decide +kernel
theorem d_Be_layOutSlab_35 : decode b_Be_layOutSlab 35 = .ok (.if_icmp .lt 56, 3) := by decide +kernel
theorem d_Be_layOutSlab_38 : decode b_Be_layOutSlab 38 = .ok (.aload_n 0, 1) := by decide +kernel
theorem d_Be_layOutSlab_39 : decode b_Be_layOutSlab 39 = .ok (.getfield 21, 3) := by decide +kernel
theorem d_Be_layOutSlab_42 : decode b_Be_layOutSlab 42 = .ok (.iload 6, 2) := by decide +kernel
theorem d_Be_layOutSlab_44 : decode b_Be_layOutSlab 44 = .ok (.invokevirtual 107, 3) := by decide +kernel
theorem d_Be_layOutSlab_47 : decode b_Be_layOutSlab 47 = .ok (.ifCond .eq 44, 3) := by decide +kernel
theorem d_Be_layOutSlab_50 : decode b_Be_layOutSlab 50 = .ok (.aload_n 0, 1) := by decide +kernel
theorem d_Be_layOutSlab_51 : decode b_Be_layOutSlab 51 = .ok (.aload_n 1, 1) := by decide +kernel
theorem d_Be_layOutSlab_52 : decode b_Be_layOutSlab 52 = .ok (.iload 6, 2) := by decide +kernel
theorem d_Be_layOutSlab_54 : decode b_Be_layOutSlab 54 = .ok (.aload_n 0, 1) := by decide +kernel
theorem d_Be_layOutSlab_55 : decode b_Be_layOutSlab 55 = .ok (.iload_n 2, 1) := by decide +kernel
theorem d_Be_layOutSlab_56 : decode b_Be_layOutSlab 56 = .ok (.iload 5, 2) := by decide +kernel
theorem d_Be_layOutSlab_58 : decode b_Be_layOutSlab 58 = .ok (.invokevirtual 78, 3) := by decide +kernel
theorem d_Be_layOutSlab_61 : decode b_Be_layOutSlab 61 = .ok (.aload_n 0, 1) := by decide +kernel
theorem d_Be_layOutSlab_62 : decode b_Be_layOutSlab 62 = .ok (.iload_n 2, 1) := by decide +kernel
theorem d_Be_layOutSlab_63 : decode b_Be_layOutSlab 63 = .ok (.iload 5, 2) := by decide +kernel
theorem d_Be_layOutSlab_65 : decode b_Be_layOutSlab 65 = .ok (.invokevirtual 81, 3) := by decide +kernel
theorem d_Be_layOutSlab_68 : decode b_Be_layOutSlab 68 = .ok (.invokevirtual 110, 3) := by decide +kernel
theorem d_Be_layOutSlab_71 : decode b_Be_layOutSlab 71 = .ok (.iload 5, 2) := by decide +kernel
theorem d_Be_layOutSlab_73 : decode b_Be_layOutSlab 73 = .ok (.aload_n 0, 1) := by decide +kernel
theorem d_Be_layOutSlab_74 : decode b_Be_layOutSlab 74 = .ok (.getfield 21, 3) := by decide +kernel
theorem d_Be_layOutSlab_77 : decode b_Be_layOutSlab 77 = .ok (.getfield 92, 3) := by decide +kernel
theorem d_Be_layOutSlab_80 : decode b_Be_layOutSlab 80 = .ok (.iload 6, 2) := by decide +kernel
theorem d_Be_layOutSlab_82 : decode b_Be_layOutSlab 82 = .ok (.iaload, 1) := by decide +kernel
theorem d_Be_layOutSlab_83 : decode b_Be_layOutSlab 83 = .ok (.iadd, 1) := by decide +kernel
theorem d_Be_layOutSlab_84 : decode b_Be_layOutSlab 84 = .ok (.aload_n 0, 1) := by decide +kernel
theorem d_Be_layOutSlab_85 : decode b_Be_layOutSlab 85 = .ok (.getfield 26, 3) := by decide +kernel
theorem d_Be_layOutSlab_88 : decode b_Be_layOutSlab 88 = .ok (.iadd, 1) := by decide +kernel
theorem d_Be_layOutSlab_89 : decode b_Be_layOutSlab 89 = .ok (.istore 4, 2) := by decide +kernel
theorem d_Be_layOutSlab_91 : decode b_Be_layOutSlab 91 = .ok (.iinc 5 1, 3) := by decide +kernel
theorem d_Be_layOutSlab_94 : decode b_Be_layOutSlab 94 = .ok (.goto (-81), 3) := by decide +kernel
theorem d_Be_layOutSlab_97 : decode b_Be_layOutSlab 97 = .ok (.return_, 1) := by decide +kernel
/-- what lies in a pattern: how many boards, their sizes, x, y; their worth, their cells -/
abbrev PSt : Type := Nat × (Nat → Nat) × (Nat → Nat) × (Nat → Nat) × Int × Nat
def addB (va : Int) (ce i x y : Nat) (s : PSt) : PSt := (s.1 + 1, va_up s.2.1 s.1 i, va_up s.2.2.1 s.1 x, va_up s.2.2.2.1 s.1 y, s.2.2.2.2.1 + va, s.2.2.2.2.2 + ce)
def layStep (kf cn tn row : Nat) (th wi : Nat → Nat) (va : Nat → Nat → Int) (SC : Nat → Int) (k : Nat) (q : Nat × PSt) : Nat × PSt :=
  if q.1 ≤ k ∧ 0 ≤ SC k ∧ SC k < (cn : Int) then (k + wi (SC k).toNat + kf, addB (va k (SC k).toNat) (th (SC k).toNat * wi (SC k).toNat) (SC k).toNat (pX tn row k) (pY tn row k) q.2) else q
def slabLay (kf cn tn row : Nat) (th wi : Nat → Nat) (va : Nat → Nat → Int) (SC : Nat → Int) (s0 : PSt) : Nat → Nat × PSt
  | 0 => (0, s0)
  | k + 1 => layStep kf cn tn row th wi va SC k (slabLay kf cn tn row th wi va SC s0 k)
theorem slabLay_congr {kf cn tn row : Nat} {th wi : Nat → Nat} {va : Nat → Nat → Int} {SC SC' : Nat → Int} {s0 : PSt} : ∀ (k : Nat), (∀ j, j < k → SC j = SC' j) → slabLay kf cn tn row th wi va SC s0 k = slabLay kf cn tn row th wi va SC' s0 k := by
  intro k
  induction k with
  | zero => intro _; rfl
  | succ k ih =>
    intro h
    show layStep kf cn tn row th wi va SC k _ = layStep kf cn tn row th wi va SC' k _
    rw [ih (fun j hj => h j (by omega))]
    unfold layStep
    rw [h k (by omega)]
theorem slabLay_ct {kf cn tn row : Nat} {th wi : Nat → Nat} {va : Nat → Nat → Int} {SC : Nat → Int} {s0 : PSt} : ∀ (k : Nat), (slabLay kf cn tn row th wi va SC s0 k).2.1 ≤ s0.1 + k := by
  intro k
  induction k with
  | zero => exact Nat.le_refl _
  | succ k ih =>
    show (layStep kf cn tn row th wi va SC k _).2.1 ≤ _
    unfold layStep
    split
    · show (slabLay kf cn tn row th wi va SC s0 k).2.1 + 1 ≤ _
      omega
    · omega
theorem slabT_sc {side kf thick : Nat} {th wi : Nat → Nat} {ok : Nat → Nat → Prop} {va : Nat → Nat → Int} {cn : Nat} {RC SC : Nat → Int} (h0 : RC side = 0) (hw : ∀ i, i < cn → 1 ≤ wi i) (hv : ∀ c i, i < cn → 0 ≤ va c i ∧ va c i ≤ 100001) : ∀ (d : Nat), d ≤ side → ∀ j, side - d ≤ j → j < side → -1 ≤ (slabT side kf thick th wi ok va cn RC SC d).2 j ∧ (slabT side kf thick th wi ok va cn RC SC d).2 j < (cn : Int) := by
  intro d
  induction d with
  | zero => intro _ j h1 h2; exact absurd h2 (by omega)
  | succ d ih =>
    intro hd j h1 h2
    show -1 ≤ va_up _ (side - 1 - d) _ j ∧ va_up _ (side - 1 - d) _ j < _
    by_cases e : j = side - 1 - d
    · rw [e, va_up_self]
      have k := colFold_bd (RC := (slabT side kf thick th wi ok va cn RC SC d).1) (side := side) (kf := kf) (col := side - 1 - d) (thick := thick) (th := th) (wi := wi) (ok := ok (side - 1 - d)) (va := va (side - 1 - d)) (by omega) (fun j h3 h4 => slabT_bd h0 hw hv d (by omega) j (by omega) h4) cn (fun i hi => ⟨hw i hi, hv _ i hi⟩)
      exact ⟨k.2.2.1, k.2.2.2⟩
    · rw [va_up_ne _ _ e]
      exact ih (by omega) j (by omega) h2
set_option maxHeartbeats 4000000 in
set_option maxRecDepth 100000 in
theorem c_layBoard (l : Launch) (D : va_G) (cI cJ cZ : ClassId) (sz : Nat) (hb_ : Nat) (bo : Nat) (hz : Nat) (side : Nat) (kf : Nat) (tn : Nat) (r1 : Nat) (r2 : Nat) (r3 : Nat) (r4 : Nat) (h0 : Nat) (a1 : Nat) (a2 : Nat) (a3 : Nat) (a4 : Nat) (sm : Prop) (t1 : Nat) (t2 : Nat) (t3 : Nat) (t4 : Nat) (cn : Nat) (th : Nat → Nat) (wi : Nat → Nat) (wo : Nat → Nat) (F4 : Nat → Nat) (fl : Nat → Nat → Nat) (hp : Nat) (p1 : Nat) (p2 : Nat) (p3 : Nat) (pt : Nat) (psl : Nat) (pc_ : Nat) (pv : Int) (pce : Nat) (pn : Nat) (g1 : Nat → Nat) (g2 : Nat → Nat) (g3 : Nat → Nat) (i : Nat) (x : Nat) (y : Nat) (s2 : side ≤ 20) (tn1 : tn ≤ 1) (i8 : i < 8) (hx_ : x ≤ 20) (hy_ : y ≤ 20) (ht : ∀ k, k < 8 → th k ≤ 20) (hw : ∀ k, k < 8 → wi k ≤ 20) (ho : ∀ k, k < 8 → wo k ≤ 100000) (m4 : ∀ X Y, X ≤ side → Y ≤ side → F4 (Y * (side + 1) + X) = psm fl X Y) (hfl : ∀ i j, i < side → j < side → fl i j ≤ 10000) (hpn : pn ≤ 400) (hct : pc_ < pn) : Met l y_Be_layOutBoard w_Be_layOutBoard ({ frames := 2, cells := 0, slots := 0, locals := 52 }) (va_Pc [.ref hb_, .ref hp, .int (nI i), .int (nI x), .int (nI y)] (kB D vwCl (tyL cI cJ cZ) sz [(hb_, .inr (1, [.ref bo, .ref hz, .int (nI side), .int (nI kf), .int (nI tn), .ref r1, .ref r2, .ref r3, .ref r4])), (bo, .inr (2, [.ref hz, .ref h0])), (h0, .inr (3, [.int (nI side), .ref a1, .ref a2, .ref a3, .ref a4, .int (pI sm)])), (hz, .inr (5, [.ref t1, .ref t2, .ref t3, .ref t4, .int (nI cn)])), (t1, .inl (cI, 8, .inl (fun j => nI (th j)))), (t2, .inl (cI, 8, .inl (fun j => nI (wi j)))), (t3, .inl (cI, 8, .inl (fun j => nI (wo j)))), (a4, .inl (cI, ((side + 1) * (side + 1)), .inl (fun j => nI (F4 j)))), (hp, .inr (4, [.ref p1, .ref p2, .ref p3, .int (nI pt), .int (nI psl), .int (nI pc_), .int (iI pv), .int (nI pce)])), (p1, .inl (cI, pn, .inl (fun j => nI (g1 j)))), (p2, .inl (cI, pn, .inl (fun j => nI (g2 j)))), (p3, .inl (cI, pn, .inl (fun j => nI (g3 j))))])) (va_Qv (fun (_ : Unit) => True) (fun (_ : Unit) t => kE D vwCl (va_A [(hb_, .inr (1, [.ref bo, .ref hz, .int (nI side), .int (nI kf), .int (nI tn), .ref r1, .ref r2, .ref r3, .ref r4])), (bo, .inr (2, [.ref hz, .ref h0])), (h0, .inr (3, [.int (nI side), .ref a1, .ref a2, .ref a3, .ref a4, .int (pI sm)])), (hz, .inr (5, [.ref t1, .ref t2, .ref t3, .ref t4, .int (nI cn)])), (t1, .inl (cI, 8, .inl (fun j => nI (th j)))), (t2, .inl (cI, 8, .inl (fun j => nI (wi j)))), (t3, .inl (cI, 8, .inl (fun j => nI (wo j)))), (a4, .inl (cI, ((side + 1) * (side + 1)), .inl (fun j => nI (F4 j)))), (hp, .inr (4, [.ref p1, .ref p2, .ref p3, .int (nI pt), .int (nI psl), .int (nI pc_), .int (iI pv), .int (nI pce)])), (p1, .inl (cI, pn, .inl (fun j => nI (g1 j)))), (p2, .inl (cI, pn, .inl (fun j => nI (g2 j)))), (p3, .inl (cI, pn, .inl (fun j => nI (g3 j))))] sz) [(hb_, .inr (1, [.ref bo, .ref hz, .int (nI side), .int (nI kf), .int (nI tn), .ref r1, .ref r2, .ref r3, .ref r4])), (bo, .inr (2, [.ref hz, .ref h0])), (h0, .inr (3, [.int (nI side), .ref a1, .ref a2, .ref a3, .ref a4, .int (pI sm)])), (hz, .inr (5, [.ref t1, .ref t2, .ref t3, .ref t4, .int (nI cn)])), (t1, .inl (cI, 8, .inl (fun j => nI (th j)))), (t2, .inl (cI, 8, .inl (fun j => nI (wi j)))), (t3, .inl (cI, 8, .inl (fun j => nI (wo j)))), (a4, .inl (cI, ((side + 1) * (side + 1)), .inl (fun j => nI (F4 j)))), (hp, .inr (4, [.ref p1, .ref p2, .ref p3, .int (nI pt), .int (nI psl), .int (nI (pc_ + 1)), .int (iI (pv + (max 0 ((wo i : Int) - sumZ fl side ((x : Nat) : Int) ((y : Nat) : Int) (if ((tn : Nat) : Int) = 0 then wi i else th i) (if ((tn : Nat) : Int) = 0 then th i else wi i))))), .int (nI (pce + th i * wi i))])), (p1, .inl (cI, pn, .inl (fun j => nI ((va_up g1 pc_ i) j)))), (p2, .inl (cI, pn, .inl (fun j => nI ((va_up g2 pc_ x) j)))), (p3, .inl (cI, pn, .inl (fun j => nI ((va_up g3 pc_ y) j))))] t) (va_A [(hb_, .inr (1, [.ref bo, .ref hz, .int (nI side), .int (nI kf), .int (nI tn), .ref r1, .ref r2, .ref r3, .ref r4])), (bo, .inr (2, [.ref hz, .ref h0])), (h0, .inr (3, [.int (nI side), .ref a1, .ref a2, .ref a3, .ref a4, .int (pI sm)])), (hz, .inr (5, [.ref t1, .ref t2, .ref t3, .ref t4, .int (nI cn)])), (t1, .inl (cI, 8, .inl (fun j => nI (th j)))), (t2, .inl (cI, 8, .inl (fun j => nI (wi j)))), (t3, .inl (cI, 8, .inl (fun j => nI (wo j)))), (a4, .inl (cI, ((side + 1) * (side + 1)), .inl (fun j => nI (F4 j)))), (hp, .inr (4, [.ref p1, .ref p2, .ref p3, .int (nI pt), .int (nI psl), .int (nI pc_), .int (iI pv), .int (nI pce)])), (p1, .inl (cI, pn, .inl (fun j => nI (g1 j)))), (p2, .inl (cI, pn, .inl (fun j => nI (g2 j)))), (p3, .inl (cI, pn, .inl (fun j => nI (g3 j))))] sz)) 0 0 (va_A [(hb_, .inr (1, [.ref bo, .ref hz, .int (nI side), .int (nI kf), .int (nI tn), .ref r1, .ref r2, .ref r3, .ref r4])), (bo, .inr (2, [.ref hz, .ref h0])), (h0, .inr (3, [.int (nI side), .ref a1, .ref a2, .ref a3, .ref a4, .int (pI sm)])), (hz, .inr (5, [.ref t1, .ref t2, .ref t3, .ref t4, .int (nI cn)])), (t1, .inl (cI, 8, .inl (fun j => nI (th j)))), (t2, .inl (cI, 8, .inl (fun j => nI (wi j)))), (t3, .inl (cI, 8, .inl (fun j => nI (wo j)))), (a4, .inl (cI, ((side + 1) * (side + 1)), .inl (fun j => nI (F4 j)))), (hp, .inr (4, [.ref p1, .ref p2, .ref p3, .int (nI pt), .int (nI psl), .int (nI pc_), .int (iI pv), .int (nI pce)])), (p1, .inl (cI, pn, .inl (fun j => nI (g1 j)))), (p2, .inl (cI, pn, .inl (fun j => nI (g2 j)))), (p3, .inl (cI, pn, .inl (fun j => nI (g3 j))))] sz) := by
  refine Met.ofW (cc := b_Be_layOutBoard) (maxL := 5) (ret := none) (by decide) rfl ?_
  intro p e s m args below meth c s₁ B hml hv
  obtain ⟨rfl, hsz, hP, hK, hD0, hZ⟩ := hv
  have hx := B.exec
  have hb := B.bytes
  have hr := B.returns
  have hts := atoms_spec (ws := w_Be_layOutBoard) B.pre
  have hown : s.vm.findClass R_Be = some m.cls := findClass_of_methodNamed B.named
  have hlocks := B.notSynchronized
  subst hsz
  have hD := hD0.self (sz := s.heap.size)
  generalize hAe : va_A [(hb_, .inr (1, [.ref bo, .ref hz, .int (nI side), .int (nI kf), .int (nI tn), .ref r1, .ref r2, .ref r3, .ref r4])), (bo, .inr (2, [.ref hz, .ref h0])), (h0, .inr (3, [.int (nI side), .ref a1, .ref a2, .ref a3, .ref a4, .int (pI sm)])), (hz, .inr (5, [.ref t1, .ref t2, .ref t3, .ref t4, .int (nI cn)])), (t1, .inl (cI, 8, .inl (fun j => nI (th j)))), (t2, .inl (cI, 8, .inl (fun j => nI (wi j)))), (t3, .inl (cI, 8, .inl (fun j => nI (wo j)))), (a4, .inl (cI, ((side + 1) * (side + 1)), .inl (fun j => nI (F4 j)))), (hp, .inr (4, [.ref p1, .ref p2, .ref p3, .int (nI pt), .int (nI psl), .int (nI pc_), .int (iI pv), .int (nI pce)])), (p1, .inl (cI, pn, .inl (fun j => nI (g1 j)))), (p2, .inl (cI, pn, .inl (fun j => nI (g2 j)))), (p3, .inl (cI, pn, .inl (fun j => nI (g3 j))))] s.heap.size = A at hD ⊢
  have hA : ∀ q : Nat, s.heap.size ≤ q → A q := fun q h => by rw [← hAe]; exact Or.inr h
  have hS : va_S A s.heap s.heap [] := va_S.rf
  have hP : va_P D vwCl [(hb_, .inr (1, [.ref bo, .ref hz, .int (nI side), .int (nI kf), .int (nI tn), .ref r1, .ref r2, .ref r3, .ref r4])), (bo, .inr (2, [.ref hz, .ref h0])), (h0, .inr (3, [.int (nI side), .ref a1, .ref a2, .ref a3, .ref a4, .int (pI sm)])), (hz, .inr (5, [.ref t1, .ref t2, .ref t3, .ref t4, .int (nI cn)])), (t1, .inl (cI, 8, .inl (fun j => nI (th j)))), (t2, .inl (cI, 8, .inl (fun j => nI (wi j)))), (t3, .inl (cI, 8, .inl (fun j => nI (wo j)))), (a4, .inl (cI, ((side + 1) * (side + 1)), .inl (fun j => nI (F4 j)))), (hp, .inr (4, [.ref p1, .ref p2, .ref p3, .int (nI pt), .int (nI psl), .int (nI pc_), .int (iI pv), .int (nI pce)])), (p1, .inl (cI, pn, .inl (fun j => nI (g1 j)))), (p2, .inl (cI, pn, .inl (fun j => nI (g2 j)))), (p3, .inl (cI, pn, .inl (fun j => nI (g3 j))))] s.heap := hP
  have hl := lv_entry ([.ref hb_, .ref hp, .int (nI i), .int (nI x), .int (nI y)]) (n := 5) (Nat.le_of_ble_eq_true rfl)
  rw [lg_entry_eq]
  generalize (lg_sl ([.ref hb_, .ref hp, .int (nI i), .int (nI x), .int (nI y)]) ++ List.replicate (5 - (lg_sl ([.ref hb_, .ref hp, .int (nI i), .int (nI x), .int (nI y)])).length) Slot.unset).toArray = ls at hl ⊢
  have hl : lv_has ls 5 [(0, .ref hb_), (1, .ref hp), (2, .int (nI i)), (3, .int (nI x)), (4, .int (nI y))] := hl
  refine lv_aload_n hx hb d_Be_layOutBoard_0 rfl (lv_at hl 1 rfl) ?_
  refine lv_iload_n hx hb d_Be_layOutBoard_1 rfl (lv_at hl 2 rfl) ?_
  refine lv_iload_n hx hb d_Be_layOutBoard_2 rfl (lv_at hl 3 rfl) ?_
  refine lv_iload hx hb d_Be_layOutBoard_3 (lv_at hl 4 rfl) ?_
  refine kcallv (wc := [(hp, .inr (4, [.ref p1, .ref p2, .ref p3, .int (nI pt), .int (nI psl), .int (nI pc_), .int (iI pv), .int (nI pce)])), (p1, .inl (cI, pn, .inl (fun j => nI (g1 j)))), (p2, .inl (cI, pn, .inl (fun j => nI (g2 j)))), (p3, .inl (cI, pn, .inl (fun j => nI (g3 j))))]) (wr := [(hb_, .inr (1, [.ref bo, .ref hz, .int (nI side), .int (nI kf), .int (nI tn), .ref r1, .ref r2, .ref r3, .ref r4])), (bo, .inr (2, [.ref hz, .ref h0])), (h0, .inr (3, [.int (nI side), .ref a1, .ref a2, .ref a3, .ref a4, .int (pI sm)])), (hz, .inr (5, [.ref t1, .ref t2, .ref t3, .ref t4, .int (nI cn)])), (t1, .inl (cI, 8, .inl (fun j => nI (th j)))), (t2, .inl (cI, 8, .inl (fun j => nI (wi j)))), (t3, .inl (cI, 8, .inl (fun j => nI (wo j)))), (a4, .inl (cI, ((side + 1) * (side + 1)), .inl (fun j => nI (F4 j))))]) [8, 9, 10, 11] [0, 1, 2, 3, 4, 5, 6, 7] (va_runV (As := [.int (nI i), .int (nI x), .int (nI y)]) (rest := []) ⟨hx, hb, hml, hown, hts⟩ (c_padd l D cI cJ cZ s.heap.size hp p1 p2 p3 pt psl pc_ pv pce pn g1 g2 g3 i x y (by omega) (by omega)) ⟨callB_of 3 hts (gd kc_Pa_add) rfl rfl rfl (hts _ (List.mem_cons_of_mem _ k_7)) (hts _ (List.mem_cons_of_mem _ k_286)) (by decide +kernel) ⟨Nat.le_of_ble_eq_true rfl, Nat.le_of_ble_eq_true rfl⟩, hts _ (List.mem_cons_of_mem _ k_287), hts _ (List.mem_cons_of_mem _ k_288)⟩ ⟨kB_blind, va_recv hK hP (ci := 4) (q0 := 8) rfl rfl, kB_at hP hD hK hZ [8, 9, 10, 11] rfl (by decide) rfl⟩ rfl rfl hl.1 rfl (lv_room (Nat.le_of_ble_eq_true rfl)) d_Be_layOutBoard_5 ⟨Nat.zero_le _, Nat.zero_le _⟩) hP hD hS hA rfl rfl (by decide) (by decide) (fun _ H locs hw_5 hP hD hS => ?_)
  have hP : va_P D vwCl [(hb_, .inr (1, [.ref bo, .ref hz, .int (nI side), .int (nI kf), .int (nI tn), .ref r1, .ref r2, .ref r3, .ref r4])), (bo, .inr (2, [.ref hz, .ref h0])), (h0, .inr (3, [.int (nI side), .ref a1, .ref a2, .ref a3, .ref a4, .int (pI sm)])), (hz, .inr (5, [.ref t1, .ref t2, .ref t3, .ref t4, .int (nI cn)])), (t1, .inl (cI, 8, .inl (fun j => nI (th j)))), (t2, .inl (cI, 8, .inl (fun j => nI (wi j)))), (t3, .inl (cI, 8, .inl (fun j => nI (wo j)))), (a4, .inl (cI, ((side + 1) * (side + 1)), .inl (fun j => nI (F4 j)))), (hp, .inr (4, [.ref p1, .ref p2, .ref p3, .int (nI pt), .int (nI psl), .int (nI (pc_ + 1)), .int (iI pv), .int (nI pce)])), (p1, .inl (cI, pn, .inl (fun j => nI ((va_up g1 pc_ i) j)))), (p2, .inl (cI, pn, .inl (fun j => nI ((va_up g2 pc_ x) j)))), (p3, .inl (cI, pn, .inl (fun j => nI ((va_up g3 pc_ y) j))))] H := hP
  have hD : va_D A [(hb_, .inr (1, [.ref bo, .ref hz, .int (nI side), .int (nI kf), .int (nI tn), .ref r1, .ref r2, .ref r3, .ref r4])), (bo, .inr (2, [.ref hz, .ref h0])), (h0, .inr (3, [.int (nI side), .ref a1, .ref a2, .ref a3, .ref a4, .int (pI sm)])), (hz, .inr (5, [.ref t1, .ref t2, .ref t3, .ref t4, .int (nI cn)])), (t1, .inl (cI, 8, .inl (fun j => nI (th j)))), (t2, .inl (cI, 8, .inl (fun j => nI (wi j)))), (t3, .inl (cI, 8, .inl (fun j => nI (wo j)))), (a4, .inl (cI, ((side + 1) * (side + 1)), .inl (fun j => nI (F4 j)))), (hp, .inr (4, [.ref p1, .ref p2, .ref p3, .int (nI pt), .int (nI psl), .int (nI (pc_ + 1)), .int (iI pv), .int (nI pce)])), (p1, .inl (cI, pn, .inl (fun j => nI ((va_up g1 pc_ i) j)))), (p2, .inl (cI, pn, .inl (fun j => nI ((va_up g2 pc_ x) j)))), (p3, .inl (cI, pn, .inl (fun j => nI ((va_up g3 pc_ y) j))))] := hD
  refine lv_aload_n hx hb d_Be_layOutBoard_8 rfl (lv_at hl 1 rfl) ?_
  refine lv_dup hx hb d_Be_layOutBoard_9 rfl ?_
  refine va_get (D := D) (ci := 4) (v := .int (iI pv)) (C := R_Pa) (T := T_Pa) (N := 8) hx hb hts (fun w h => List.mem_cons_of_mem _ (iw_Pa w h)) hown hK hP 8 rfl rfl 6 (by decide) (hts _ (List.mem_cons_of_mem _ k_157)) (fun _ h9 => h9) rfl d_Be_layOutBoard_10 ?_
  refine lv_aload_n hx hb d_Be_layOutBoard_13 rfl (lv_at hl 0 rfl) ?_
  refine va_get (D := D) (ci := 1) (v := .ref bo) (C := R_Be) (T := T_Be) (N := 9) hx hb hts (fun w h => List.mem_cons_of_mem _ (iw_Be w h)) hown hK hP 0 rfl rfl 0 (by decide) (hts _ (List.mem_cons_of_mem _ k_107)) (fun _ h9 => h9) rfl d_Be_layOutBoard_14 ?_
  refine lv_iload_n hx hb d_Be_layOutBoard_17 rfl (lv_at hl 2 rfl) ?_
  refine lv_iload_n hx hb d_Be_layOutBoard_18 rfl (lv_at hl 3 rfl) ?_
  refine lv_iload hx hb d_Be_layOutBoard_19 (lv_at hl 4 rfl) ?_
  refine lv_aload_n hx hb d_Be_layOutBoard_21 rfl (lv_at hl 0 rfl) ?_
  refine va_get (D := D) (ci := 1) (v := .int (nI tn)) (C := R_Be) (T := T_Be) (N := 9) hx hb hts (fun w h => List.mem_cons_of_mem _ (iw_Be w h)) hown hK hP 0 rfl rfl 4 (by decide) (hts _ (List.mem_cons_of_mem _ k_111)) (fun _ h9 => h9) rfl d_Be_layOutBoard_22 ?_
  refine kcallR (r := .int (iI (max 0 ((wo i : Int) - sumZ fl side ((x : Nat) : Int) ((y : Nat) : Int) (if ((tn : Nat) : Int) = 0 then wi i else th i) (if ((tn : Nat) : Int) = 0 then th i else wi i))))) (va_runV (As := [.int (nI i), .int (nI x), .int (nI y), .int (nI tn)]) (rest := [.int (iI pv), .ref hp]) ⟨hx, hb, hml, hown, hts⟩ (c_valueAt l D cI cJ cZ bo h0 side a1 a2 a3 a4 sm hz t1 t2 t3 t4 cn th wi wo F4 fl i (nI x) (nI y) ((x : Nat) : Int) ((y : Nat) : Int) (nI tn) ((tn : Nat) : Int) (by omega) (by omega) ht hw (nI_t (by omega)) (nI_t (by omega)) (nI_t (by omega)) m4 hfl ho) ⟨callB_of 4 hts (gd kc_Bo_valueAt) rfl rfl rfl (hts _ (List.mem_cons_of_mem _ k_5)) (hts _ (List.mem_cons_of_mem _ k_256)) (by decide +kernel) ⟨Nat.le_of_ble_eq_true rfl, Nat.le_of_ble_eq_true rfl⟩, hts _ (List.mem_cons_of_mem _ k_257), hts _ (List.mem_cons_of_mem _ k_258)⟩ ⟨kR_blind, va_recv hK hP (ci := 2) (q0 := 1) rfl rfl, kR_at hP hK hZ [1, 2, 3, 4, 5, 6, 7] rfl⟩ rfl rfl hl.1 rfl (lv_room (Nat.le_of_ble_eq_true rfl)) d_Be_layOutBoard_25 ⟨Nat.zero_le _, Nat.zero_le _⟩) ?_
  refine lv_iadd hx hb d_Be_layOutBoard_28 ?_
  refine ka_i (y := iI (pv + (max 0 ((wo i : Int) - sumZ fl side ((x : Nat) : Int) ((y : Nat) : Int) (if ((tn : Nat) : Int) = 0 then wi i else th i) (if ((tn : Nat) : Int) = 0 then th i else wi i))))) (iI_add _ _) ?_
  refine va_put (D := D) (ci := 4) (v := .int (iI (pv + (max 0 ((wo i : Int) - sumZ fl side ((x : Nat) : Int) ((y : Nat) : Int) (if ((tn : Nat) : Int) = 0 then wi i else th i) (if ((tn : Nat) : Int) = 0 then th i else wi i)))))) (ty := .int) (C := R_Pa) (T := T_Pa) (N := 8) hx hb hts (fun w h => List.mem_cons_of_mem _ (iw_Pa w h)) ty_Pa tyok_Pa nm_Pa hown hK hP hD hS 8 rfl rfl 6 (by decide) (hts _ (List.mem_cons_of_mem _ k_157)) (fun _ h9 => h9) rfl (by decide +kernel) (rfl) (rfl) (Nat.le_of_ble_eq_true rfl) d_Be_layOutBoard_29 (fun H locs hP hD hS => ?_)
  have hP : va_P D vwCl [(hb_, .inr (1, [.ref bo, .ref hz, .int (nI side), .int (nI kf), .int (nI tn), .ref r1, .ref r2, .ref r3, .ref r4])), (bo, .inr (2, [.ref hz, .ref h0])), (h0, .inr (3, [.int (nI side), .ref a1, .ref a2, .ref a3, .ref a4, .int (pI sm)])), (hz, .inr (5, [.ref t1, .ref t2, .ref t3, .ref t4, .int (nI cn)])), (t1, .inl (cI, 8, .inl (fun j => nI (th j)))), (t2, .inl (cI, 8, .inl (fun j => nI (wi j)))), (t3, .inl (cI, 8, .inl (fun j => nI (wo j)))), (a4, .inl (cI, ((side + 1) * (side + 1)), .inl (fun j => nI (F4 j)))), (hp, .inr (4, [.ref p1, .ref p2, .ref p3, .int (nI pt), .int (nI psl), .int (nI (pc_ + 1)), .int (iI (pv + (max 0 ((wo i : Int) - sumZ fl side ((x : Nat) : Int) ((y : Nat) : Int) (if ((tn : Nat) : Int) = 0 then wi i else th i) (if ((tn : Nat) : Int) = 0 then th i else wi i))))), .int (nI pce)])), (p1, .inl (cI, pn, .inl (fun j => nI ((va_up g1 pc_ i) j)))), (p2, .inl (cI, pn, .inl (fun j => nI ((va_up g2 pc_ x) j)))), (p3, .inl (cI, pn, .inl (fun j => nI ((va_up g3 pc_ y) j))))] H := hP
  have hD : va_D A [(hb_, .inr (1, [.ref bo, .ref hz, .int (nI side), .int (nI kf), .int (nI tn), .ref r1, .ref r2, .ref r3, .ref r4])), (bo, .inr (2, [.ref hz, .ref h0])), (h0, .inr (3, [.int (nI side), .ref a1, .ref a2, .ref a3, .ref a4, .int (pI sm)])), (hz, .inr (5, [.ref t1, .ref t2, .ref t3, .ref t4, .int (nI cn)])), (t1, .inl (cI, 8, .inl (fun j => nI (th j)))), (t2, .inl (cI, 8, .inl (fun j => nI (wi j)))), (t3, .inl (cI, 8, .inl (fun j => nI (wo j)))), (a4, .inl (cI, ((side + 1) * (side + 1)), .inl (fun j => nI (F4 j)))), (hp, .inr (4, [.ref p1, .ref p2, .ref p3, .int (nI pt), .int (nI psl), .int (nI (pc_ + 1)), .int (iI (pv + (max 0 ((wo i : Int) - sumZ fl side ((x : Nat) : Int) ((y : Nat) : Int) (if ((tn : Nat) : Int) = 0 then wi i else th i) (if ((tn : Nat) : Int) = 0 then th i else wi i))))), .int (nI pce)])), (p1, .inl (cI, pn, .inl (fun j => nI ((va_up g1 pc_ i) j)))), (p2, .inl (cI, pn, .inl (fun j => nI ((va_up g2 pc_ x) j)))), (p3, .inl (cI, pn, .inl (fun j => nI ((va_up g3 pc_ y) j))))] := hD
  refine lv_aload_n hx hb d_Be_layOutBoard_32 rfl (lv_at hl 1 rfl) ?_
  refine lv_dup hx hb d_Be_layOutBoard_33 rfl ?_
  refine va_get (D := D) (ci := 4) (v := .int (nI pce)) (C := R_Pa) (T := T_Pa) (N := 8) hx hb hts (fun w h => List.mem_cons_of_mem _ (iw_Pa w h)) hown hK hP 8 rfl rfl 7 (by decide) (hts _ (List.mem_cons_of_mem _ k_160)) (fun _ h9 => h9) rfl d_Be_layOutBoard_34 ?_
  refine lv_aload_n hx hb d_Be_layOutBoard_37 rfl (lv_at hl 0 rfl) ?_
  refine va_get (D := D) (ci := 1) (v := .ref hz) (C := R_Be) (T := T_Be) (N := 9) hx hb hts (fun w h => List.mem_cons_of_mem _ (iw_Be w h)) hown hK hP 0 rfl rfl 1 (by decide) (hts _ (List.mem_cons_of_mem _ k_108)) (fun _ h9 => h9) rfl d_Be_layOutBoard_38 ?_
  refine va_get (D := D) (ci := 5) (v := .ref t1) (C := R_Si) (T := T_Si) (N := 5) hx hb hts (fun w h => List.mem_cons_of_mem _ (iw_Si w h)) hown hK hP 3 rfl rfl 0 (by decide) (hts _ (List.mem_cons_of_mem _ k_66)) (fun _ h9 => h9) rfl d_Be_layOutBoard_41 ?_
  refine lv_iload_n hx hb d_Be_layOutBoard_44 rfl (lv_at hl 2 rfl) ?_
  refine ka_iald (k := i) (n := 8) (f := fun j => nI (th j)) (nI_t (by omega)) (by omega) hx hb hK hP 4 0 rfl rfl d_Be_layOutBoard_45 ?_
  refine lv_aload_n hx hb d_Be_layOutBoard_46 rfl (lv_at hl 0 rfl) ?_
  refine va_get (D := D) (ci := 1) (v := .ref hz) (C := R_Be) (T := T_Be) (N := 9) hx hb hts (fun w h => List.mem_cons_of_mem _ (iw_Be w h)) hown hK hP 0 rfl rfl 1 (by decide) (hts _ (List.mem_cons_of_mem _ k_108)) (fun _ h9 => h9) rfl d_Be_layOutBoard_47 ?_
  refine va_get (D := D) (ci := 5) (v := .ref t2) (C := R_Si) (T := T_Si) (N := 5) hx hb hts (fun w h => List.mem_cons_of_mem _ (iw_Si w h)) hown hK hP 3 rfl rfl 1 (by decide) (hts _ (List.mem_cons_of_mem _ k_68)) (fun _ h9 => h9) rfl d_Be_layOutBoard_50 ?_
  refine lv_iload_n hx hb d_Be_layOutBoard_53 rfl (lv_at hl 2 rfl) ?_
  refine ka_iald (k := i) (n := 8) (f := fun j => nI (wi j)) (nI_t (by omega)) (by omega) hx hb hK hP 5 0 rfl rfl d_Be_layOutBoard_54 ?_
  refine lv_imul hx hb d_Be_layOutBoard_55 ?_
  refine ka_i (y := nI ((th i) * (wi i))) (pk_mul _ _) ?_
  refine lv_iadd hx hb d_Be_layOutBoard_56 ?_
  refine ka_i (y := nI (pce + ((th i) * (wi i)))) (nI_add _ _) ?_
  refine va_put (D := D) (ci := 4) (v := .int (nI (pce + ((th i) * (wi i))))) (ty := .int) (C := R_Pa) (T := T_Pa) (N := 8) hx hb hts (fun w h => List.mem_cons_of_mem _ (iw_Pa w h)) ty_Pa tyok_Pa nm_Pa hown hK hP hD hS 8 rfl rfl 7 (by decide) (hts _ (List.mem_cons_of_mem _ k_160)) (fun _ h9 => h9) rfl (by decide +kernel) (rfl) (rfl) (Nat.le_of_ble_eq_true rfl) d_Be_layOutBoard_57 (fun H locs hP hD hS => ?_)
  have hP : va_P D vwCl [(hb_, .inr (1, [.ref bo, .ref hz, .int (nI side), .int (nI kf), .int (nI tn), .ref r1, .ref r2, .ref r3, .ref r4])), (bo, .inr (2, [.ref hz, .ref h0])), (h0, .inr (3, [.int (nI side), .ref a1, .ref a2, .ref a3, .ref a4, .int (pI sm)])), (hz, .inr (5, [.ref t1, .ref t2, .ref t3, .ref t4, .int (nI cn)])), (t1, .inl (cI, 8, .inl (fun j => nI (th j)))), (t2, .inl (cI, 8, .inl (fun j => nI (wi j)))), (t3, .inl (cI, 8, .inl (fun j => nI (wo j)))), (a4, .inl (cI, ((side + 1) * (side + 1)), .inl (fun j => nI (F4 j)))), (hp, .inr (4, [.ref p1, .ref p2, .ref p3, .int (nI pt), .int (nI psl), .int (nI (pc_ + 1)), .int (iI (pv + (max 0 ((wo i : Int) - sumZ fl side ((x : Nat) : Int) ((y : Nat) : Int) (if ((tn : Nat) : Int) = 0 then wi i else th i) (if ((tn : Nat) : Int) = 0 then th i else wi i))))), .int (nI (pce + ((th i) * (wi i))))])), (p1, .inl (cI, pn, .inl (fun j => nI ((va_up g1 pc_ i) j)))), (p2, .inl (cI, pn, .inl (fun j => nI ((va_up g2 pc_ x) j)))), (p3, .inl (cI, pn, .inl (fun j => nI ((va_up g3 pc_ y) j))))] H := hP
  have hD : va_D A [(hb_, .inr (1, [.ref bo, .ref hz, .int (nI side), .int (nI kf), .int (nI tn), .ref r1, .ref r2, .ref r3, .ref r4])), (bo, .inr (2, [.ref hz, .ref h0])), (h0, .inr (3, [.int (nI side), .ref a1, .ref a2, .ref a3, .ref a4, .int (pI sm)])), (hz, .inr (5, [.ref t1, .ref t2, .ref t3, .ref t4, .int (nI cn)])), (t1, .inl (cI, 8, .inl (fun j => nI (th j)))), (t2, .inl (cI, 8, .inl (fun j => nI (wi j)))), (t3, .inl (cI, 8, .inl (fun j => nI (wo j)))), (a4, .inl (cI, ((side + 1) * (side + 1)), .inl (fun j => nI (F4 j)))), (hp, .inr (4, [.ref p1, .ref p2, .ref p3, .int (nI pt), .int (nI psl), .int (nI (pc_ + 1)), .int (iI (pv + (max 0 ((wo i : Int) - sumZ fl side ((x : Nat) : Int) ((y : Nat) : Int) (if ((tn : Nat) : Int) = 0 then wi i else th i) (if ((tn : Nat) : Int) = 0 then th i else wi i))))), .int (nI (pce + ((th i) * (wi i))))])), (p1, .inl (cI, pn, .inl (fun j => nI ((va_up g1 pc_ i) j)))), (p2, .inl (cI, pn, .inl (fun j => nI ((va_up g2 pc_ x) j)))), (p3, .inl (cI, pn, .inl (fun j => nI ((va_up g3 pc_ y) j))))] := hD
  exact kretv (u := ()) hx hb hr hP hD hS hlocks rfl (trivial) d_Be_layOutBoard_60
set_option maxHeartbeats 4000000 in
set_option maxRecDepth 100000 in
theorem c_laySlab (l : Launch) (D : va_G) (cI cJ cZ : ClassId) (sz : Nat) (hb_ : Nat) (bo : Nat) (hz : Nat) (side : Nat) (kf : Nat) (tn : Nat) (r1 : Nat) (r2 : Nat) (r3 : Nat) (r4 : Nat) (h0 : Nat) (a1 : Nat) (a2 : Nat) (a3 : Nat) (a4 : Nat) (sm : Prop) (t1 : Nat) (t2 : Nat) (t3 : Nat) (t4 : Nat) (cn : Nat) (th : Nat → Nat) (wi : Nat → Nat) (wo : Nat → Nat) (wn : Nat → Nat) (F3 : Nat → Nat) (F4 : Nat → Nat) (fb : Nat → Nat → Nat) (fl : Nat → Nat → Nat) (RC : Nat → Int) (SC : Nat → Int) (hp : Nat) (p1 : Nat) (p2 : Nat) (p3 : Nat) (pt : Nat) (psl : Nat) (pc_ : Nat) (pv : Int) (pce : Nat) (pn : Nat) (g1 : Nat → Nat) (g2 : Nat → Nat) (g3 : Nat → Nat) (row : Nat) (thick : Nat) (s1 : 1 ≤ side) (s2 : side ≤ 20) (k4 : kf ≤ 4) (tn1 : tn ≤ 1) (n8 : cn ≤ 8) (ht : ∀ k, k < 8 → th k ≤ 20) (hw : ∀ k, k < 8 → wi k ≤ 20) (hw1 : ∀ k, k < cn → 1 ≤ wi k) (ho : ∀ k, k < 8 → wo k ≤ 100000) (hn : ∀ k, k < 8 → wn k ≤ 400) (m3 : ∀ X Y, X ≤ side → Y ≤ side → F3 (Y * (side + 1) + X) = psm fb X Y) (m4 : ∀ X Y, X ≤ side → Y ≤ side → F4 (Y * (side + 1) + X) = psm fl X Y) (hfb : ∀ i j, i < side → j < side → fb i j ≤ 10000) (hfl : ∀ i j, i < side → j < side → fl i j ≤ 10000) (hrow : row < side) (hth : thick ≤ 20) (hR0 : RC side = 0) (hpn : pn = side * side) (hct : pc_ ≤ row * side) : Met l y_Be_layOutSlab w_Be_layOutSlab ({ frames := 4, cells := 0, slots := 0, locals := 104 }) (va_Pc [.ref hb_, .ref hp, .int (nI row), .int (nI thick)] (kB D vwCl (tyL cI cJ cZ) sz [(hb_, .inr (1, [.ref bo, .ref hz, .int (nI side), .int (nI kf), .int (nI tn), .ref r1, .ref r2, .ref r3, .ref r4])), (bo, .inr (2, [.ref hz, .ref h0])), (h0, .inr (3, [.int (nI side), .ref a1, .ref a2, .ref a3, .ref a4, .int (pI sm)])), (hz, .inr (5, [.ref t1, .ref t2, .ref t3, .ref t4, .int (nI cn)])), (t1, .inl (cI, 8, .inl (fun j => nI (th j)))), (t2, .inl (cI, 8, .inl (fun j => nI (wi j)))), (t3, .inl (cI, 8, .inl (fun j => nI (wo j)))), (t4, .inl (cI, 8, .inl (fun j => nI (wn j)))), (a3, .inl (cI, ((side + 1) * (side + 1)), .inl (fun j => nI (F3 j)))), (a4, .inl (cI, ((side + 1) * (side + 1)), .inl (fun j => nI (F4 j)))), (r3, .inl (cJ, (side + 1), .inr (.inl (fun j => lI (RC j))))), (r4, .inl (cI, side, .inl (fun j => iI (SC j)))), (hp, .inr (4, [.ref p1, .ref p2, .ref p3, .int (nI pt), .int (nI psl), .int (nI pc_), .int (iI pv), .int (nI pce)])), (p1, .inl (cI, pn, .inl (fun j => nI (g1 j)))), (p2, .inl (cI, pn, .inl (fun j => nI (g2 j)))), (p3, .inl (cI, pn, .inl (fun j => nI (g3 j))))])) (va_Qv (fun (u : (Nat → Int) × (Nat → Int)) => u.1 side = 0) (fun (u : (Nat → Int) × (Nat → Int)) t => kE D vwCl (va_A [(hb_, .inr (1, [.ref bo, .ref hz, .int (nI side), .int (nI kf), .int (nI tn), .ref r1, .ref r2, .ref r3, .ref r4])), (bo, .inr (2, [.ref hz, .ref h0])), (h0, .inr (3, [.int (nI side), .ref a1, .ref a2, .ref a3, .ref a4, .int (pI sm)])), (hz, .inr (5, [.ref t1, .ref t2, .ref t3, .ref t4, .int (nI cn)])), (t1, .inl (cI, 8, .inl (fun j => nI (th j)))), (t2, .inl (cI, 8, .inl (fun j => nI (wi j)))), (t3, .inl (cI, 8, .inl (fun j => nI (wo j)))), (t4, .inl (cI, 8, .inl (fun j => nI (wn j)))), (a3, .inl (cI, ((side + 1) * (side + 1)), .inl (fun j => nI (F3 j)))), (a4, .inl (cI, ((side + 1) * (side + 1)), .inl (fun j => nI (F4 j)))), (r3, .inl (cJ, (side + 1), .inr (.inl (fun j => lI (RC j))))), (r4, .inl (cI, side, .inl (fun j => iI (SC j)))), (hp, .inr (4, [.ref p1, .ref p2, .ref p3, .int (nI pt), .int (nI psl), .int (nI pc_), .int (iI pv), .int (nI pce)])), (p1, .inl (cI, pn, .inl (fun j => nI (g1 j)))), (p2, .inl (cI, pn, .inl (fun j => nI (g2 j)))), (p3, .inl (cI, pn, .inl (fun j => nI (g3 j))))] sz) [(hb_, .inr (1, [.ref bo, .ref hz, .int (nI side), .int (nI kf), .int (nI tn), .ref r1, .ref r2, .ref r3, .ref r4])), (bo, .inr (2, [.ref hz, .ref h0])), (h0, .inr (3, [.int (nI side), .ref a1, .ref a2, .ref a3, .ref a4, .int (pI sm)])), (hz, .inr (5, [.ref t1, .ref t2, .ref t3, .ref t4, .int (nI cn)])), (t1, .inl (cI, 8, .inl (fun j => nI (th j)))), (t2, .inl (cI, 8, .inl (fun j => nI (wi j)))), (t3, .inl (cI, 8, .inl (fun j => nI (wo j)))), (t4, .inl (cI, 8, .inl (fun j => nI (wn j)))), (a3, .inl (cI, ((side + 1) * (side + 1)), .inl (fun j => nI (F3 j)))), (a4, .inl (cI, ((side + 1) * (side + 1)), .inl (fun j => nI (F4 j)))), (r3, .inl (cJ, (side + 1), .inr (.inl (fun j => lI (u.1 j))))), (r4, .inl (cI, side, .inl (fun j => iI (u.2 j)))), (hp, .inr (4, [.ref p1, .ref p2, .ref p3, .int (nI pt), .int (nI psl), .int (nI ((slabLay kf cn tn row th wi (vaC side fl th wi wo tn row) (slab0 side kf thick th wi (okC side fb th wi wn tn row) (vaC side fl th wi wo tn row) cn).2 (pc_, g1, g2, g3, pv, pce) side).2.1)), .int (iI ((slabLay kf cn tn row th wi (vaC side fl th wi wo tn row) (slab0 side kf thick th wi (okC side fb th wi wn tn row) (vaC side fl th wi wo tn row) cn).2 (pc_, g1, g2, g3, pv, pce) side).2.2.2.2.2.1)), .int (nI ((slabLay kf cn tn row th wi (vaC side fl th wi wo tn row) (slab0 side kf thick th wi (okC side fb th wi wn tn row) (vaC side fl th wi wo tn row) cn).2 (pc_, g1, g2, g3, pv, pce) side).2.2.2.2.2.2))])), (p1, .inl (cI, pn, .inl (fun j => nI (((slabLay kf cn tn row th wi (vaC side fl th wi wo tn row) (slab0 side kf thick th wi (okC side fb th wi wn tn row) (vaC side fl th wi wo tn row) cn).2 (pc_, g1, g2, g3, pv, pce) side).2.2.1) j)))), (p2, .inl (cI, pn, .inl (fun j => nI (((slabLay kf cn tn row th wi (vaC side fl th wi wo tn row) (slab0 side kf thick th wi (okC side fb th wi wn tn row) (vaC side fl th wi wo tn row) cn).2 (pc_, g1, g2, g3, pv, pce) side).2.2.2.1) j)))), (p3, .inl (cI, pn, .inl (fun j => nI (((slabLay kf cn tn row th wi (vaC side fl th wi wo tn row) (slab0 side kf thick th wi (okC side fb th wi wn tn row) (vaC side fl th wi wo tn row) cn).2 (pc_, g1, g2, g3, pv, pce) side).2.2.2.2.1) j))))] t) (va_A [(hb_, .inr (1, [.ref bo, .ref hz, .int (nI side), .int (nI kf), .int (nI tn), .ref r1, .ref r2, .ref r3, .ref r4])), (bo, .inr (2, [.ref hz, .ref h0])), (h0, .inr (3, [.int (nI side), .ref a1, .ref a2, .ref a3, .ref a4, .int (pI sm)])), (hz, .inr (5, [.ref t1, .ref t2, .ref t3, .ref t4, .int (nI cn)])), (t1, .inl (cI, 8, .inl (fun j => nI (th j)))), (t2, .inl (cI, 8, .inl (fun j => nI (wi j)))), (t3, .inl (cI, 8, .inl (fun j => nI (wo j)))), (t4, .inl (cI, 8, .inl (fun j => nI (wn j)))), (a3, .inl (cI, ((side + 1) * (side + 1)), .inl (fun j => nI (F3 j)))), (a4, .inl (cI, ((side + 1) * (side + 1)), .inl (fun j => nI (F4 j)))), (r3, .inl (cJ, (side + 1), .inr (.inl (fun j => lI (RC j))))), (r4, .inl (cI, side, .inl (fun j => iI (SC j)))), (hp, .inr (4, [.ref p1, .ref p2, .ref p3, .int (nI pt), .int (nI psl), .int (nI pc_), .int (iI pv), .int (nI pce)])), (p1, .inl (cI, pn, .inl (fun j => nI (g1 j)))), (p2, .inl (cI, pn, .inl (fun j => nI (g2 j)))), (p3, .inl (cI, pn, .inl (fun j => nI (g3 j))))] sz)) 0 0 (va_A [(hb_, .inr (1, [.ref bo, .ref hz, .int (nI side), .int (nI kf), .int (nI tn), .ref r1, .ref r2, .ref r3, .ref r4])), (bo, .inr (2, [.ref hz, .ref h0])), (h0, .inr (3, [.int (nI side), .ref a1, .ref a2, .ref a3, .ref a4, .int (pI sm)])), (hz, .inr (5, [.ref t1, .ref t2, .ref t3, .ref t4, .int (nI cn)])), (t1, .inl (cI, 8, .inl (fun j => nI (th j)))), (t2, .inl (cI, 8, .inl (fun j => nI (wi j)))), (t3, .inl (cI, 8, .inl (fun j => nI (wo j)))), (t4, .inl (cI, 8, .inl (fun j => nI (wn j)))), (a3, .inl (cI, ((side + 1) * (side + 1)), .inl (fun j => nI (F3 j)))), (a4, .inl (cI, ((side + 1) * (side + 1)), .inl (fun j => nI (F4 j)))), (r3, .inl (cJ, (side + 1), .inr (.inl (fun j => lI (RC j))))), (r4, .inl (cI, side, .inl (fun j => iI (SC j)))), (hp, .inr (4, [.ref p1, .ref p2, .ref p3, .int (nI pt), .int (nI psl), .int (nI pc_), .int (iI pv), .int (nI pce)])), (p1, .inl (cI, pn, .inl (fun j => nI (g1 j)))), (p2, .inl (cI, pn, .inl (fun j => nI (g2 j)))), (p3, .inl (cI, pn, .inl (fun j => nI (g3 j))))] sz) := by
  refine Met.ofW (cc := b_Be_layOutSlab) (maxL := 7) (ret := none) (by decide) rfl ?_
  intro p e s m args below meth c s₁ B hml hv
  obtain ⟨rfl, hsz, hP, hK, hD0, hZ⟩ := hv
  have hx := B.exec
  have hb := B.bytes
  have hr := B.returns
  have hts := atoms_spec (ws := w_Be_layOutSlab) B.pre
  have hown : s.vm.findClass R_Be = some m.cls := findClass_of_methodNamed B.named
  have hlocks := B.notSynchronized
  subst hsz
  have hD := hD0.self (sz := s.heap.size)
  generalize hAe : va_A [(hb_, .inr (1, [.ref bo, .ref hz, .int (nI side), .int (nI kf), .int (nI tn), .ref r1, .ref r2, .ref r3, .ref r4])), (bo, .inr (2, [.ref hz, .ref h0])), (h0, .inr (3, [.int (nI side), .ref a1, .ref a2, .ref a3, .ref a4, .int (pI sm)])), (hz, .inr (5, [.ref t1, .ref t2, .ref t3, .ref t4, .int (nI cn)])), (t1, .inl (cI, 8, .inl (fun j => nI (th j)))), (t2, .inl (cI, 8, .inl (fun j => nI (wi j)))), (t3, .inl (cI, 8, .inl (fun j => nI (wo j)))), (t4, .inl (cI, 8, .inl (fun j => nI (wn j)))), (a3, .inl (cI, ((side + 1) * (side + 1)), .inl (fun j => nI (F3 j)))), (a4, .inl (cI, ((side + 1) * (side + 1)), .inl (fun j => nI (F4 j)))), (r3, .inl (cJ, (side + 1), .inr (.inl (fun j => lI (RC j))))), (r4, .inl (cI, side, .inl (fun j => iI (SC j)))), (hp, .inr (4, [.ref p1, .ref p2, .ref p3, .int (nI pt), .int (nI psl), .int (nI pc_), .int (iI pv), .int (nI pce)])), (p1, .inl (cI, pn, .inl (fun j => nI (g1 j)))), (p2, .inl (cI, pn, .inl (fun j => nI (g2 j)))), (p3, .inl (cI, pn, .inl (fun j => nI (g3 j))))] s.heap.size = A at hD ⊢
  have hA : ∀ q : Nat, s.heap.size ≤ q → A q := fun q h => by rw [← hAe]; exact Or.inr h
  have hS : va_S A s.heap s.heap [] := va_S.rf
  have hP : va_P D vwCl [(hb_, .inr (1, [.ref bo, .ref hz, .int (nI side), .int (nI kf), .int (nI tn), .ref r1, .ref r2, .ref r3, .ref r4])), (bo, .inr (2, [.ref hz, .ref h0])), (h0, .inr (3, [.int (nI side), .ref a1, .ref a2, .ref a3, .ref a4, .int (pI sm)])), (hz, .inr (5, [.ref t1, .ref t2, .ref t3, .ref t4, .int (nI cn)])), (t1, .inl (cI, 8, .inl (fun j => nI (th j)))), (t2, .inl (cI, 8, .inl (fun j => nI (wi j)))), (t3, .inl (cI, 8, .inl (fun j => nI (wo j)))), (t4, .inl (cI, 8, .inl (fun j => nI (wn j)))), (a3, .inl (cI, ((side + 1) * (side + 1)), .inl (fun j => nI (F3 j)))), (a4, .inl (cI, ((side + 1) * (side + 1)), .inl (fun j => nI (F4 j)))), (r3, .inl (cJ, (side + 1), .inr (.inl (fun j => lI (RC j))))), (r4, .inl (cI, side, .inl (fun j => iI (SC j)))), (hp, .inr (4, [.ref p1, .ref p2, .ref p3, .int (nI pt), .int (nI psl), .int (nI pc_), .int (iI pv), .int (nI pce)])), (p1, .inl (cI, pn, .inl (fun j => nI (g1 j)))), (p2, .inl (cI, pn, .inl (fun j => nI (g2 j)))), (p3, .inl (cI, pn, .inl (fun j => nI (g3 j))))] s.heap := hP
  have hl := lv_entry ([.ref hb_, .ref hp, .int (nI row), .int (nI thick)]) (n := 7) (Nat.le_of_ble_eq_true rfl)
  rw [lg_entry_eq]
  generalize (lg_sl ([.ref hb_, .ref hp, .int (nI row), .int (nI thick)]) ++ List.replicate (7 - (lg_sl ([.ref hb_, .ref hp, .int (nI row), .int (nI thick)])).length) Slot.unset).toArray = ls at hl ⊢
  have hl : lv_has ls 7 [(0, .ref hb_), (1, .ref hp), (2, .int (nI row)), (3, .int (nI thick))] := hl
  have qsq := (sq20 s2).2
  have qrs : row * side + side ≤ side * side := by
    have h9 := Nat.mul_le_mul (show row + 1 ≤ side by omega) (Nat.le_refl side)
    rw [Nat.succ_mul] at h9
    exact h9
  refine lv_aload_n hx hb d_Be_layOutSlab_0 rfl (lv_at hl 0 rfl) ?_
  refine lv_iload_n hx hb d_Be_layOutSlab_1 rfl (lv_at hl 2 rfl) ?_
  refine lv_iload_n hx hb d_Be_layOutSlab_2 rfl (lv_at hl 3 rfl) ?_
  refine kcalll (wc := [(hb_, .inr (1, [.ref bo, .ref hz, .int (nI side), .int (nI kf), .int (nI tn), .ref r1, .ref r2, .ref r3, .ref r4])), (bo, .inr (2, [.ref hz, .ref h0])), (h0, .inr (3, [.int (nI side), .ref a1, .ref a2, .ref a3, .ref a4, .int (pI sm)])), (hz, .inr (5, [.ref t1, .ref t2, .ref t3, .ref t4, .int (nI cn)])), (t1, .inl (cI, 8, .inl (fun j => nI (th j)))), (t2, .inl (cI, 8, .inl (fun j => nI (wi j)))), (t3, .inl (cI, 8, .inl (fun j => nI (wo j)))), (t4, .inl (cI, 8, .inl (fun j => nI (wn j)))), (a3, .inl (cI, ((side + 1) * (side + 1)), .inl (fun j => nI (F3 j)))), (a4, .inl (cI, ((side + 1) * (side + 1)), .inl (fun j => nI (F4 j)))), (r3, .inl (cJ, (side + 1), .inr (.inl (fun j => lI (RC j))))), (r4, .inl (cI, side, .inl (fun j => iI (SC j))))]) (wr := [(hp, .inr (4, [.ref p1, .ref p2, .ref p3, .int (nI pt), .int (nI psl), .int (nI pc_), .int (iI pv), .int (nI pce)])), (p1, .inl (cI, pn, .inl (fun j => nI (g1 j)))), (p2, .inl (cI, pn, .inl (fun j => nI (g2 j)))), (p3, .inl (cI, pn, .inl (fun j => nI (g3 j))))]) [0, 1, 2, 3, 4, 5, 6, 7, 8, 9, 10, 11] [12, 13, 14, 15] (va_runV (As := [.int (nI row), .int (nI thick)]) (rest := []) ⟨hx, hb, hml, hown, hts⟩ (c_planSlab l D cI cJ cZ s.heap.size hb_ bo hz side kf tn r1 r2 r3 r4 h0 a1 a2 a3 a4 sm t1 t2 t3 t4 cn th wi wo wn F3 F4 fb fl RC SC row thick s1 s2 k4 tn1 n8 ht hw hw1 ho hn m3 m4 hfb hfl (by omega) (by omega) hR0) ⟨callB_of 2 hts (gd kc_Be_planSlab) rfl rfl rfl (hts _ (List.mem_cons_of_mem _ k_6)) (hts _ (List.mem_cons_of_mem _ k_224)) (by decide +kernel) ⟨Nat.le_of_ble_eq_true rfl, Nat.le_of_ble_eq_true rfl⟩, hts _ (List.mem_cons_of_mem _ k_226), hts _ (List.mem_cons_of_mem _ ks_2)⟩ ⟨kB_blind, va_recv hK hP (ci := 1) (q0 := 0) rfl rfl, kB_at hP hD hK hZ [0, 1, 2, 3, 4, 5, 6, 7, 8, 9, 10, 11] rfl (by decide) rfl⟩ rfl rfl hl.1 rfl (lv_room (Nat.le_of_ble_eq_true rfl)) d_Be_layOutSlab_3 ⟨Nat.zero_le _, Nat.zero_le _⟩) hP hD hS hA rfl rfl (by decide) (by decide) (fun r_3 u H locs hw_3 hP hD hS => ?_)
  have hP : va_P D vwCl [(hp, .inr (4, [.ref p1, .ref p2, .ref p3, .int (nI pt), .int (nI psl), .int (nI pc_), .int (iI pv), .int (nI pce)])), (p1, .inl (cI, pn, .inl (fun j => nI (g1 j)))), (p2, .inl (cI, pn, .inl (fun j => nI (g2 j)))), (p3, .inl (cI, pn, .inl (fun j => nI (g3 j)))), (hb_, .inr (1, [.ref bo, .ref hz, .int (nI side), .int (nI kf), .int (nI tn), .ref r1, .ref r2, .ref r3, .ref r4])), (bo, .inr (2, [.ref hz, .ref h0])), (h0, .inr (3, [.int (nI side), .ref a1, .ref a2, .ref a3, .ref a4, .int (pI sm)])), (hz, .inr (5, [.ref t1, .ref t2, .ref t3, .ref t4, .int (nI cn)])), (t1, .inl (cI, 8, .inl (fun j => nI (th j)))), (t2, .inl (cI, 8, .inl (fun j => nI (wi j)))), (t3, .inl (cI, 8, .inl (fun j => nI (wo j)))), (t4, .inl (cI, 8, .inl (fun j => nI (wn j)))), (a3, .inl (cI, ((side + 1) * (side + 1)), .inl (fun j => nI (F3 j)))), (a4, .inl (cI, ((side + 1) * (side + 1)), .inl (fun j => nI (F4 j)))), (r3, .inl (cJ, (side + 1), .inr (.inl (fun j => lI (u.1 j))))), (r4, .inl (cI, side, .inl (fun j => iI (u.2 j))))] H := hP
  have hD : va_D A [(hp, .inr (4, [.ref p1, .ref p2, .ref p3, .int (nI pt), .int (nI psl), .int (nI pc_), .int (iI pv), .int (nI pce)])), (p1, .inl (cI, pn, .inl (fun j => nI (g1 j)))), (p2, .inl (cI, pn, .inl (fun j => nI (g2 j)))), (p3, .inl (cI, pn, .inl (fun j => nI (g3 j)))), (hb_, .inr (1, [.ref bo, .ref hz, .int (nI side), .int (nI kf), .int (nI tn), .ref r1, .ref r2, .ref r3, .ref r4])), (bo, .inr (2, [.ref hz, .ref h0])), (h0, .inr (3, [.int (nI side), .ref a1, .ref a2, .ref a3, .ref a4, .int (pI sm)])), (hz, .inr (5, [.ref t1, .ref t2, .ref t3, .ref t4, .int (nI cn)])), (t1, .inl (cI, 8, .inl (fun j => nI (th j)))), (t2, .inl (cI, 8, .inl (fun j => nI (wi j)))), (t3, .inl (cI, 8, .inl (fun j => nI (wo j)))), (t4, .inl (cI, 8, .inl (fun j => nI (wn j)))), (a3, .inl (cI, ((side + 1) * (side + 1)), .inl (fun j => nI (F3 j)))), (a4, .inl (cI, ((side + 1) * (side + 1)), .inl (fun j => nI (F4 j)))), (r3, .inl (cJ, (side + 1), .inr (.inl (fun j => lI (u.1 j))))), (r4, .inl (cI, side, .inl (fun j => iI (u.2 j))))] := hD
  obtain ⟨hr_, hu1, hu2⟩ := hw_3
  subst hr_
  have hC : u.1 side = 0 := by
    rw [hu1 side (Nat.le_refl _)]
    have h9 := slabT_bd (kf := kf) (thick := thick) (th := th) (wi := wi) (ok := (okC side fb th wi wn tn row)) (va := (vaC side fl th wi wo tn row)) (cn := cn) (RC := fun _ => 0) (SC := fun _ => 0) (side := side) rfl hw1 (fun c_ i hi => vaC_bd (ho i (by omega))) side (Nat.le_refl _) side (by omega) (Nat.le_refl _)
    unfold slab0
    omega
  have hSC : ∀ j, j < side → -1 ≤ u.2 j ∧ u.2 j < (cn : Int) := fun j hj => by
    rw [hu2 j hj]
    exact slabT_sc (kf := kf) (thick := thick) (th := th) (wi := wi) (ok := (okC side fb th wi wn tn row)) (va := (vaC side fl th wi wo tn row)) (cn := cn) (RC := fun _ => 0) (SC := fun _ => 0) (side := side) rfl hw1 (fun c_ i hi => vaC_bd (ho i (by omega))) side (Nat.le_refl _) j (by omega) hj
  refine lv_pop2_2 hx hb d_Be_layOutSlab_6 rfl ?_
  refine lv_iconst (v := nI 0) hx hb d_Be_layOutSlab_7 (by decide +kernel) ?_
  refine lv_istore (lv' := [(4, .int (nI 0)), (0, .ref hb_), (1, .ref hp), (2, .int (nI row)), (3, .int (nI thick))]) hx hb d_Be_layOutSlab_8 hl (by decide) rfl (fun ls hl => ?_)
  refine lv_iconst (v := nI 0) hx hb d_Be_layOutSlab_10 (by decide +kernel) ?_
  refine lv_istore (lv' := [(5, .int (nI 0)), (4, .int (nI 0)), (0, .ref hb_), (1, .ref hp), (2, .int (nI row)), (3, .int (nI thick))]) hx hb d_Be_layOutSlab_11 hl (by decide) rfl (fun ls hl => ?_)
  have lp : ∀ (n : Nat) (k : Nat) (fr : Nat) (ct : Nat) (f1 : Nat → Nat) (f2 : Nat → Nat) (f3 : Nat → Nat) (v : Int) (ce : Nat), (k + n = side) → ((slabLay kf cn tn row th wi (vaC side fl th wi wo tn row) u.2 (pc_, g1, g2, g3, pv, pce) k) = (fr, ct, f1, f2, f3, v, ce)) → (fr ≤ 44) → (ct ≤ row * side + k) → ∀ (H : Heap) (locs : List Loc), va_P D vwCl [(hp, .inr (4, [.ref p1, .ref p2, .ref p3, .int (nI pt), .int (nI psl), .int (nI ct), .int (iI v), .int (nI ce)])), (p1, .inl (cI, pn, .inl (fun j => nI (f1 j)))), (p2, .inl (cI, pn, .inl (fun j => nI (f2 j)))), (p3, .inl (cI, pn, .inl (fun j => nI (f3 j)))), (hb_, .inr (1, [.ref bo, .ref hz, .int (nI side), .int (nI kf), .int (nI tn), .ref r1, .ref r2, .ref r3, .ref r4])), (bo, .inr (2, [.ref hz, .ref h0])), (h0, .inr (3, [.int (nI side), .ref a1, .ref a2, .ref a3, .ref a4, .int (pI sm)])), (hz, .inr (5, [.ref t1, .ref t2, .ref t3, .ref t4, .int (nI cn)])), (t1, .inl (cI, 8, .inl (fun j => nI (th j)))), (t2, .inl (cI, 8, .inl (fun j => nI (wi j)))), (t3, .inl (cI, 8, .inl (fun j => nI (wo j)))), (t4, .inl (cI, 8, .inl (fun j => nI (wn j)))), (a3, .inl (cI, ((side + 1) * (side + 1)), .inl (fun j => nI (F3 j)))), (a4, .inl (cI, ((side + 1) * (side + 1)), .inl (fun j => nI (F4 j)))), (r3, .inl (cJ, (side + 1), .inr (.inl (fun j => lI (u.1 j))))), (r4, .inl (cI, side, .inl (fun j => iI (u.2 j))))] H → va_D A [(hp, .inr (4, [.ref p1, .ref p2, .ref p3, .int (nI pt), .int (nI psl), .int (nI ct), .int (iI v), .int (nI ce)])), (p1, .inl (cI, pn, .inl (fun j => nI (f1 j)))), (p2, .inl (cI, pn, .inl (fun j => nI (f2 j)))), (p3, .inl (cI, pn, .inl (fun j => nI (f3 j)))), (hb_, .inr (1, [.ref bo, .ref hz, .int (nI side), .int (nI kf), .int (nI tn), .ref r1, .ref r2, .ref r3, .ref r4])), (bo, .inr (2, [.ref hz, .ref h0])), (h0, .inr (3, [.int (nI side), .ref a1, .ref a2, .ref a3, .ref a4, .int (pI sm)])), (hz, .inr (5, [.ref t1, .ref t2, .ref t3, .ref t4, .int (nI cn)])), (t1, .inl (cI, 8, .inl (fun j => nI (th j)))), (t2, .inl (cI, 8, .inl (fun j => nI (wi j)))), (t3, .inl (cI, 8, .inl (fun j => nI (wo j)))), (t4, .inl (cI, 8, .inl (fun j => nI (wn j)))), (a3, .inl (cI, ((side + 1) * (side + 1)), .inl (fun j => nI (F3 j)))), (a4, .inl (cI, ((side + 1) * (side + 1)), .inl (fun j => nI (F4 j)))), (r3, .inl (cJ, (side + 1), .inr (.inl (fun j => lI (u.1 j))))), (r4, .inl (cI, side, .inl (fun j => iI (u.2 j))))] → va_S A s.heap H locs → ∀ ls : Array Slot, lv_has ls 7 [(5, .int (nI k)), (4, .int (nI fr)), (0, .ref hb_), (1, .ref hp), (2, .int (nI row)), (3, .int (nI thick))] → W p l e (headSpec w_Be_layOutSlab ({ frames := 4, cells := 0, slots := 0, locals := 104 })).room s m ([.ref hb_, .ref hp, .int (nI row), .int (nI thick)]).toArray below meth c H locs 0 0 (MQ below (va_Qv (fun (u : (Nat → Int) × (Nat → Int)) => u.1 side = 0) (fun (u : (Nat → Int) × (Nat → Int)) t => kE D vwCl A [(hb_, .inr (1, [.ref bo, .ref hz, .int (nI side), .int (nI kf), .int (nI tn), .ref r1, .ref r2, .ref r3, .ref r4])), (bo, .inr (2, [.ref hz, .ref h0])), (h0, .inr (3, [.int (nI side), .ref a1, .ref a2, .ref a3, .ref a4, .int (pI sm)])), (hz, .inr (5, [.ref t1, .ref t2, .ref t3, .ref t4, .int (nI cn)])), (t1, .inl (cI, 8, .inl (fun j => nI (th j)))), (t2, .inl (cI, 8, .inl (fun j => nI (wi j)))), (t3, .inl (cI, 8, .inl (fun j => nI (wo j)))), (t4, .inl (cI, 8, .inl (fun j => nI (wn j)))), (a3, .inl (cI, ((side + 1) * (side + 1)), .inl (fun j => nI (F3 j)))), (a4, .inl (cI, ((side + 1) * (side + 1)), .inl (fun j => nI (F4 j)))), (r3, .inl (cJ, (side + 1), .inr (.inl (fun j => lI (u.1 j))))), (r4, .inl (cI, side, .inl (fun j => iI (u.2 j)))), (hp, .inr (4, [.ref p1, .ref p2, .ref p3, .int (nI pt), .int (nI psl), .int (nI ((slabLay kf cn tn row th wi (vaC side fl th wi wo tn row) (slab0 side kf thick th wi (okC side fb th wi wn tn row) (vaC side fl th wi wo tn row) cn).2 (pc_, g1, g2, g3, pv, pce) side).2.1)), .int (iI ((slabLay kf cn tn row th wi (vaC side fl th wi wo tn row) (slab0 side kf thick th wi (okC side fb th wi wn tn row) (vaC side fl th wi wo tn row) cn).2 (pc_, g1, g2, g3, pv, pce) side).2.2.2.2.2.1)), .int (nI ((slabLay kf cn tn row th wi (vaC side fl th wi wo tn row) (slab0 side kf thick th wi (okC side fb th wi wn tn row) (vaC side fl th wi wo tn row) cn).2 (pc_, g1, g2, g3, pv, pce) side).2.2.2.2.2.2))])), (p1, .inl (cI, pn, .inl (fun j => nI (((slabLay kf cn tn row th wi (vaC side fl th wi wo tn row) (slab0 side kf thick th wi (okC side fb th wi wn tn row) (vaC side fl th wi wo tn row) cn).2 (pc_, g1, g2, g3, pv, pce) side).2.2.1) j)))), (p2, .inl (cI, pn, .inl (fun j => nI (((slabLay kf cn tn row th wi (vaC side fl th wi wo tn row) (slab0 side kf thick th wi (okC side fb th wi wn tn row) (vaC side fl th wi wo tn row) cn).2 (pc_, g1, g2, g3, pv, pce) side).2.2.2.1) j)))), (p3, .inl (cI, pn, .inl (fun j => nI (((slabLay kf cn tn row th wi (vaC side fl th wi wo tn row) (slab0 side kf thick th wi (okC side fb th wi wn tn row) (vaC side fl th wi wo tn row) cn).2 (pc_, g1, g2, g3, pv, pce) side).2.2.2.2.1) j))))] t) A) ([.ref hb_, .ref hp, .int (nI row), .int (nI thick)]).toArray s 0 0 A) (F0 m 13 ls []) := by
    intro n
    induction n with
    | zero =>
      intro k fr ct f1 f2 f3 v ce hi ee hfr hk H locs hP hD hS ls hl
      refine lv_iload hx hb d_Be_layOutSlab_13 (lv_at hl 0 rfl) ?_
      refine lv_aload_n hx hb d_Be_layOutSlab_15 rfl (lv_at hl 2 rfl) ?_
      refine va_get (D := D) (ci := 1) (v := .int (nI side)) (C := R_Be) (T := T_Be) (N := 9) hx hb hts (fun w h => List.mem_cons_of_mem _ (iw_Be w h)) hown hK hP 4 rfl rfl 2 (by decide) (hts _ (List.mem_cons_of_mem _ k_109)) (fun _ h9 => h9) rfl d_Be_layOutSlab_16 ?_
      refine kb_cge (tgt := 97) (nI_t (by omega)) (nI_t (by omega)) hx hb d_Be_layOutSlab_19 (by decide) (fun c_19 => ?_) (fun c_19 => ?_)
      · have ek : side = k := by omega
        subst ek
        rw [slabLay_congr side (fun j hj => hu2 j hj)] at ee
        have E1 : (slabLay kf cn tn row th wi (vaC side fl th wi wo tn row) (slab0 side kf thick th wi (okC side fb th wi wn tn row) (vaC side fl th wi wo tn row) cn).2 (pc_, g1, g2, g3, pv, pce) side) = (fr, ct, f1, f2, f3, v, ce) := ee
        have k1 : ct = (slabLay kf cn tn row th wi (vaC side fl th wi wo tn row) (slab0 side kf thick th wi (okC side fb th wi wn tn row) (vaC side fl th wi wo tn row) cn).2 (pc_, g1, g2, g3, pv, pce) side).2.1 := by rw [E1]
        have k2 : f1 = (slabLay kf cn tn row th wi (vaC side fl th wi wo tn row) (slab0 side kf thick th wi (okC side fb th wi wn tn row) (vaC side fl th wi wo tn row) cn).2 (pc_, g1, g2, g3, pv, pce) side).2.2.1 := by rw [E1]
        have k3 : f2 = (slabLay kf cn tn row th wi (vaC side fl th wi wo tn row) (slab0 side kf thick th wi (okC side fb th wi wn tn row) (vaC side fl th wi wo tn row) cn).2 (pc_, g1, g2, g3, pv, pce) side).2.2.2.1 := by rw [E1]
        have k4 : f3 = (slabLay kf cn tn row th wi (vaC side fl th wi wo tn row) (slab0 side kf thick th wi (okC side fb th wi wn tn row) (vaC side fl th wi wo tn row) cn).2 (pc_, g1, g2, g3, pv, pce) side).2.2.2.2.1 := by rw [E1]
        have k5 : v = (slabLay kf cn tn row th wi (vaC side fl th wi wo tn row) (slab0 side kf thick th wi (okC side fb th wi wn tn row) (vaC side fl th wi wo tn row) cn).2 (pc_, g1, g2, g3, pv, pce) side).2.2.2.2.2.1 := by rw [E1]
        have k6 : ce = (slabLay kf cn tn row th wi (vaC side fl th wi wo tn row) (slab0 side kf thick th wi (okC side fb th wi wn tn row) (vaC side fl th wi wo tn row) cn).2 (pc_, g1, g2, g3, pv, pce) side).2.2.2.2.2.2 := by rw [E1]
        clear E1 ee
        subst k1; subst k2; subst k3; subst k4; subst k5; subst k6
        have hP := hP.sub (ws' := [(hb_, .inr (1, [.ref bo, .ref hz, .int (nI side), .int (nI kf), .int (nI tn), .ref r1, .ref r2, .ref r3, .ref r4])), (bo, .inr (2, [.ref hz, .ref h0])), (h0, .inr (3, [.int (nI side), .ref a1, .ref a2, .ref a3, .ref a4, .int (pI sm)])), (hz, .inr (5, [.ref t1, .ref t2, .ref t3, .ref t4, .int (nI cn)])), (t1, .inl (cI, 8, .inl (fun j => nI (th j)))), (t2, .inl (cI, 8, .inl (fun j => nI (wi j)))), (t3, .inl (cI, 8, .inl (fun j => nI (wo j)))), (t4, .inl (cI, 8, .inl (fun j => nI (wn j)))), (a3, .inl (cI, ((side + 1) * (side + 1)), .inl (fun j => nI (F3 j)))), (a4, .inl (cI, ((side + 1) * (side + 1)), .inl (fun j => nI (F4 j)))), (r3, .inl (cJ, (side + 1), .inr (.inl (fun j => lI (u.1 j))))), (r4, .inl (cI, side, .inl (fun j => iI (u.2 j)))), (hp, .inr (4, [.ref p1, .ref p2, .ref p3, .int (nI pt), .int (nI psl), .int (nI ((slabLay kf cn tn row th wi (vaC side fl th wi wo tn row) (slab0 side kf thick th wi (okC side fb th wi wn tn row) (vaC side fl th wi wo tn row) cn).2 (pc_, g1, g2, g3, pv, pce) side).2.1)), .int (iI ((slabLay kf cn tn row th wi (vaC side fl th wi wo tn row) (slab0 side kf thick th wi (okC side fb th wi wn tn row) (vaC side fl th wi wo tn row) cn).2 (pc_, g1, g2, g3, pv, pce) side).2.2.2.2.2.1)), .int (nI ((slabLay kf cn tn row th wi (vaC side fl th wi wo tn row) (slab0 side kf thick th wi (okC side fb th wi wn tn row) (vaC side fl th wi wo tn row) cn).2 (pc_, g1, g2, g3, pv, pce) side).2.2.2.2.2.2))])), (p1, .inl (cI, pn, .inl (fun j => nI (((slabLay kf cn tn row th wi (vaC side fl th wi wo tn row) (slab0 side kf thick th wi (okC side fb th wi wn tn row) (vaC side fl th wi wo tn row) cn).2 (pc_, g1, g2, g3, pv, pce) side).2.2.1) j)))), (p2, .inl (cI, pn, .inl (fun j => nI (((slabLay kf cn tn row th wi (vaC side fl th wi wo tn row) (slab0 side kf thick th wi (okC side fb th wi wn tn row) (vaC side fl th wi wo tn row) cn).2 (pc_, g1, g2, g3, pv, pce) side).2.2.2.1) j)))), (p3, .inl (cI, pn, .inl (fun j => nI (((slabLay kf cn tn row th wi (vaC side fl th wi wo tn row) (slab0 side kf thick th wi (okC side fb th wi wn tn row) (vaC side fl th wi wo tn row) cn).2 (pc_, g1, g2, g3, pv, pce) side).2.2.2.2.1) j))))]) [4, 5, 6, 7, 8, 9, 10, 11, 12, 13, 14, 15, 0, 1, 2, 3] rfl
        have hD := hD.sub (ws' := [(hb_, .inr (1, [.ref bo, .ref hz, .int (nI side), .int (nI kf), .int (nI tn), .ref r1, .ref r2, .ref r3, .ref r4])), (bo, .inr (2, [.ref hz, .ref h0])), (h0, .inr (3, [.int (nI side), .ref a1, .ref a2, .ref a3, .ref a4, .int (pI sm)])), (hz, .inr (5, [.ref t1, .ref t2, .ref t3, .ref t4, .int (nI cn)])), (t1, .inl (cI, 8, .inl (fun j => nI (th j)))), (t2, .inl (cI, 8, .inl (fun j => nI (wi j)))), (t3, .inl (cI, 8, .inl (fun j => nI (wo j)))), (t4, .inl (cI, 8, .inl (fun j => nI (wn j)))), (a3, .inl (cI, ((side + 1) * (side + 1)), .inl (fun j => nI (F3 j)))), (a4, .inl (cI, ((side + 1) * (side + 1)), .inl (fun j => nI (F4 j)))), (r3, .inl (cJ, (side + 1), .inr (.inl (fun j => lI (u.1 j))))), (r4, .inl (cI, side, .inl (fun j => iI (u.2 j)))), (hp, .inr (4, [.ref p1, .ref p2, .ref p3, .int (nI pt), .int (nI psl), .int (nI ((slabLay kf cn tn row th wi (vaC side fl th wi wo tn row) (slab0 side kf thick th wi (okC side fb th wi wn tn row) (vaC side fl th wi wo tn row) cn).2 (pc_, g1, g2, g3, pv, pce) side).2.1)), .int (iI ((slabLay kf cn tn row th wi (vaC side fl th wi wo tn row) (slab0 side kf thick th wi (okC side fb th wi wn tn row) (vaC side fl th wi wo tn row) cn).2 (pc_, g1, g2, g3, pv, pce) side).2.2.2.2.2.1)), .int (nI ((slabLay kf cn tn row th wi (vaC side fl th wi wo tn row) (slab0 side kf thick th wi (okC side fb th wi wn tn row) (vaC side fl th wi wo tn row) cn).2 (pc_, g1, g2, g3, pv, pce) side).2.2.2.2.2.2))])), (p1, .inl (cI, pn, .inl (fun j => nI (((slabLay kf cn tn row th wi (vaC side fl th wi wo tn row) (slab0 side kf thick th wi (okC side fb th wi wn tn row) (vaC side fl th wi wo tn row) cn).2 (pc_, g1, g2, g3, pv, pce) side).2.2.1) j)))), (p2, .inl (cI, pn, .inl (fun j => nI (((slabLay kf cn tn row th wi (vaC side fl th wi wo tn row) (slab0 side kf thick th wi (okC side fb th wi wn tn row) (vaC side fl th wi wo tn row) cn).2 (pc_, g1, g2, g3, pv, pce) side).2.2.2.1) j)))), (p3, .inl (cI, pn, .inl (fun j => nI (((slabLay kf cn tn row th wi (vaC side fl th wi wo tn row) (slab0 side kf thick th wi (okC side fb th wi wn tn row) (vaC side fl th wi wo tn row) cn).2 (pc_, g1, g2, g3, pv, pce) side).2.2.2.2.1) j))))]) [4, 5, 6, 7, 8, 9, 10, 11, 12, 13, 14, 15, 0, 1, 2, 3] (by decide) rfl
        exact kretv (u := u) hx hb hr hP hD hS hlocks rfl (hC) d_Be_layOutSlab_97
      · exfalso; omega
    | succ n ih =>
      intro k fr ct f1 f2 f3 v ce hi ee hfr hk H locs hP hD hS ls hl
      refine lv_iload hx hb d_Be_layOutSlab_13 (lv_at hl 0 rfl) ?_
      refine lv_aload_n hx hb d_Be_layOutSlab_15 rfl (lv_at hl 2 rfl) ?_
      refine va_get (D := D) (ci := 1) (v := .int (nI side)) (C := R_Be) (T := T_Be) (N := 9) hx hb hts (fun w h => List.mem_cons_of_mem _ (iw_Be w h)) hown hK hP 4 rfl rfl 2 (by decide) (hts _ (List.mem_cons_of_mem _ k_109)) (fun _ h9 => h9) rfl d_Be_layOutSlab_16 ?_
      refine kb_cge (tgt := 97) (nI_t (by omega)) (nI_t (by omega)) hx hb d_Be_layOutSlab_19 (by decide) (fun c_19 => ?_) (fun c_19 => ?_)
      · exfalso; omega
      · have qS := hSC k (by omega)
        have eS : (iI (u.2 k)).toInt = u.2 k := iI_t (by omega) (by omega)
        have es : (slabLay kf cn tn row th wi (vaC side fl th wi wo tn row) u.2 (pc_, g1, g2, g3, pv, pce) (k + 1)) = layStep kf cn tn row th wi (vaC side fl th wi wo tn row) u.2 k (fr, ct, f1, f2, f3, v, ce) := by
          rw [← ee]; rfl
        refine lv_aload_n hx hb d_Be_layOutSlab_22 rfl (lv_at hl 2 rfl) ?_
        refine va_get (D := D) (ci := 1) (v := .ref r4) (C := R_Be) (T := T_Be) (N := 9) hx hb hts (fun w h => List.mem_cons_of_mem _ (iw_Be w h)) hown hK hP 4 rfl rfl 8 (by decide) (hts _ (List.mem_cons_of_mem _ k_115)) (fun _ h9 => h9) rfl d_Be_layOutSlab_23 ?_
        refine lv_iload hx hb d_Be_layOutSlab_26 (lv_at hl 0 rfl) ?_
        refine ka_iald (k := k) (n := side) (f := fun j => iI (u.2 j)) (nI_t (by omega)) (by omega) hx hb hK hP 15 0 rfl rfl d_Be_layOutSlab_28 ?_
        refine lv_istore (lv' := [(6, .int (iI (u.2 k))), (5, .int (nI k)), (4, .int (nI fr)), (0, .ref hb_), (1, .ref hp), (2, .int (nI row)), (3, .int (nI thick))]) hx hb d_Be_layOutSlab_29 hl (by decide) rfl (fun ls hl => ?_)
        refine lv_iload hx hb d_Be_layOutSlab_31 (lv_at hl 1 rfl) ?_
        refine lv_iload hx hb d_Be_layOutSlab_33 (lv_at hl 2 rfl) ?_
        refine kb_clt (tgt := 91) (nI_t (by omega)) (nI_t (by omega)) hx hb d_Be_layOutSlab_35 (by decide) (fun cl => ?_) (fun cl => ?_)
        · refine lv_iinc (v := nI (k + 1)) (lv' := [(5, .int (nI (k + 1))), (6, .int (iI (u.2 k))), (4, .int (nI fr)), (0, .ref hb_), (1, .ref hp), (2, .int (nI row)), (3, .int (nI thick))]) hx hb d_Be_layOutSlab_91 hl (k := 1) rfl (nI_add _ 1) (by decide) rfl (fun ls hl => ?_)
          refine lv_goto (tgt := 13) hx hb d_Be_layOutSlab_94 (by decide) ?_
          exact ih (k + 1) fr ct f1 f2 f3 v ce (by omega) (by rw [es]; unfold layStep; rw [if_neg (fun h => by have h9 : fr ≤ k := h.1; omega)]) (by omega) (by omega) _ _ hP hD hS ls (lv_sub hl [0, 2, 3, 4, 5, 6] rfl)
        · refine lv_aload_n hx hb d_Be_layOutSlab_38 rfl (lv_at hl 3 rfl) ?_
          refine va_get (D := D) (ci := 1) (v := .ref hz) (C := R_Be) (T := T_Be) (N := 9) hx hb hts (fun w h => List.mem_cons_of_mem _ (iw_Be w h)) hown hK hP 4 rfl rfl 1 (by decide) (hts _ (List.mem_cons_of_mem _ k_108)) (fun _ h9 => h9) rfl d_Be_layOutSlab_39 ?_
          refine lv_iload hx hb d_Be_layOutSlab_42 (lv_at hl 0 rfl) ?_
          refine kcallR (r := .int (pI (0 ≤ (iI (u.2 k)).toInt ∧ (iI (u.2 k)).toInt < (cn : Int)))) (va_runV (As := [.int (iI (u.2 k))]) (rest := []) ⟨hx, hb, hml, hown, hts⟩ (c_has l D cI cJ cZ hz t1 t2 t3 t4 cn (iI (u.2 k)) (by omega)) ⟨callB_of 1 hts (gd kc_Si_has) rfl rfl rfl (hts _ (List.mem_cons_of_mem _ k_4)) (hts _ (List.mem_cons_of_mem _ k_275)) (by decide +kernel) ⟨Nat.le_of_ble_eq_true rfl, Nat.le_of_ble_eq_true rfl⟩, hts _ (List.mem_cons_of_mem _ k_276), hts _ (List.mem_cons_of_mem _ k_277)⟩ ⟨kR_blind, va_recv hK hP (ci := 5) (q0 := 7) rfl rfl, kR_at hP hK hZ [7] rfl⟩ rfl rfl hl.1 rfl (lv_room (Nat.le_of_ble_eq_true rfl)) d_Be_layOutSlab_44 ⟨Nat.zero_le _, Nat.zero_le _⟩) ?_
          refine kb_eqP (tgt := 91) hx hb d_Be_layOutSlab_47 (by decide) (fun ch => ?_) (fun ch => ?_)
          · refine lv_iinc (v := nI (k + 1)) (lv' := [(5, .int (nI (k + 1))), (6, .int (iI (u.2 k))), (4, .int (nI fr)), (0, .ref hb_), (1, .ref hp), (2, .int (nI row)), (3, .int (nI thick))]) hx hb d_Be_layOutSlab_91 hl (k := 1) rfl (nI_add _ 1) (by decide) rfl (fun ls hl => ?_)
            refine lv_goto (tgt := 13) hx hb d_Be_layOutSlab_94 (by decide) ?_
            exact ih (k + 1) fr ct f1 f2 f3 v ce (by omega) (by rw [es]; unfold layStep; rw [if_neg (fun h => ch (by have h9 := h.2; omega))]) (by omega) (by omega) _ _ hP hD hS ls (lv_sub hl [0, 2, 3, 4, 5, 6] rfl)
          · rw [eS] at ch
            have q3 := hw1 (u.2 k).toNat (by omega)
            have q4 := hw (u.2 k).toNat (by omega)
            have hrX := pX_le (tn := tn) (row := row) (col := k) (n := 20) (by omega) (by omega)
            have hrY := pY_le (tn := tn) (row := row) (col := k) (n := 20) (by omega) (by omega)
            refine lv_aload_n hx hb d_Be_layOutSlab_50 rfl (lv_at hl 3 rfl) ?_
            refine lv_aload_n hx hb d_Be_layOutSlab_51 rfl (lv_at hl 4 rfl) ?_
            refine lv_iload hx hb d_Be_layOutSlab_52 (lv_at hl 0 rfl) ?_
            refine ka_i (y := nI ((u.2 k).toNat)) (iI_eqn (by omega)) ?_
            refine lv_aload_n hx hb d_Be_layOutSlab_54 rfl (lv_at hl 3 rfl) ?_
            refine lv_iload_n hx hb d_Be_layOutSlab_55 rfl (lv_at hl 5 rfl) ?_
            refine lv_iload hx hb d_Be_layOutSlab_56 (lv_at hl 1 rfl) ?_
            refine kcallR (r := .int (nI (if tn = 0 then k else row))) (va_runV (As := [.int (nI row), .int (nI k)]) (rest := [.int (nI ((u.2 k).toNat)), .ref hp, .ref hb_]) ⟨hx, hb, hml, hown, hts⟩ (c_xAt l D cI cJ cZ hb_ bo hz side kf tn r1 r2 r3 r4 row k (by omega)) ⟨callB_of 2 hts (gd kc_Be_xAt) rfl rfl rfl (hts _ (List.mem_cons_of_mem _ k_6)) (hts _ (List.mem_cons_of_mem _ k_232)) (by decide +kernel) ⟨Nat.le_of_ble_eq_true rfl, Nat.le_of_ble_eq_true rfl⟩, hts _ (List.mem_cons_of_mem _ k_234), hts _ (List.mem_cons_of_mem _ ks_4)⟩ ⟨kR_blind, va_recv hK hP (ci := 1) (q0 := 4) rfl rfl, kR_at hP hK hZ [4] rfl⟩ rfl rfl hl.1 rfl (lv_room (Nat.le_of_ble_eq_true rfl)) d_Be_layOutSlab_58 ⟨Nat.zero_le _, Nat.zero_le _⟩) ?_
            refine ka_i (y := nI (pX tn row k)) (rfl) ?_
            refine lv_aload_n hx hb d_Be_layOutSlab_61 rfl (lv_at hl 3 rfl) ?_
            refine lv_iload_n hx hb d_Be_layOutSlab_62 rfl (lv_at hl 5 rfl) ?_
            refine lv_iload hx hb d_Be_layOutSlab_63 (lv_at hl 1 rfl) ?_
            refine kcallR (r := .int (nI (if tn = 0 then row else k))) (va_runV (As := [.int (nI row), .int (nI k)]) (rest := [.int (nI (pX tn row k)), .int (nI ((u.2 k).toNat)), .ref hp, .ref hb_]) ⟨hx, hb, hml, hown, hts⟩ (c_yAt l D cI cJ cZ hb_ bo hz side kf tn r1 r2 r3 r4 row k (by omega)) ⟨callB_of 2 hts (gd kc_Be_yAt) rfl rfl rfl (hts _ (List.mem_cons_of_mem _ k_6)) (hts _ (List.mem_cons_of_mem _ k_236)) (by decide +kernel) ⟨Nat.le_of_ble_eq_true rfl, Nat.le_of_ble_eq_true rfl⟩, hts _ (List.mem_cons_of_mem _ k_238), hts _ (List.mem_cons_of_mem _ ks_5)⟩ ⟨kR_blind, va_recv hK hP (ci := 1) (q0 := 4) rfl rfl, kR_at hP hK hZ [4] rfl⟩ rfl rfl hl.1 rfl (lv_room (Nat.le_of_ble_eq_true rfl)) d_Be_layOutSlab_65 ⟨Nat.zero_le _, Nat.zero_le _⟩) ?_
            refine ka_i (y := nI (pY tn row k)) (rfl) ?_
            refine kcallv (wc := [(hb_, .inr (1, [.ref bo, .ref hz, .int (nI side), .int (nI kf), .int (nI tn), .ref r1, .ref r2, .ref r3, .ref r4])), (bo, .inr (2, [.ref hz, .ref h0])), (h0, .inr (3, [.int (nI side), .ref a1, .ref a2, .ref a3, .ref a4, .int (pI sm)])), (hz, .inr (5, [.ref t1, .ref t2, .ref t3, .ref t4, .int (nI cn)])), (t1, .inl (cI, 8, .inl (fun j => nI (th j)))), (t2, .inl (cI, 8, .inl (fun j => nI (wi j)))), (t3, .inl (cI, 8, .inl (fun j => nI (wo j)))), (a4, .inl (cI, ((side + 1) * (side + 1)), .inl (fun j => nI (F4 j)))), (hp, .inr (4, [.ref p1, .ref p2, .ref p3, .int (nI pt), .int (nI psl), .int (nI ct), .int (iI v), .int (nI ce)])), (p1, .inl (cI, pn, .inl (fun j => nI (f1 j)))), (p2, .inl (cI, pn, .inl (fun j => nI (f2 j)))), (p3, .inl (cI, pn, .inl (fun j => nI (f3 j))))]) (wr := [(t4, .inl (cI, 8, .inl (fun j => nI (wn j)))), (a3, .inl (cI, ((side + 1) * (side + 1)), .inl (fun j => nI (F3 j)))), (r3, .inl (cJ, (side + 1), .inr (.inl (fun j => lI (u.1 j))))), (r4, .inl (cI, side, .inl (fun j => iI (u.2 j))))]) [4, 5, 6, 7, 8, 9, 10, 13, 0, 1, 2, 3] [11, 12, 14, 15] (va_runV (As := [.ref hp, .int (nI ((u.2 k).toNat)), .int (nI (pX tn row k)), .int (nI (pY tn row k))]) (rest := []) ⟨hx, hb, hml, hown, hts⟩ (c_layBoard l D cI cJ cZ H.size hb_ bo hz side kf tn r1 r2 r3 r4 h0 a1 a2 a3 a4 sm t1 t2 t3 t4 cn th wi wo F4 fl hp p1 p2 p3 pt psl ct v ce pn f1 f2 f3 ((u.2 k).toNat) (pX tn row k) (pY tn row k) (by omega) (by omega) (by omega) (by omega) (by omega) ht hw ho m4 hfl (by omega) (by omega)) ⟨callB_of 4 hts (gd kc_Be_layOutBoard) rfl rfl rfl (hts _ (List.mem_cons_of_mem _ k_6)) (hts _ (List.mem_cons_of_mem _ k_282)) (by decide +kernel) ⟨Nat.le_of_ble_eq_true rfl, Nat.le_of_ble_eq_true rfl⟩, hts _ (List.mem_cons_of_mem _ k_284), hts _ (List.mem_cons_of_mem _ ks_7)⟩ ⟨kB_blind, va_recv hK hP (ci := 1) (q0 := 4) rfl rfl, kB_at hP hD hK hZ [4, 5, 6, 7, 8, 9, 10, 13, 0, 1, 2, 3] rfl (by decide) rfl⟩ rfl rfl hl.1 rfl (lv_room (Nat.le_of_ble_eq_true rfl)) d_Be_layOutSlab_68 ⟨Nat.zero_le _, Nat.zero_le _⟩) hP hD hS hA rfl rfl (by decide) (by decide) (fun _ H locs hw_68 hP hD hS => ?_)
            have hP : va_P D vwCl [(t4, .inl (cI, 8, .inl (fun j => nI (wn j)))), (a3, .inl (cI, ((side + 1) * (side + 1)), .inl (fun j => nI (F3 j)))), (r3, .inl (cJ, (side + 1), .inr (.inl (fun j => lI (u.1 j))))), (r4, .inl (cI, side, .inl (fun j => iI (u.2 j)))), (hb_, .inr (1, [.ref bo, .ref hz, .int (nI side), .int (nI kf), .int (nI tn), .ref r1, .ref r2, .ref r3, .ref r4])), (bo, .inr (2, [.ref hz, .ref h0])), (h0, .inr (3, [.int (nI side), .ref a1, .ref a2, .ref a3, .ref a4, .int (pI sm)])), (hz, .inr (5, [.ref t1, .ref t2, .ref t3, .ref t4, .int (nI cn)])), (t1, .inl (cI, 8, .inl (fun j => nI (th j)))), (t2, .inl (cI, 8, .inl (fun j => nI (wi j)))), (t3, .inl (cI, 8, .inl (fun j => nI (wo j)))), (a4, .inl (cI, ((side + 1) * (side + 1)), .inl (fun j => nI (F4 j)))), (hp, .inr (4, [.ref p1, .ref p2, .ref p3, .int (nI pt), .int (nI psl), .int (nI (ct + 1)), .int (iI (v + (max 0 ((wo ((u.2 k).toNat) : Int) - sumZ fl side (((pX tn row k) : Nat) : Int) (((pY tn row k) : Nat) : Int) (if ((tn : Nat) : Int) = 0 then wi ((u.2 k).toNat) else th ((u.2 k).toNat)) (if ((tn : Nat) : Int) = 0 then th ((u.2 k).toNat) else wi ((u.2 k).toNat)))))), .int (nI (ce + th ((u.2 k).toNat) * wi ((u.2 k).toNat)))])), (p1, .inl (cI, pn, .inl (fun j => nI ((va_up f1 ct ((u.2 k).toNat)) j)))), (p2, .inl (cI, pn, .inl (fun j => nI ((va_up f2 ct (pX tn row k)) j)))), (p3, .inl (cI, pn, .inl (fun j => nI ((va_up f3 ct (pY tn row k)) j))))] H := hP
            have hD : va_D A [(t4, .inl (cI, 8, .inl (fun j => nI (wn j)))), (a3, .inl (cI, ((side + 1) * (side + 1)), .inl (fun j => nI (F3 j)))), (r3, .inl (cJ, (side + 1), .inr (.inl (fun j => lI (u.1 j))))), (r4, .inl (cI, side, .inl (fun j => iI (u.2 j)))), (hb_, .inr (1, [.ref bo, .ref hz, .int (nI side), .int (nI kf), .int (nI tn), .ref r1, .ref r2, .ref r3, .ref r4])), (bo, .inr (2, [.ref hz, .ref h0])), (h0, .inr (3, [.int (nI side), .ref a1, .ref a2, .ref a3, .ref a4, .int (pI sm)])), (hz, .inr (5, [.ref t1, .ref t2, .ref t3, .ref t4, .int (nI cn)])), (t1, .inl (cI, 8, .inl (fun j => nI (th j)))), (t2, .inl (cI, 8, .inl (fun j => nI (wi j)))), (t3, .inl (cI, 8, .inl (fun j => nI (wo j)))), (a4, .inl (cI, ((side + 1) * (side + 1)), .inl (fun j => nI (F4 j)))), (hp, .inr (4, [.ref p1, .ref p2, .ref p3, .int (nI pt), .int (nI psl), .int (nI (ct + 1)), .int (iI (v + (max 0 ((wo ((u.2 k).toNat) : Int) - sumZ fl side (((pX tn row k) : Nat) : Int) (((pY tn row k) : Nat) : Int) (if ((tn : Nat) : Int) = 0 then wi ((u.2 k).toNat) else th ((u.2 k).toNat)) (if ((tn : Nat) : Int) = 0 then th ((u.2 k).toNat) else wi ((u.2 k).toNat)))))), .int (nI (ce + th ((u.2 k).toNat) * wi ((u.2 k).toNat)))])), (p1, .inl (cI, pn, .inl (fun j => nI ((va_up f1 ct ((u.2 k).toNat)) j)))), (p2, .inl (cI, pn, .inl (fun j => nI ((va_up f2 ct (pX tn row k)) j)))), (p3, .inl (cI, pn, .inl (fun j => nI ((va_up f3 ct (pY tn row k)) j))))] := hD
            refine lv_iload hx hb d_Be_layOutSlab_71 (lv_at hl 1 rfl) ?_
            refine lv_aload_n hx hb d_Be_layOutSlab_73 rfl (lv_at hl 3 rfl) ?_
            refine va_get (D := D) (ci := 1) (v := .ref hz) (C := R_Be) (T := T_Be) (N := 9) hx hb hts (fun w h => List.mem_cons_of_mem _ (iw_Be w h)) hown hK hP 4 rfl rfl 1 (by decide) (hts _ (List.mem_cons_of_mem _ k_108)) (fun _ h9 => h9) rfl d_Be_layOutSlab_74 ?_
            refine va_get (D := D) (ci := 5) (v := .ref t2) (C := R_Si) (T := T_Si) (N := 5) hx hb hts (fun w h => List.mem_cons_of_mem _ (iw_Si w h)) hown hK hP 7 rfl rfl 1 (by decide) (hts _ (List.mem_cons_of_mem _ k_68)) (fun _ h9 => h9) rfl d_Be_layOutSlab_77 ?_
            refine lv_iload hx hb d_Be_layOutSlab_80 (lv_at hl 0 rfl) ?_
            refine ka_i (y := nI ((u.2 k).toNat)) (iI_eqn (by omega)) ?_
            refine ka_iald (k := ((u.2 k).toNat)) (n := 8) (f := fun j => nI (wi j)) (nI_t (by omega)) (by omega) hx hb hK hP 9 0 rfl rfl d_Be_layOutSlab_82 ?_
            refine lv_iadd hx hb d_Be_layOutSlab_83 ?_
            refine ka_i (y := nI (k + (wi ((u.2 k).toNat)))) (nI_add _ _) ?_
            refine lv_aload_n hx hb d_Be_layOutSlab_84 rfl (lv_at hl 3 rfl) ?_
            refine va_get (D := D) (ci := 1) (v := .int (nI kf)) (C := R_Be) (T := T_Be) (N := 9) hx hb hts (fun w h => List.mem_cons_of_mem _ (iw_Be w h)) hown hK hP 4 rfl rfl 3 (by decide) (hts _ (List.mem_cons_of_mem _ k_110)) (fun _ h9 => h9) rfl d_Be_layOutSlab_85 ?_
            refine lv_iadd hx hb d_Be_layOutSlab_88 ?_
            refine ka_i (y := nI ((k + (wi ((u.2 k).toNat))) + kf)) (nI_add _ _) ?_
            refine lv_istore (lv' := [(4, .int (nI ((k + (wi ((u.2 k).toNat))) + kf))), (6, .int (iI (u.2 k))), (5, .int (nI k)), (0, .ref hb_), (1, .ref hp), (2, .int (nI row)), (3, .int (nI thick))]) hx hb d_Be_layOutSlab_89 hl (by decide) rfl (fun ls hl => ?_)
            refine lv_iinc (v := nI (k + 1)) (lv' := [(5, .int (nI (k + 1))), (4, .int (nI ((k + (wi ((u.2 k).toNat))) + kf))), (6, .int (iI (u.2 k))), (0, .ref hb_), (1, .ref hp), (2, .int (nI row)), (3, .int (nI thick))]) hx hb d_Be_layOutSlab_91 hl (k := 2) rfl (nI_add _ 1) (by decide) rfl (fun ls hl => ?_)
            refine lv_goto (tgt := 13) hx hb d_Be_layOutSlab_94 (by decide) ?_
            exact ih (k + 1) (k + wi (u.2 k).toNat + kf) (ct + 1) (va_up f1 ct (u.2 k).toNat) (va_up f2 ct (pX tn row k)) (va_up f3 ct (pY tn row k)) (v + vaC side fl th wi wo tn row k (u.2 k).toNat) (ce + th (u.2 k).toNat * wi (u.2 k).toNat) (by omega) (by rw [es]; unfold layStep; rw [if_pos ⟨by show fr ≤ k; omega, by omega, by omega⟩]; rfl) (by omega) (by omega) _ _ (hP.sub [12, 13, 14, 15, 4, 5, 6, 7, 8, 9, 10, 0, 1, 11, 2, 3] rfl) (hD.sub [12, 13, 14, 15, 4, 5, 6, 7, 8, 9, 10, 0, 1, 11, 2, 3] (by decide) rfl) hS ls (lv_sub hl [0, 1, 3, 4, 5, 6] rfl)
  exact lp side 0 0 pc_ g1 g2 g3 pv pce (by omega) rfl (by omega) (by omega) _ _ hP hD hS ls (lv_sub hl [0, 1, 2, 3, 4, 5] rfl)
end
section
theorem d_Be_layOut_0 : decode b_Be_layOut 0 = .ok (.aload_n 1, 1) := by decide +kernel
theorem d_Be_layOut_1 : decode b_Be_layOut 1 = .ok (.aload_n 0, 1) := by decide +kernel
theorem d_Be_layOut_2 : decode b_Be_layOut 2 = .ok (.getfield 45, 3) := by decide +kernel
theorem d_Be_layOut_5 : decode b_Be_layOut 5 = .ok (.invokevirtual 95, 3) := by decide +kernel
theorem d_Be_layOut_8 : decode b_Be_layOut 8 = .ok (.iconst 0, 1) := by decide +kernel
theorem d_Be_layOut_9 : decode b_Be_layOut 9 = .ok (.istore_n 2, 1) := by decide +kernel
theorem d_Be_layOut_10 : decode b_Be_layOut 10 = .ok (.iconst 0, 1) := by decide +kernel
theorem d_Be_layOut_11 : decode b_Be_layOut 11 = .ok (.istore_n 3, 1) := by decide +kernel
theorem d_Be_layOut_12 : decode b_Be_layOut 12 = .ok (.iload_n 3, 1) := by decide +kernel
theorem d_Be_layOut_13 : decode b_Be_layOut 13 = .ok (.aload_n 0, 1) := by decide +kernel
theorem d_Be_layOut_14 : decode b_Be_layOut 14 = .ok (.getfield 22, 3) := by decide +kernel
theorem d_Be_layOut_17 : decode b_Be_layOut 17 = .ok (.if_icmp .ge 55, 3) := by decide +kernel
theorem d_Be_layOut_20 : decode b_Be_layOut 20 = .ok (.aload_n 0, 1) := by decide +kernel
theorem d_Be_layOut_21 : decode b_Be_layOut 21 = .ok (.getfield 33, 3) := by decide +kernel
theorem d_Be_layOut_24 : decode b_Be_layOut 24 = .ok (.iload_n 3, 1) := by decide +kernel
theorem d_Be_layOut_25 : decode b_Be_layOut 25 = .ok (.iaload, 1) := by decide +kernel
theorem d_Be_layOut_26 : decode b_Be_layOut 26 = .ok (.istore 4, 2) := by decide +kernel
theorem d_Be_layOut_28 : decode b_Be_layOut 28 = .ok (.iload_n 3, 1) := by decide +kernel
theorem d_Be_layOut_29 : decode b_Be_layOut 29 = .ok (.iload_n 2, 1) := by decide +kernel
theorem d_Be_layOut_30 : decode b_Be_layOut 30 = .ok (.if_icmp .lt 36, 3) := by decide +kernel
theorem d_Be_layOut_33 : decode b_Be_layOut 33 = .ok (.iload 4, 2) := by decide +kernel
theorem d_Be_layOut_35 : decode b_Be_layOut 35 = .ok (.ifCond .le 31, 3) := by decide +kernel
theorem d_Be_layOut_38 : decode b_Be_layOut 38 = .ok (.aload_n 1, 1) := by decide +kernel
theorem d_Be_layOut_39 : decode b_Be_layOut 39 = .ok (.dup, 1) := by decide +kernel
theorem d_Be_layOut_40 : decode b_Be_layOut 40 = .ok (.getfield 100, 3) := by decide +kernel
theorem d_Be_layOut_43 : decode b_Be_layOut 43 = .ok (.iconst 1, 1) := by decide +kernel
theorem d_Be_layOut_44 : decode b_Be_layOut 44 = .ok (.iadd, 1) := by decide +kernel
theorem d_Be_layOut_45 : decode b_Be_layOut 45 = .ok (.putfield 100, 3) := by decide +kernel
theorem d_Be_layOut_48 : decode b_Be_layOut 48 = .ok (.aload_n 0, 1) := by decide +kernel
theorem d_Be_layOut_49 : decode b_Be_layOut 49 = .ok (.aload_n 1, 1) := by decide +kernel
theorem d_Be_layOut_50 : decode b_Be_layOut 50 = .ok (.iload_n 3, 1) := by decide +kernel
theorem d_Be_layOut_51 : decode b_Be_layOut 51 = .ok (.iload 4, 2) := by decide +kernel
theorem d_Be_layOut_53 : decode b_Be_layOut 53 = .ok (.invokevirtual 103, 3) := by decide +kernel
theorem d_Be_layOut_56 : decode b_Be_layOut 56 = .ok (.iload_n 3, 1) := by decide +kernel
theorem d_Be_layOut_57 : decode b_Be_layOut 57 = .ok (.iload 4, 2) := by decide +kernel
theorem d_Be_layOut_59 : decode b_Be_layOut 59 = .ok (.iadd, 1) := by decide +kernel
theorem d_Be_layOut_60 : decode b_Be_layOut 60 = .ok (.aload_n 0, 1) := by decide +kernel
theorem d_Be_layOut_61 : decode b_Be_layOut 61 = .ok (.getfield 26, 3) := by decide +kernel
theorem d_Be_layOut_64 : decode b_Be_layOut 64 = .ok (.iadd, 1) := by decide +kernel
theorem d_Be_layOut_65 : decode b_Be_layOut 65 = .ok (.istore_n 2, 1) := by decide +kernel
theorem d_Be_layOut_66 : decode b_Be_layOut 66 = .ok (.iinc 3 1, 3) := by decide +kernel
theorem d_Be_layOut_69 : decode b_Be_layOut 69 = .ok (.goto (-57), 3) := by decide +kernel
theorem d_Be_layOut_72 : decode b_Be_layOut 72 = .ok (.return_, 1) := by decide +kernel
noncomputable def allStep (side kf cn tn : Nat) (th wi wo wn : Nat → Nat) (fb fl : Nat → Nat → Nat) (TR : Nat → Nat) (r : Nat) (q : Nat × Nat × PSt) : Nat × Nat × PSt :=
  if q.1 ≤ r ∧ 0 < TR r then (r + TR r + kf, q.2.1 + 1, (slabLay kf cn tn r th wi (vaC side fl th wi wo tn r) (slab0 side kf (TR r) th wi (okC side fb th wi wn tn r) (vaC side fl th wi wo tn r) cn).2 q.2.2 side).2) else q
noncomputable def layAll (side kf cn tn : Nat) (th wi wo wn : Nat → Nat) (fb fl : Nat → Nat → Nat) (TR : Nat → Nat) (s0 : PSt) : Nat → Nat × Nat × PSt
  | 0 => (0, 0, s0)
  | r + 1 => allStep side kf cn tn th wi wo wn fb fl TR r (layAll side kf cn tn th wi wo wn fb fl TR s0 r)
theorem layAll_congr {side kf cn tn : Nat} {th wi wo wn : Nat → Nat} {fb fl : Nat → Nat → Nat} {TR TR' : Nat → Nat} {s0 : PSt} : ∀ (k : Nat), (∀ j, j < k → TR j = TR' j) → layAll side kf cn tn th wi wo wn fb fl TR s0 k = layAll side kf cn tn th wi wo wn fb fl TR' s0 k := by
  intro k
  induction k with
  | zero => intro _; rfl
  | succ k ih =>
    intro h
    show allStep side kf cn tn th wi wo wn fb fl TR k _ = allStep side kf cn tn th wi wo wn fb fl TR' k _
    rw [ih (fun j hj => h j (by omega))]
    unfold allStep
    rw [h k (by omega)]
theorem layAll_ct {side kf cn tn : Nat} {th wi wo wn : Nat → Nat} {fb fl : Nat → Nat → Nat} {TR : Nat → Nat} {s0 : PSt} (h0 : s0.1 = 0) : ∀ (r : Nat), (layAll side kf cn tn th wi wo wn fb fl TR s0 r).2.2.1 ≤ r * side := by
  intro r
  induction r with
  | zero => show s0.1 ≤ _; omega
  | succ r ih =>
    show (allStep side kf cn tn th wi wo wn fb fl TR r _).2.2.1 ≤ _
    rw [Nat.succ_mul]
    unfold allStep
    split
    · have h := slabLay_ct (kf := kf) (cn := cn) (tn := tn) (row := r) (th := th) (wi := wi) (va := vaC side fl th wi wo tn r) (SC := (slab0 side kf (TR r) th wi (okC side fb th wi wn tn r) (vaC side fl th wi wo tn r) cn).2) (s0 := (layAll side kf cn tn th wi wo wn fb fl TR s0 r).2.2) side
      dsimp only
      omega
    · omega
set_option maxHeartbeats 4000000 in
set_option maxRecDepth 100000 in
theorem c_layOut (l : Launch) (D : va_G) (cI cJ cZ : ClassId) (sz : Nat) (hb_ : Nat) (bo : Nat) (hz : Nat) (side : Nat) (kf : Nat) (tn : Nat) (r1 : Nat) (r2 : Nat) (r3 : Nat) (r4 : Nat) (h0 : Nat) (a1 : Nat) (a2 : Nat) (a3 : Nat) (a4 : Nat) (sm : Prop) (t1 : Nat) (t2 : Nat) (t3 : Nat) (t4 : Nat) (cn : Nat) (th : Nat → Nat) (wi : Nat → Nat) (wo : Nat → Nat) (wn : Nat → Nat) (F3 : Nat → Nat) (F4 : Nat → Nat) (fb : Nat → Nat → Nat) (fl : Nat → Nat → Nat) (TR : Nat → Nat) (RC : Nat → Int) (SC : Nat → Int) (hp : Nat) (p1 : Nat) (p2 : Nat) (p3 : Nat) (pt : Nat) (psl : Nat) (pc_ : Nat) (pv : Int) (pce : Nat) (pn : Nat) (g1 : Nat → Nat) (g2 : Nat → Nat) (g3 : Nat → Nat) (s1 : 1 ≤ side) (s2 : side ≤ 20) (k4 : kf ≤ 4) (tn1 : tn ≤ 1) (n8 : cn ≤ 8) (ht : ∀ k, k < 8 → th k ≤ 20) (hw : ∀ k, k < 8 → wi k ≤ 20) (hw1 : ∀ k, k < cn → 1 ≤ wi k) (ho : ∀ k, k < 8 → wo k ≤ 100000) (hn : ∀ k, k < 8 → wn k ≤ 400) (m3 : ∀ X Y, X ≤ side → Y ≤ side → F3 (Y * (side + 1) + X) = psm fb X Y) (m4 : ∀ X Y, X ≤ side → Y ≤ side → F4 (Y * (side + 1) + X) = psm fl X Y) (hfb : ∀ i j, i < side → j < side → fb i j ≤ 10000) (hfl : ∀ i j, i < side → j < side → fl i j ≤ 10000) (hR0 : RC side = 0) (hpn : pn = side * side) (hTR : ∀ j, j < side → TR j ≤ side - j) : Met l y_Be_layOut w_Be_layOut ({ frames := 5, cells := 0, slots := 0, locals := 130 }) (va_Pc [.ref hb_, .ref hp] (kB D vwCl (tyL cI cJ cZ) sz [(hb_, .inr (1, [.ref bo, .ref hz, .int (nI side), .int (nI kf), .int (nI tn), .ref r1, .ref r2, .ref r3, .ref r4])), (bo, .inr (2, [.ref hz, .ref h0])), (h0, .inr (3, [.int (nI side), .ref a1, .ref a2, .ref a3, .ref a4, .int (pI sm)])), (hz, .inr (5, [.ref t1, .ref t2, .ref t3, .ref t4, .int (nI cn)])), (t1, .inl (cI, 8, .inl (fun j => nI (th j)))), (t2, .inl (cI, 8, .inl (fun j => nI (wi j)))), (t3, .inl (cI, 8, .inl (fun j => nI (wo j)))), (t4, .inl (cI, 8, .inl (fun j => nI (wn j)))), (a3, .inl (cI, ((side + 1) * (side + 1)), .inl (fun j => nI (F3 j)))), (a4, .inl (cI, ((side + 1) * (side + 1)), .inl (fun j => nI (F4 j)))), (r2, .inl (cI, side, .inl (fun j => nI (TR j)))), (r3, .inl (cJ, (side + 1), .inr (.inl (fun j => lI (RC j))))), (r4, .inl (cI, side, .inl (fun j => iI (SC j)))), (hp, .inr (4, [.ref p1, .ref p2, .ref p3, .int (nI pt), .int (nI psl), .int (nI pc_), .int (iI pv), .int (nI pce)])), (p1, .inl (cI, pn, .inl (fun j => nI (g1 j)))), (p2, .inl (cI, pn, .inl (fun j => nI (g2 j)))), (p3, .inl (cI, pn, .inl (fun j => nI (g3 j))))])) (va_Qv (fun (u : (Nat → Int) × (Nat → Int)) => u.1 side = 0) (fun (u : (Nat → Int) × (Nat → Int)) t => kE D vwCl (va_A [(hb_, .inr (1, [.ref bo, .ref hz, .int (nI side), .int (nI kf), .int (nI tn), .ref r1, .ref r2, .ref r3, .ref r4])), (bo, .inr (2, [.ref hz, .ref h0])), (h0, .inr (3, [.int (nI side), .ref a1, .ref a2, .ref a3, .ref a4, .int (pI sm)])), (hz, .inr (5, [.ref t1, .ref t2, .ref t3, .ref t4, .int (nI cn)])), (t1, .inl (cI, 8, .inl (fun j => nI (th j)))), (t2, .inl (cI, 8, .inl (fun j => nI (wi j)))), (t3, .inl (cI, 8, .inl (fun j => nI (wo j)))), (t4, .inl (cI, 8, .inl (fun j => nI (wn j)))), (a3, .inl (cI, ((side + 1) * (side + 1)), .inl (fun j => nI (F3 j)))), (a4, .inl (cI, ((side + 1) * (side + 1)), .inl (fun j => nI (F4 j)))), (r2, .inl (cI, side, .inl (fun j => nI (TR j)))), (r3, .inl (cJ, (side + 1), .inr (.inl (fun j => lI (RC j))))), (r4, .inl (cI, side, .inl (fun j => iI (SC j)))), (hp, .inr (4, [.ref p1, .ref p2, .ref p3, .int (nI pt), .int (nI psl), .int (nI pc_), .int (iI pv), .int (nI pce)])), (p1, .inl (cI, pn, .inl (fun j => nI (g1 j)))), (p2, .inl (cI, pn, .inl (fun j => nI (g2 j)))), (p3, .inl (cI, pn, .inl (fun j => nI (g3 j))))] sz) [(hb_, .inr (1, [.ref bo, .ref hz, .int (nI side), .int (nI kf), .int (nI tn), .ref r1, .ref r2, .ref r3, .ref r4])), (bo, .inr (2, [.ref hz, .ref h0])), (h0, .inr (3, [.int (nI side), .ref a1, .ref a2, .ref a3, .ref a4, .int (pI sm)])), (hz, .inr (5, [.ref t1, .ref t2, .ref t3, .ref t4, .int (nI cn)])), (t1, .inl (cI, 8, .inl (fun j => nI (th j)))), (t2, .inl (cI, 8, .inl (fun j => nI (wi j)))), (t3, .inl (cI, 8, .inl (fun j => nI (wo j)))), (t4, .inl (cI, 8, .inl (fun j => nI (wn j)))), (a3, .inl (cI, ((side + 1) * (side + 1)), .inl (fun j => nI (F3 j)))), (a4, .inl (cI, ((side + 1) * (side + 1)), .inl (fun j => nI (F4 j)))), (r2, .inl (cI, side, .inl (fun j => nI (TR j)))), (r3, .inl (cJ, (side + 1), .inr (.inl (fun j => lI (u.1 j))))), (r4, .inl (cI, side, .inl (fun j => iI (u.2 j)))), (hp, .inr (4, [.ref p1, .ref p2, .ref p3, .int (nI tn), .int (nI ((layAll side kf cn tn th wi wo wn fb fl TR (0, g1, g2, g3, 0, 0) side).2.1)), .int (nI ((layAll side kf cn tn th wi wo wn fb fl TR (0, g1, g2, g3, 0, 0) side).2.2.1)), .int (iI ((layAll side kf cn tn th wi wo wn fb fl TR (0, g1, g2, g3, 0, 0) side).2.2.2.2.2.2.1)), .int (nI ((layAll side kf cn tn th wi wo wn fb fl TR (0, g1, g2, g3, 0, 0) side).2.2.2.2.2.2.2))])), (p1, .inl (cI, pn, .inl (fun j => nI (((layAll side kf cn tn th wi wo wn fb fl TR (0, g1, g2, g3, 0, 0) side).2.2.2.1) j)))), (p2, .inl (cI, pn, .inl (fun j => nI (((layAll side kf cn tn th wi wo wn fb fl TR (0, g1, g2, g3, 0, 0) side).2.2.2.2.1) j)))), (p3, .inl (cI, pn, .inl (fun j => nI (((layAll side kf cn tn th wi wo wn fb fl TR (0, g1, g2, g3, 0, 0) side).2.2.2.2.2.1) j))))] t) (va_A [(hb_, .inr (1, [.ref bo, .ref hz, .int (nI side), .int (nI kf), .int (nI tn), .ref r1, .ref r2, .ref r3, .ref r4])), (bo, .inr (2, [.ref hz, .ref h0])), (h0, .inr (3, [.int (nI side), .ref a1, .ref a2, .ref a3, .ref a4, .int (pI sm)])), (hz, .inr (5, [.ref t1, .ref t2, .ref t3, .ref t4, .int (nI cn)])), (t1, .inl (cI, 8, .inl (fun j => nI (th j)))), (t2, .inl (cI, 8, .inl (fun j => nI (wi j)))), (t3, .inl (cI, 8, .inl (fun j => nI (wo j)))), (t4, .inl (cI, 8, .inl (fun j => nI (wn j)))), (a3, .inl (cI, ((side + 1) * (side + 1)), .inl (fun j => nI (F3 j)))), (a4, .inl (cI, ((side + 1) * (side + 1)), .inl (fun j => nI (F4 j)))), (r2, .inl (cI, side, .inl (fun j => nI (TR j)))), (r3, .inl (cJ, (side + 1), .inr (.inl (fun j => lI (RC j))))), (r4, .inl (cI, side, .inl (fun j => iI (SC j)))), (hp, .inr (4, [.ref p1, .ref p2, .ref p3, .int (nI pt), .int (nI psl), .int (nI pc_), .int (iI pv), .int (nI pce)])), (p1, .inl (cI, pn, .inl (fun j => nI (g1 j)))), (p2, .inl (cI, pn, .inl (fun j => nI (g2 j)))), (p3, .inl (cI, pn, .inl (fun j => nI (g3 j))))] sz)) 0 0 (va_A [(hb_, .inr (1, [.ref bo, .ref hz, .int (nI side), .int (nI kf), .int (nI tn), .ref r1, .ref r2, .ref r3, .ref r4])), (bo, .inr (2, [.ref hz, .ref h0])), (h0, .inr (3, [.int (nI side), .ref a1, .ref a2, .ref a3, .ref a4, .int (pI sm)])), (hz, .inr (5, [.ref t1, .ref t2, .ref t3, .ref t4, .int (nI cn)])), (t1, .inl (cI, 8, .inl (fun j => nI (th j)))), (t2, .inl (cI, 8, .inl (fun j => nI (wi j)))), (t3, .inl (cI, 8, .inl (fun j => nI (wo j)))), (t4, .inl (cI, 8, .inl (fun j => nI (wn j)))), (a3, .inl (cI, ((side + 1) * (side + 1)), .inl (fun j => nI (F3 j)))), (a4, .inl (cI, ((side + 1) * (side + 1)), .inl (fun j => nI (F4 j)))), (r2, .inl (cI, side, .inl (fun j => nI (TR j)))), (r3, .inl (cJ, (side + 1), .inr (.inl (fun j => lI (RC j))))), (r4, .inl (cI, side, .inl (fun j => iI (SC j)))), (hp, .inr (4, [.ref p1, .ref p2, .ref p3, .int (nI pt), .int (nI psl), .int (nI pc_), .int (iI pv), .int (nI pce)])), (p1, .inl (cI, pn, .inl (fun j => nI (g1 j)))), (p2, .inl (cI, pn, .inl (fun j => nI (g2 j)))), (p3, .inl (cI, pn, .inl (fun j => nI (g3 j))))] sz) := by
  refine Met.ofW (cc := b_Be_layOut) (maxL := 5) (ret := none) (by decide) rfl ?_
  intro p e s m args below meth c s₁ B hml hv
  obtain ⟨rfl, hsz, hP, hK, hD0, hZ⟩ := hv
  have hx := B.exec
  have hb := B.bytes
  have hr := B.returns
  have hts := atoms_spec (ws := w_Be_layOut) B.pre
  have hown : s.vm.findClass R_Be = some m.cls := findClass_of_methodNamed B.named
  have hlocks := B.notSynchronized
  subst hsz
  have hD := hD0.self (sz := s.heap.size)
  generalize hAe : va_A [(hb_, .inr (1, [.ref bo, .ref hz, .int (nI side), .int (nI kf), .int (nI tn), .ref r1, .ref r2, .ref r3, .ref r4])), (bo, .inr (2, [.ref hz, .ref h0])), (h0, .inr (3, [.int (nI side), .ref a1, .ref a2, .ref a3, .ref a4, .int (pI sm)])), (hz, .inr (5, [.ref t1, .ref t2, .ref t3, .ref t4, .int (nI cn)])), (t1, .inl (cI, 8, .inl (fun j => nI (th j)))), (t2, .inl (cI, 8, .inl (fun j => nI (wi j)))), (t3, .inl (cI, 8, .inl (fun j => nI (wo j)))), (t4, .inl (cI, 8, .inl (fun j => nI (wn j)))), (a3, .inl (cI, ((side + 1) * (side + 1)), .inl (fun j => nI (F3 j)))), (a4, .inl (cI, ((side + 1) * (side + 1)), .inl (fun j => nI (F4 j)))), (r2, .inl (cI, side, .inl (fun j => nI (TR j)))), (r3, .inl (cJ, (side + 1), .inr (.inl (fun j => lI (RC j))))), (r4, .inl (cI, side, .inl (fun j => iI (SC j)))), (hp, .inr (4, [.ref p1, .ref p2, .ref p3, .int (nI pt), .int (nI psl), .int (nI pc_), .int (iI pv), .int (nI pce)])), (p1, .inl (cI, pn, .inl (fun j => nI (g1 j)))), (p2, .inl (cI, pn, .inl (fun j => nI (g2 j)))), (p3, .inl (cI, pn, .inl (fun j => nI (g3 j))))] s.heap.size = A at hD ⊢
  have hA : ∀ q : Nat, s.heap.size ≤ q → A q := fun q h => by rw [← hAe]; exact Or.inr h
  have hS : va_S A s.heap s.heap [] := va_S.rf
  have hP : va_P D vwCl [(hb_, .inr (1, [.ref bo, .ref hz, .int (nI side), .int (nI kf), .int (nI tn), .ref r1, .ref r2, .ref r3, .ref r4])), (bo, .inr (2, [.ref hz, .ref h0])), (h0, .inr (3, [.int (nI side), .ref a1, .ref a2, .ref a3, .ref a4, .int (pI sm)])), (hz, .inr (5, [.ref t1, .ref t2, .ref t3, .ref t4, .int (nI cn)])), (t1, .inl (cI, 8, .inl (fun j => nI (th j)))), (t2, .inl (cI, 8, .inl (fun j => nI (wi j)))), (t3, .inl (cI, 8, .inl (fun j => nI (wo j)))), (t4, .inl (cI, 8, .inl (fun j => nI (wn j)))), (a3, .inl (cI, ((side + 1) * (side + 1)), .inl (fun j => nI (F3 j)))), (a4, .inl (cI, ((side + 1) * (side + 1)), .inl (fun j => nI (F4 j)))), (r2, .inl (cI, side, .inl (fun j => nI (TR j)))), (r3, .inl (cJ, (side + 1), .inr (.inl (fun j => lI (RC j))))), (r4, .inl (cI, side, .inl (fun j => iI (SC j)))), (hp, .inr (4, [.ref p1, .ref p2, .ref p3, .int (nI pt), .int (nI psl), .int (nI pc_), .int (iI pv), .int (nI pce)])), (p1, .inl (cI, pn, .inl (fun j => nI (g1 j)))), (p2, .inl (cI, pn, .inl (fun j => nI (g2 j)))), (p3, .inl (cI, pn, .inl (fun j => nI (g3 j))))] s.heap := hP
  have hl := lv_entry ([.ref hb_, .ref hp]) (n := 5) (Nat.le_of_ble_eq_true rfl)
  rw [lg_entry_eq]
  generalize (lg_sl ([.ref hb_, .ref hp]) ++ List.replicate (5 - (lg_sl ([.ref hb_, .ref hp])).length) Slot.unset).toArray = ls at hl ⊢
  have hl : lv_has ls 5 [(0, .ref hb_), (1, .ref hp)] := hl
  have qsq := (sq20 s2).2
  refine lv_aload_n hx hb d_Be_layOut_0 rfl (lv_at hl 1 rfl) ?_
  refine lv_aload_n hx hb d_Be_layOut_1 rfl (lv_at hl 0 rfl) ?_
  refine va_get (D := D) (ci := 1) (v := .int (nI tn)) (C := R_Be) (T := T_Be) (N := 9) hx hb hts (fun w h => List.mem_cons_of_mem _ (iw_Be w h)) hown hK hP 0 rfl rfl 4 (by decide) (hts _ (List.mem_cons_of_mem _ k_111)) (fun _ h9 => h9) rfl d_Be_layOut_2 ?_
  refine kcallv (wc := [(hp, .inr (4, [.ref p1, .ref p2, .ref p3, .int (nI pt), .int (nI psl), .int (nI pc_), .int (iI pv), .int (nI pce)]))]) (wr := [(hb_, .inr (1, [.ref bo, .ref hz, .int (nI side), .int (nI kf), .int (nI tn), .ref r1, .ref r2, .ref r3, .ref r4])), (bo, .inr (2, [.ref hz, .ref h0])), (h0, .inr (3, [.int (nI side), .ref a1, .ref a2, .ref a3, .ref a4, .int (pI sm)])), (hz, .inr (5, [.ref t1, .ref t2, .ref t3, .ref t4, .int (nI cn)])), (t1, .inl (cI, 8, .inl (fun j => nI (th j)))), (t2, .inl (cI, 8, .inl (fun j => nI (wi j)))), (t3, .inl (cI, 8, .inl (fun j => nI (wo j)))), (t4, .inl (cI, 8, .inl (fun j => nI (wn j)))), (a3, .inl (cI, ((side + 1) * (side + 1)), .inl (fun j => nI (F3 j)))), (a4, .inl (cI, ((side + 1) * (side + 1)), .inl (fun j => nI (F4 j)))), (r2, .inl (cI, side, .inl (fun j => nI (TR j)))), (r3, .inl (cJ, (side + 1), .inr (.inl (fun j => lI (RC j))))), (r4, .inl (cI, side, .inl (fun j => iI (SC j)))), (p1, .inl (cI, pn, .inl (fun j => nI (g1 j)))), (p2, .inl (cI, pn, .inl (fun j => nI (g2 j)))), (p3, .inl (cI, pn, .inl (fun j => nI (g3 j))))]) [13] [0, 1, 2, 3, 4, 5, 6, 7, 8, 9, 10, 11, 12, 14, 15, 16] (va_runV (As := [.int (nI tn)]) (rest := []) ⟨hx, hb, hml, hown, hts⟩ (c_clear l D cI cJ cZ s.heap.size hp p1 p2 p3 pt psl pc_ pv pce tn ) ⟨callB_of 1 hts (gd kc_Pa_clear) rfl rfl rfl (hts _ (List.mem_cons_of_mem _ k_7)) (hts _ (List.mem_cons_of_mem _ k_267)) (by decide +kernel) ⟨Nat.le_of_ble_eq_true rfl, Nat.le_of_ble_eq_true rfl⟩, hts _ (List.mem_cons_of_mem _ k_268), hts _ (List.mem_cons_of_mem _ k_269)⟩ ⟨kB_blind, va_recv hK hP (ci := 4) (q0 := 13) rfl rfl, kB_at hP hD hK hZ [13] rfl (by decide) rfl⟩ rfl rfl hl.1 rfl (lv_room (Nat.le_of_ble_eq_true rfl)) d_Be_layOut_5 ⟨Nat.zero_le _, Nat.zero_le _⟩) hP hD hS hA rfl rfl (by decide) (by decide) (fun _ H locs hw_5 hP hD hS => ?_)
  have hP : va_P D vwCl [(hb_, .inr (1, [.ref bo, .ref hz, .int (nI side), .int (nI kf), .int (nI tn), .ref r1, .ref r2, .ref r3, .ref r4])), (bo, .inr (2, [.ref hz, .ref h0])), (h0, .inr (3, [.int (nI side), .ref a1, .ref a2, .ref a3, .ref a4, .int (pI sm)])), (hz, .inr (5, [.ref t1, .ref t2, .ref t3, .ref t4, .int (nI cn)])), (t1, .inl (cI, 8, .inl (fun j => nI (th j)))), (t2, .inl (cI, 8, .inl (fun j => nI (wi j)))), (t3, .inl (cI, 8, .inl (fun j => nI (wo j)))), (t4, .inl (cI, 8, .inl (fun j => nI (wn j)))), (a3, .inl (cI, ((side + 1) * (side + 1)), .inl (fun j => nI (F3 j)))), (a4, .inl (cI, ((side + 1) * (side + 1)), .inl (fun j => nI (F4 j)))), (r2, .inl (cI, side, .inl (fun j => nI (TR j)))), (r3, .inl (cJ, (side + 1), .inr (.inl (fun j => lI (RC j))))), (r4, .inl (cI, side, .inl (fun j => iI (SC j)))), (p1, .inl (cI, pn, .inl (fun j => nI (g1 j)))), (p2, .inl (cI, pn, .inl (fun j => nI (g2 j)))), (p3, .inl (cI, pn, .inl (fun j => nI (g3 j)))), (hp, .inr (4, [.ref p1, .ref p2, .ref p3, .int (nI tn), .int (nI 0), .int (nI 0), .int (iI 0), .int (nI 0)]))] H := hP
  have hD : va_D A [(hb_, .inr (1, [.ref bo, .ref hz, .int (nI side), .int (nI kf), .int (nI tn), .ref r1, .ref r2, .ref r3, .ref r4])), (bo, .inr (2, [.ref hz, .ref h0])), (h0, .inr (3, [.int (nI side), .ref a1, .ref a2, .ref a3, .ref a4, .int (pI sm)])), (hz, .inr (5, [.ref t1, .ref t2, .ref t3, .ref t4, .int (nI cn)])), (t1, .inl (cI, 8, .inl (fun j => nI (th j)))), (t2, .inl (cI, 8, .inl (fun j => nI (wi j)))), (t3, .inl (cI, 8, .inl (fun j => nI (wo j)))), (t4, .inl (cI, 8, .inl (fun j => nI (wn j)))), (a3, .inl (cI, ((side + 1) * (side + 1)), .inl (fun j => nI (F3 j)))), (a4, .inl (cI, ((side + 1) * (side + 1)), .inl (fun j => nI (F4 j)))), (r2, .inl (cI, side, .inl (fun j => nI (TR j)))), (r3, .inl (cJ, (side + 1), .inr (.inl (fun j => lI (RC j))))), (r4, .inl (cI, side, .inl (fun j => iI (SC j)))), (p1, .inl (cI, pn, .inl (fun j => nI (g1 j)))), (p2, .inl (cI, pn, .inl (fun j => nI (g2 j)))), (p3, .inl (cI, pn, .inl (fun j => nI (g3 j)))), (hp, .inr (4, [.ref p1, .ref p2, .ref p3, .int (nI tn), .int (nI 0), .int (nI 0), .int (iI 0), .int (nI 0)]))] := hD
  refine lv_iconst (v := nI 0) hx hb d_Be_layOut_8 (by decide +kernel) ?_
  refine lv_istore_n (lv' := [(2, .int (nI 0)), (0, .ref hb_), (1, .ref hp)]) hx hb d_Be_layOut_9 rfl hl (by decide) rfl (fun ls hl => ?_)
  refine lv_iconst (v := nI 0) hx hb d_Be_layOut_10 (by decide +kernel) ?_
  refine lv_istore_n (lv' := [(3, .int (nI 0)), (2, .int (nI 0)), (0, .ref hb_), (1, .ref hp)]) hx hb d_Be_layOut_11 rfl hl (by decide) rfl (fun ls hl => ?_)
  have lp : ∀ (n : Nat) (r_ : Nat) (fr : Nat) (sl : Nat) (ct : Nat) (f1 : Nat → Nat) (f2 : Nat → Nat) (f3 : Nat → Nat) (v : Int) (ce : Nat) (RC : Nat → Int) (SC : Nat → Int), (r_ + n = side) → ((layAll side kf cn tn th wi wo wn fb fl TR (0, g1, g2, g3, 0, 0) r_) = (fr, sl, ct, f1, f2, f3, v, ce)) → (fr ≤ 44) → (RC side = 0) → ∀ (H : Heap) (locs : List Loc), va_P D vwCl [(hb_, .inr (1, [.ref bo, .ref hz, .int (nI side), .int (nI kf), .int (nI tn), .ref r1, .ref r2, .ref r3, .ref r4])), (bo, .inr (2, [.ref hz, .ref h0])), (h0, .inr (3, [.int (nI side), .ref a1, .ref a2, .ref a3, .ref a4, .int (pI sm)])), (hz, .inr (5, [.ref t1, .ref t2, .ref t3, .ref t4, .int (nI cn)])), (t1, .inl (cI, 8, .inl (fun j => nI (th j)))), (t2, .inl (cI, 8, .inl (fun j => nI (wi j)))), (t3, .inl (cI, 8, .inl (fun j => nI (wo j)))), (t4, .inl (cI, 8, .inl (fun j => nI (wn j)))), (a3, .inl (cI, ((side + 1) * (side + 1)), .inl (fun j => nI (F3 j)))), (a4, .inl (cI, ((side + 1) * (side + 1)), .inl (fun j => nI (F4 j)))), (r2, .inl (cI, side, .inl (fun j => nI (TR j)))), (r3, .inl (cJ, (side + 1), .inr (.inl (fun j => lI (RC j))))), (r4, .inl (cI, side, .inl (fun j => iI (SC j)))), (p1, .inl (cI, pn, .inl (fun j => nI (f1 j)))), (p2, .inl (cI, pn, .inl (fun j => nI (f2 j)))), (p3, .inl (cI, pn, .inl (fun j => nI (f3 j)))), (hp, .inr (4, [.ref p1, .ref p2, .ref p3, .int (nI tn), .int (nI sl), .int (nI ct), .int (iI v), .int (nI ce)]))] H → va_D A [(hb_, .inr (1, [.ref bo, .ref hz, .int (nI side), .int (nI kf), .int (nI tn), .ref r1, .ref r2, .ref r3, .ref r4])), (bo, .inr (2, [.ref hz, .ref h0])), (h0, .inr (3, [.int (nI side), .ref a1, .ref a2, .ref a3, .ref a4, .int (pI sm)])), (hz, .inr (5, [.ref t1, .ref t2, .ref t3, .ref t4, .int (nI cn)])), (t1, .inl (cI, 8, .inl (fun j => nI (th j)))), (t2, .inl (cI, 8, .inl (fun j => nI (wi j)))), (t3, .inl (cI, 8, .inl (fun j => nI (wo j)))), (t4, .inl (cI, 8, .inl (fun j => nI (wn j)))), (a3, .inl (cI, ((side + 1) * (side + 1)), .inl (fun j => nI (F3 j)))), (a4, .inl (cI, ((side + 1) * (side + 1)), .inl (fun j => nI (F4 j)))), (r2, .inl (cI, side, .inl (fun j => nI (TR j)))), (r3, .inl (cJ, (side + 1), .inr (.inl (fun j => lI (RC j))))), (r4, .inl (cI, side, .inl (fun j => iI (SC j)))), (p1, .inl (cI, pn, .inl (fun j => nI (f1 j)))), (p2, .inl (cI, pn, .inl (fun j => nI (f2 j)))), (p3, .inl (cI, pn, .inl (fun j => nI (f3 j)))), (hp, .inr (4, [.ref p1, .ref p2, .ref p3, .int (nI tn), .int (nI sl), .int (nI ct), .int (iI v), .int (nI ce)]))] → va_S A s.heap H locs → ∀ ls : Array Slot, lv_has ls 5 [(3, .int (nI r_)), (2, .int (nI fr)), (0, .ref hb_), (1, .ref hp)] → W p l e (headSpec w_Be_layOut ({ frames := 5, cells := 0, slots := 0, locals := 130 })).room s m ([.ref hb_, .ref hp]).toArray below meth c H locs 0 0 (MQ below (va_Qv (fun (u : (Nat → Int) × (Nat → Int)) => u.1 side = 0) (fun (u : (Nat → Int) × (Nat → Int)) t => kE D vwCl A [(hb_, .inr (1, [.ref bo, .ref hz, .int (nI side), .int (nI kf), .int (nI tn), .ref r1, .ref r2, .ref r3, .ref r4])), (bo, .inr (2, [.ref hz, .ref h0])), (h0, .inr (3, [.int (nI side), .ref a1, .ref a2, .ref a3, .ref a4, .int (pI sm)])), (hz, .inr (5, [.ref t1, .ref t2, .ref t3, .ref t4, .int (nI cn)])), (t1, .inl (cI, 8, .inl (fun j => nI (th j)))), (t2, .inl (cI, 8, .inl (fun j => nI (wi j)))), (t3, .inl (cI, 8, .inl (fun j => nI (wo j)))), (t4, .inl (cI, 8, .inl (fun j => nI (wn j)))), (a3, .inl (cI, ((side + 1) * (side + 1)), .inl (fun j => nI (F3 j)))), (a4, .inl (cI, ((side + 1) * (side + 1)), .inl (fun j => nI (F4 j)))), (r2, .inl (cI, side, .inl (fun j => nI (TR j)))), (r3, .inl (cJ, (side + 1), .inr (.inl (fun j => lI (u.1 j))))), (r4, .inl (cI, side, .inl (fun j => iI (u.2 j)))), (hp, .inr (4, [.ref p1, .ref p2, .ref p3, .int (nI tn), .int (nI ((layAll side kf cn tn th wi wo wn fb fl TR (0, g1, g2, g3, 0, 0) side).2.1)), .int (nI ((layAll side kf cn tn th wi wo wn fb fl TR (0, g1, g2, g3, 0, 0) side).2.2.1)), .int (iI ((layAll side kf cn tn th wi wo wn fb fl TR (0, g1, g2, g3, 0, 0) side).2.2.2.2.2.2.1)), .int (nI ((layAll side kf cn tn th wi wo wn fb fl TR (0, g1, g2, g3, 0, 0) side).2.2.2.2.2.2.2))])), (p1, .inl (cI, pn, .inl (fun j => nI (((layAll side kf cn tn th wi wo wn fb fl TR (0, g1, g2, g3, 0, 0) side).2.2.2.1) j)))), (p2, .inl (cI, pn, .inl (fun j => nI (((layAll side kf cn tn th wi wo wn fb fl TR (0, g1, g2, g3, 0, 0) side).2.2.2.2.1) j)))), (p3, .inl (cI, pn, .inl (fun j => nI (((layAll side kf cn tn th wi wo wn fb fl TR (0, g1, g2, g3, 0, 0) side).2.2.2.2.2.1) j))))] t) A) ([.ref hb_, .ref hp]).toArray s 0 0 A) (F0 m 12 ls []) := by
    intro n
    induction n with
    | zero =>
      intro r_ fr sl ct f1 f2 f3 v ce RC SC hi ee hfr hC H locs hP hD hS ls hl
      refine lv_iload_n hx hb d_Be_layOut_12 rfl (lv_at hl 0 rfl) ?_
      refine lv_aload_n hx hb d_Be_layOut_13 rfl (lv_at hl 2 rfl) ?_
      refine va_get (D := D) (ci := 1) (v := .int (nI side)) (C := R_Be) (T := T_Be) (N := 9) hx hb hts (fun w h => List.mem_cons_of_mem _ (iw_Be w h)) hown hK hP 0 rfl rfl 2 (by decide) (hts _ (List.mem_cons_of_mem _ k_109)) (fun _ h9 => h9) rfl d_Be_layOut_14 ?_
      refine kb_cge (tgt := 72) (nI_t (by omega)) (nI_t (by omega)) hx hb d_Be_layOut_17 (by decide) (fun c_17 => ?_) (fun c_17 => ?_)
      · have ek : side = r_ := by omega
        subst ek
        have k_sl : sl = (layAll side kf cn tn th wi wo wn fb fl TR (0, g1, g2, g3, 0, 0) side).2.1 := by rw [ee]
        have k_ct : ct = (layAll side kf cn tn th wi wo wn fb fl TR (0, g1, g2, g3, 0, 0) side).2.2.1 := by rw [ee]
        have k_f1 : f1 = (layAll side kf cn tn th wi wo wn fb fl TR (0, g1, g2, g3, 0, 0) side).2.2.2.1 := by rw [ee]
        have k_f2 : f2 = (layAll side kf cn tn th wi wo wn fb fl TR (0, g1, g2, g3, 0, 0) side).2.2.2.2.1 := by rw [ee]
        have k_f3 : f3 = (layAll side kf cn tn th wi wo wn fb fl TR (0, g1, g2, g3, 0, 0) side).2.2.2.2.2.1 := by rw [ee]
        have k_v : v = (layAll side kf cn tn th wi wo wn fb fl TR (0, g1, g2, g3, 0, 0) side).2.2.2.2.2.2.1 := by rw [ee]
        have k_ce : ce = (layAll side kf cn tn th wi wo wn fb fl TR (0, g1, g2, g3, 0, 0) side).2.2.2.2.2.2.2 := by rw [ee]
        clear ee
        subst k_sl; subst k_ct; subst k_f1; subst k_f2; subst k_f3; subst k_v; subst k_ce
        have hP := hP.sub (ws' := [(hb_, .inr (1, [.ref bo, .ref hz, .int (nI side), .int (nI kf), .int (nI tn), .ref r1, .ref r2, .ref r3, .ref r4])), (bo, .inr (2, [.ref hz, .ref h0])), (h0, .inr (3, [.int (nI side), .ref a1, .ref a2, .ref a3, .ref a4, .int (pI sm)])), (hz, .inr (5, [.ref t1, .ref t2, .ref t3, .ref t4, .int (nI cn)])), (t1, .inl (cI, 8, .inl (fun j => nI (th j)))), (t2, .inl (cI, 8, .inl (fun j => nI (wi j)))), (t3, .inl (cI, 8, .inl (fun j => nI (wo j)))), (t4, .inl (cI, 8, .inl (fun j => nI (wn j)))), (a3, .inl (cI, ((side + 1) * (side + 1)), .inl (fun j => nI (F3 j)))), (a4, .inl (cI, ((side + 1) * (side + 1)), .inl (fun j => nI (F4 j)))), (r2, .inl (cI, side, .inl (fun j => nI (TR j)))), (r3, .inl (cJ, (side + 1), .inr (.inl (fun j => lI (((RC, SC).1) j))))), (r4, .inl (cI, side, .inl (fun j => iI (((RC, SC).2) j)))), (hp, .inr (4, [.ref p1, .ref p2, .ref p3, .int (nI tn), .int (nI ((layAll side kf cn tn th wi wo wn fb fl TR (0, g1, g2, g3, 0, 0) side).2.1)), .int (nI ((layAll side kf cn tn th wi wo wn fb fl TR (0, g1, g2, g3, 0, 0) side).2.2.1)), .int (iI ((layAll side kf cn tn th wi wo wn fb fl TR (0, g1, g2, g3, 0, 0) side).2.2.2.2.2.2.1)), .int (nI ((layAll side kf cn tn th wi wo wn fb fl TR (0, g1, g2, g3, 0, 0) side).2.2.2.2.2.2.2))])), (p1, .inl (cI, pn, .inl (fun j => nI (((layAll side kf cn tn th wi wo wn fb fl TR (0, g1, g2, g3, 0, 0) side).2.2.2.1) j)))), (p2, .inl (cI, pn, .inl (fun j => nI (((layAll side kf cn tn th wi wo wn fb fl TR (0, g1, g2, g3, 0, 0) side).2.2.2.2.1) j)))), (p3, .inl (cI, pn, .inl (fun j => nI (((layAll side kf cn tn th wi wo wn fb fl TR (0, g1, g2, g3, 0, 0) side).2.2.2.2.2.1) j))))]) [0, 1, 2, 3, 4, 5, 6, 7, 8, 9, 10, 11, 12, 16, 13, 14, 15] rfl
        have hD := hD.sub (ws' := [(hb_, .inr (1, [.ref bo, .ref hz, .int (nI side), .int (nI kf), .int (nI tn), .ref r1, .ref r2, .ref r3, .ref r4])), (bo, .inr (2, [.ref hz, .ref h0])), (h0, .inr (3, [.int (nI side), .ref a1, .ref a2, .ref a3, .ref a4, .int (pI sm)])), (hz, .inr (5, [.ref t1, .ref t2, .ref t3, .ref t4, .int (nI cn)])), (t1, .inl (cI, 8, .inl (fun j => nI (th j)))), (t2, .inl (cI, 8, .inl (fun j => nI (wi j)))), (t3, .inl (cI, 8, .inl (fun j => nI (wo j)))), (t4, .inl (cI, 8, .inl (fun j => nI (wn j)))), (a3, .inl (cI, ((side + 1) * (side + 1)), .inl (fun j => nI (F3 j)))), (a4, .inl (cI, ((side + 1) * (side + 1)), .inl (fun j => nI (F4 j)))), (r2, .inl (cI, side, .inl (fun j => nI (TR j)))), (r3, .inl (cJ, (side + 1), .inr (.inl (fun j => lI (((RC, SC).1) j))))), (r4, .inl (cI, side, .inl (fun j => iI (((RC, SC).2) j)))), (hp, .inr (4, [.ref p1, .ref p2, .ref p3, .int (nI tn), .int (nI ((layAll side kf cn tn th wi wo wn fb fl TR (0, g1, g2, g3, 0, 0) side).2.1)), .int (nI ((layAll side kf cn tn th wi wo wn fb fl TR (0, g1, g2, g3, 0, 0) side).2.2.1)), .int (iI ((layAll side kf cn tn th wi wo wn fb fl TR (0, g1, g2, g3, 0, 0) side).2.2.2.2.2.2.1)), .int (nI ((layAll side kf cn tn th wi wo wn fb fl TR (0, g1, g2, g3, 0, 0) side).2.2.2.2.2.2.2))])), (p1, .inl (cI, pn, .inl (fun j => nI (((layAll side kf cn tn th wi wo wn fb fl TR (0, g1, g2, g3, 0, 0) side).2.2.2.1) j)))), (p2, .inl (cI, pn, .inl (fun j => nI (((layAll side kf cn tn th wi wo wn fb fl TR (0, g1, g2, g3, 0, 0) side).2.2.2.2.1) j)))), (p3, .inl (cI, pn, .inl (fun j => nI (((layAll side kf cn tn th wi wo wn fb fl TR (0, g1, g2, g3, 0, 0) side).2.2.2.2.2.1) j))))]) [0, 1, 2, 3, 4, 5, 6, 7, 8, 9, 10, 11, 12, 16, 13, 14, 15] (by decide) rfl
        exact kretv (u := (RC, SC)) hx hb hr hP hD hS hlocks rfl (hC) d_Be_layOut_72
      · exfalso; omega
    | succ n ih =>
      intro r_ fr sl ct f1 f2 f3 v ce RC SC hi ee hfr hC H locs hP hD hS ls hl
      refine lv_iload_n hx hb d_Be_layOut_12 rfl (lv_at hl 0 rfl) ?_
      refine lv_aload_n hx hb d_Be_layOut_13 rfl (lv_at hl 2 rfl) ?_
      refine va_get (D := D) (ci := 1) (v := .int (nI side)) (C := R_Be) (T := T_Be) (N := 9) hx hb hts (fun w h => List.mem_cons_of_mem _ (iw_Be w h)) hown hK hP 0 rfl rfl 2 (by decide) (hts _ (List.mem_cons_of_mem _ k_109)) (fun _ h9 => h9) rfl d_Be_layOut_14 ?_
      refine kb_cge (tgt := 72) (nI_t (by omega)) (nI_t (by omega)) hx hb d_Be_layOut_17 (by decide) (fun c_17 => ?_) (fun c_17 => ?_)
      · exfalso; omega
      · have qT := hTR r_ (by omega)
        have es : (layAll side kf cn tn th wi wo wn fb fl TR (0, g1, g2, g3, 0, 0) (r_ + 1)) = allStep side kf cn tn th wi wo wn fb fl TR r_ (fr, sl, ct, f1, f2, f3, v, ce) := by
          rw [← ee]; rfl
        have qc : ct ≤ r_ * side := by
          have h9 := layAll_ct (side := side) (kf := kf) (cn := cn) (tn := tn) (th := th) (wi := wi) (wo := wo) (wn := wn) (fb := fb) (fl := fl) (TR := TR) (s0 := (0, g1, g2, g3, 0, 0)) rfl r_
          rw [ee] at h9
          exact h9
        refine lv_aload_n hx hb d_Be_layOut_20 rfl (lv_at hl 2 rfl) ?_
        refine va_get (D := D) (ci := 1) (v := .ref r2) (C := R_Be) (T := T_Be) (N := 9) hx hb hts (fun w h => List.mem_cons_of_mem _ (iw_Be w h)) hown hK hP 0 rfl rfl 6 (by decide) (hts _ (List.mem_cons_of_mem _ k_113)) (fun _ h9 => h9) rfl d_Be_layOut_21 ?_
        refine lv_iload_n hx hb d_Be_layOut_24 rfl (lv_at hl 0 rfl) ?_
        refine ka_iald (k := r_) (n := side) (f := fun j => nI (TR j)) (nI_t (by omega)) (by omega) hx hb hK hP 10 0 rfl rfl d_Be_layOut_25 ?_
        refine lv_istore (lv' := [(4, .int (nI (TR r_))), (3, .int (nI r_)), (2, .int (nI fr)), (0, .ref hb_), (1, .ref hp)]) hx hb d_Be_layOut_26 hl (by decide) rfl (fun ls hl => ?_)
        refine lv_iload_n hx hb d_Be_layOut_28 rfl (lv_at hl 1 rfl) ?_
        refine lv_iload_n hx hb d_Be_layOut_29 rfl (lv_at hl 2 rfl) ?_
        refine kb_clt (tgt := 66) (nI_t (by omega)) (nI_t (by omega)) hx hb d_Be_layOut_30 (by decide) (fun cl => ?_) (fun cl => ?_)
        · refine lv_iinc (v := nI (r_ + 1)) (lv' := [(3, .int (nI (r_ + 1))), (4, .int (nI (TR r_))), (2, .int (nI fr)), (0, .ref hb_), (1, .ref hp)]) hx hb d_Be_layOut_66 hl (k := 1) rfl (nI_add _ 1) (by decide) rfl (fun ls hl => ?_)
          refine lv_goto (tgt := 12) hx hb d_Be_layOut_69 (by decide) ?_
          exact ih (r_ + 1) fr sl ct f1 f2 f3 v ce RC SC (by omega) (by rw [es]; unfold allStep; rw [if_neg (fun h => by have h9 : fr ≤ r_ := h.1; omega)]) (by omega) hC _ _ hP hD hS ls (lv_sub hl [0, 2, 3, 4] rfl)
        · refine lv_iload hx hb d_Be_layOut_33 (lv_at hl 0 rfl) ?_
          refine kb_le (tgt := 66) (nI_t (by omega)) hx hb d_Be_layOut_35 (by decide) (fun cz => ?_) (fun cz => ?_)
          · refine lv_iinc (v := nI (r_ + 1)) (lv' := [(3, .int (nI (r_ + 1))), (4, .int (nI (TR r_))), (2, .int (nI fr)), (0, .ref hb_), (1, .ref hp)]) hx hb d_Be_layOut_66 hl (k := 1) rfl (nI_add _ 1) (by decide) rfl (fun ls hl => ?_)
            refine lv_goto (tgt := 12) hx hb d_Be_layOut_69 (by decide) ?_
            exact ih (r_ + 1) fr sl ct f1 f2 f3 v ce RC SC (by omega) (by rw [es]; unfold allStep; rw [if_neg (fun h => by have h9 := h.2; omega)]) (by omega) hC _ _ hP hD hS ls (lv_sub hl [0, 2, 3, 4] rfl)
          · refine lv_aload_n hx hb d_Be_layOut_38 rfl (lv_at hl 4 rfl) ?_
            refine lv_dup hx hb d_Be_layOut_39 rfl ?_
            refine va_get (D := D) (ci := 4) (v := .int (nI sl)) (C := R_Pa) (T := T_Pa) (N := 8) hx hb hts (fun w h => List.mem_cons_of_mem _ (iw_Pa w h)) hown hK hP 16 rfl rfl 4 (by decide) (hts _ (List.mem_cons_of_mem _ k_152)) (fun _ h9 => h9) rfl d_Be_layOut_40 ?_
            refine lv_iconst (v := nI 1) hx hb d_Be_layOut_43 (by decide +kernel) ?_
            refine lv_iadd hx hb d_Be_layOut_44 ?_
            refine ka_i (y := nI (sl + 1)) (nI_add _ _) ?_
            refine va_put (D := D) (ci := 4) (v := .int (nI (sl + 1))) (ty := .int) (C := R_Pa) (T := T_Pa) (N := 8) hx hb hts (fun w h => List.mem_cons_of_mem _ (iw_Pa w h)) ty_Pa tyok_Pa nm_Pa hown hK hP hD hS 16 rfl rfl 4 (by decide) (hts _ (List.mem_cons_of_mem _ k_152)) (fun _ h9 => h9) rfl (by decide +kernel) (rfl) (rfl) (Nat.le_of_ble_eq_true rfl) d_Be_layOut_45 (fun H locs hP hD hS => ?_)
            have hP : va_P D vwCl [(hb_, .inr (1, [.ref bo, .ref hz, .int (nI side), .int (nI kf), .int (nI tn), .ref r1, .ref r2, .ref r3, .ref r4])), (bo, .inr (2, [.ref hz, .ref h0])), (h0, .inr (3, [.int (nI side), .ref a1, .ref a2, .ref a3, .ref a4, .int (pI sm)])), (hz, .inr (5, [.ref t1, .ref t2, .ref t3, .ref t4, .int (nI cn)])), (t1, .inl (cI, 8, .inl (fun j => nI (th j)))), (t2, .inl (cI, 8, .inl (fun j => nI (wi j)))), (t3, .inl (cI, 8, .inl (fun j => nI (wo j)))), (t4, .inl (cI, 8, .inl (fun j => nI (wn j)))), (a3, .inl (cI, ((side + 1) * (side + 1)), .inl (fun j => nI (F3 j)))), (a4, .inl (cI, ((side + 1) * (side + 1)), .inl (fun j => nI (F4 j)))), (r2, .inl (cI, side, .inl (fun j => nI (TR j)))), (r3, .inl (cJ, (side + 1), .inr (.inl (fun j => lI (RC j))))), (r4, .inl (cI, side, .inl (fun j => iI (SC j)))), (p1, .inl (cI, pn, .inl (fun j => nI (f1 j)))), (p2, .inl (cI, pn, .inl (fun j => nI (f2 j)))), (p3, .inl (cI, pn, .inl (fun j => nI (f3 j)))), (hp, .inr (4, [.ref p1, .ref p2, .ref p3, .int (nI tn), .int (nI (sl + 1)), .int (nI ct), .int (iI v), .int (nI ce)]))] H := hP
            have hD : va_D A [(hb_, .inr (1, [.ref bo, .ref hz, .int (nI side), .int (nI kf), .int (nI tn), .ref r1, .ref r2, .ref r3, .ref r4])), (bo, .inr (2, [.ref hz, .ref h0])), (h0, .inr (3, [.int (nI side), .ref a1, .ref a2, .ref a3, .ref a4, .int (pI sm)])), (hz, .inr (5, [.ref t1, .ref t2, .ref t3, .ref t4, .int (nI cn)])), (t1, .inl (cI, 8, .inl (fun j => nI (th j)))), (t2, .inl (cI, 8, .inl (fun j => nI (wi j)))), (t3, .inl (cI, 8, .inl (fun j => nI (wo j)))), (t4, .inl (cI, 8, .inl (fun j => nI (wn j)))), (a3, .inl (cI, ((side + 1) * (side + 1)), .inl (fun j => nI (F3 j)))), (a4, .inl (cI, ((side + 1) * (side + 1)), .inl (fun j => nI (F4 j)))), (r2, .inl (cI, side, .inl (fun j => nI (TR j)))), (r3, .inl (cJ, (side + 1), .inr (.inl (fun j => lI (RC j))))), (r4, .inl (cI, side, .inl (fun j => iI (SC j)))), (p1, .inl (cI, pn, .inl (fun j => nI (f1 j)))), (p2, .inl (cI, pn, .inl (fun j => nI (f2 j)))), (p3, .inl (cI, pn, .inl (fun j => nI (f3 j)))), (hp, .inr (4, [.ref p1, .ref p2, .ref p3, .int (nI tn), .int (nI (sl + 1)), .int (nI ct), .int (iI v), .int (nI ce)]))] := hD
            refine lv_aload_n hx hb d_Be_layOut_48 rfl (lv_at hl 3 rfl) ?_
            refine lv_aload_n hx hb d_Be_layOut_49 rfl (lv_at hl 4 rfl) ?_
            refine lv_iload_n hx hb d_Be_layOut_50 rfl (lv_at hl 1 rfl) ?_
            refine lv_iload hx hb d_Be_layOut_51 (lv_at hl 0 rfl) ?_
            refine kcallv (wc := [(hb_, .inr (1, [.ref bo, .ref hz, .int (nI side), .int (nI kf), .int (nI tn), .ref r1, .ref r2, .ref r3, .ref r4])), (bo, .inr (2, [.ref hz, .ref h0])), (h0, .inr (3, [.int (nI side), .ref a1, .ref a2, .ref a3, .ref a4, .int (pI sm)])), (hz, .inr (5, [.ref t1, .ref t2, .ref t3, .ref t4, .int (nI cn)])), (t1, .inl (cI, 8, .inl (fun j => nI (th j)))), (t2, .inl (cI, 8, .inl (fun j => nI (wi j)))), (t3, .inl (cI, 8, .inl (fun j => nI (wo j)))), (t4, .inl (cI, 8, .inl (fun j => nI (wn j)))), (a3, .inl (cI, ((side + 1) * (side + 1)), .inl (fun j => nI (F3 j)))), (a4, .inl (cI, ((side + 1) * (side + 1)), .inl (fun j => nI (F4 j)))), (r3, .inl (cJ, (side + 1), .inr (.inl (fun j => lI (RC j))))), (r4, .inl (cI, side, .inl (fun j => iI (SC j)))), (hp, .inr (4, [.ref p1, .ref p2, .ref p3, .int (nI tn), .int (nI (sl + 1)), .int (nI ct), .int (iI v), .int (nI ce)])), (p1, .inl (cI, pn, .inl (fun j => nI (f1 j)))), (p2, .inl (cI, pn, .inl (fun j => nI (f2 j)))), (p3, .inl (cI, pn, .inl (fun j => nI (f3 j))))]) (wr := [(r2, .inl (cI, side, .inl (fun j => nI (TR j))))]) [0, 1, 2, 3, 4, 5, 6, 7, 8, 9, 11, 12, 16, 13, 14, 15] [10] (va_runV (As := [.ref hp, .int (nI r_), .int (nI (TR r_))]) (rest := []) ⟨hx, hb, hml, hown, hts⟩ (c_laySlab l D cI cJ cZ H.size hb_ bo hz side kf tn r1 r2 r3 r4 h0 a1 a2 a3 a4 sm t1 t2 t3 t4 cn th wi wo wn F3 F4 fb fl RC SC hp p1 p2 p3 tn (sl + 1) ct v ce pn f1 f2 f3 r_ (TR r_) s1 s2 k4 tn1 n8 ht hw hw1 ho hn m3 m4 hfb hfl (by omega) (by omega) hC hpn qc) ⟨callB_of 3 hts (gd kc_Be_layOutSlab) rfl rfl rfl (hts _ (List.mem_cons_of_mem _ k_6)) (hts _ (List.mem_cons_of_mem _ k_271)) (by decide +kernel) ⟨Nat.le_of_ble_eq_true rfl, Nat.le_of_ble_eq_true rfl⟩, hts _ (List.mem_cons_of_mem _ k_273), hts _ (List.mem_cons_of_mem _ ks_6)⟩ ⟨kB_blind, va_recv hK hP (ci := 1) (q0 := 0) rfl rfl, kB_at hP hD hK hZ [0, 1, 2, 3, 4, 5, 6, 7, 8, 9, 11, 12, 16, 13, 14, 15] rfl (by decide) rfl⟩ rfl rfl hl.1 rfl (lv_room (Nat.le_of_ble_eq_true rfl)) d_Be_layOut_53 ⟨Nat.zero_le _, Nat.zero_le _⟩) hP hD hS hA rfl rfl (by decide) (by decide) (fun u H locs hw_53 hP hD hS => ?_)
            have hP : va_P D vwCl [(r2, .inl (cI, side, .inl (fun j => nI (TR j)))), (hb_, .inr (1, [.ref bo, .ref hz, .int (nI side), .int (nI kf), .int (nI tn), .ref r1, .ref r2, .ref r3, .ref r4])), (bo, .inr (2, [.ref hz, .ref h0])), (h0, .inr (3, [.int (nI side), .ref a1, .ref a2, .ref a3, .ref a4, .int (pI sm)])), (hz, .inr (5, [.ref t1, .ref t2, .ref t3, .ref t4, .int (nI cn)])), (t1, .inl (cI, 8, .inl (fun j => nI (th j)))), (t2, .inl (cI, 8, .inl (fun j => nI (wi j)))), (t3, .inl (cI, 8, .inl (fun j => nI (wo j)))), (t4, .inl (cI, 8, .inl (fun j => nI (wn j)))), (a3, .inl (cI, ((side + 1) * (side + 1)), .inl (fun j => nI (F3 j)))), (a4, .inl (cI, ((side + 1) * (side + 1)), .inl (fun j => nI (F4 j)))), (r3, .inl (cJ, (side + 1), .inr (.inl (fun j => lI (u.1 j))))), (r4, .inl (cI, side, .inl (fun j => iI (u.2 j)))), (hp, .inr (4, [.ref p1, .ref p2, .ref p3, .int (nI tn), .int (nI (sl + 1)), .int (nI ((slabLay kf cn tn r_ th wi (vaC side fl th wi wo tn r_) (slab0 side kf (TR r_) th wi (okC side fb th wi wn tn r_) (vaC side fl th wi wo tn r_) cn).2 (ct, f1, f2, f3, v, ce) side).2.1)), .int (iI ((slabLay kf cn tn r_ th wi (vaC side fl th wi wo tn r_) (slab0 side kf (TR r_) th wi (okC side fb th wi wn tn r_) (vaC side fl th wi wo tn r_) cn).2 (ct, f1, f2, f3, v, ce) side).2.2.2.2.2.1)), .int (nI ((slabLay kf cn tn r_ th wi (vaC side fl th wi wo tn r_) (slab0 side kf (TR r_) th wi (okC side fb th wi wn tn r_) (vaC side fl th wi wo tn r_) cn).2 (ct, f1, f2, f3, v, ce) side).2.2.2.2.2.2))])), (p1, .inl (cI, pn, .inl (fun j => nI (((slabLay kf cn tn r_ th wi (vaC side fl th wi wo tn r_) (slab0 side kf (TR r_) th wi (okC side fb th wi wn tn r_) (vaC side fl th wi wo tn r_) cn).2 (ct, f1, f2, f3, v, ce) side).2.2.1) j)))), (p2, .inl (cI, pn, .inl (fun j => nI (((slabLay kf cn tn r_ th wi (vaC side fl th wi wo tn r_) (slab0 side kf (TR r_) th wi (okC side fb th wi wn tn r_) (vaC side fl th wi wo tn r_) cn).2 (ct, f1, f2, f3, v, ce) side).2.2.2.1) j)))), (p3, .inl (cI, pn, .inl (fun j => nI (((slabLay kf cn tn r_ th wi (vaC side fl th wi wo tn r_) (slab0 side kf (TR r_) th wi (okC side fb th wi wn tn r_) (vaC side fl th wi wo tn r_) cn).2 (ct, f1, f2, f3, v, ce) side).2.2.2.2.1) j))))] H := hP
            have hD : va_D A [(r2, .inl (cI, side, .inl (fun j => nI (TR j)))), (hb_, .inr (1, [.ref bo, .ref hz, .int (nI side), .int (nI kf), .int (nI tn), .ref r1, .ref r2, .ref r3, .ref r4])), (bo, .inr (2, [.ref hz, .ref h0])), (h0, .inr (3, [.int (nI side), .ref a1, .ref a2, .ref a3, .ref a4, .int (pI sm)])), (hz, .inr (5, [.ref t1, .ref t2, .ref t3, .ref t4, .int (nI cn)])), (t1, .inl (cI, 8, .inl (fun j => nI (th j)))), (t2, .inl (cI, 8, .inl (fun j => nI (wi j)))), (t3, .inl (cI, 8, .inl (fun j => nI (wo j)))), (t4, .inl (cI, 8, .inl (fun j => nI (wn j)))), (a3, .inl (cI, ((side + 1) * (side + 1)), .inl (fun j => nI (F3 j)))), (a4, .inl (cI, ((side + 1) * (side + 1)), .inl (fun j => nI (F4 j)))), (r3, .inl (cJ, (side + 1), .inr (.inl (fun j => lI (u.1 j))))), (r4, .inl (cI, side, .inl (fun j => iI (u.2 j)))), (hp, .inr (4, [.ref p1, .ref p2, .ref p3, .int (nI tn), .int (nI (sl + 1)), .int (nI ((slabLay kf cn tn r_ th wi (vaC side fl th wi wo tn r_) (slab0 side kf (TR r_) th wi (okC side fb th wi wn tn r_) (vaC side fl th wi wo tn r_) cn).2 (ct, f1, f2, f3, v, ce) side).2.1)), .int (iI ((slabLay kf cn tn r_ th wi (vaC side fl th wi wo tn r_) (slab0 side kf (TR r_) th wi (okC side fb th wi wn tn r_) (vaC side fl th wi wo tn r_) cn).2 (ct, f1, f2, f3, v, ce) side).2.2.2.2.2.1)), .int (nI ((slabLay kf cn tn r_ th wi (vaC side fl th wi wo tn r_) (slab0 side kf (TR r_) th wi (okC side fb th wi wn tn r_) (vaC side fl th wi wo tn r_) cn).2 (ct, f1, f2, f3, v, ce) side).2.2.2.2.2.2))])), (p1, .inl (cI, pn, .inl (fun j => nI (((slabLay kf cn tn r_ th wi (vaC side fl th wi wo tn r_) (slab0 side kf (TR r_) th wi (okC side fb th wi wn tn r_) (vaC side fl th wi wo tn r_) cn).2 (ct, f1, f2, f3, v, ce) side).2.2.1) j)))), (p2, .inl (cI, pn, .inl (fun j => nI (((slabLay kf cn tn r_ th wi (vaC side fl th wi wo tn r_) (slab0 side kf (TR r_) th wi (okC side fb th wi wn tn r_) (vaC side fl th wi wo tn r_) cn).2 (ct, f1, f2, f3, v, ce) side).2.2.2.1) j)))), (p3, .inl (cI, pn, .inl (fun j => nI (((slabLay kf cn tn r_ th wi (vaC side fl th wi wo tn r_) (slab0 side kf (TR r_) th wi (okC side fb th wi wn tn r_) (vaC side fl th wi wo tn r_) cn).2 (ct, f1, f2, f3, v, ce) side).2.2.2.2.1) j))))] := hD
            refine lv_iload_n hx hb d_Be_layOut_56 rfl (lv_at hl 1 rfl) ?_
            refine lv_iload hx hb d_Be_layOut_57 (lv_at hl 0 rfl) ?_
            refine lv_iadd hx hb d_Be_layOut_59 ?_
            refine ka_i (y := nI (r_ + (TR r_))) (nI_add _ _) ?_
            refine lv_aload_n hx hb d_Be_layOut_60 rfl (lv_at hl 3 rfl) ?_
            refine va_get (D := D) (ci := 1) (v := .int (nI kf)) (C := R_Be) (T := T_Be) (N := 9) hx hb hts (fun w h => List.mem_cons_of_mem _ (iw_Be w h)) hown hK hP 1 rfl rfl 3 (by decide) (hts _ (List.mem_cons_of_mem _ k_110)) (fun _ h9 => h9) rfl d_Be_layOut_61 ?_
            refine lv_iadd hx hb d_Be_layOut_64 ?_
            refine ka_i (y := nI ((r_ + (TR r_)) + kf)) (nI_add _ _) ?_
            refine lv_istore_n (lv' := [(2, .int (nI ((r_ + (TR r_)) + kf))), (4, .int (nI (TR r_))), (3, .int (nI r_)), (0, .ref hb_), (1, .ref hp)]) hx hb d_Be_layOut_65 rfl hl (by decide) rfl (fun ls hl => ?_)
            refine lv_iinc (v := nI (r_ + 1)) (lv' := [(3, .int (nI (r_ + 1))), (2, .int (nI ((r_ + (TR r_)) + kf))), (4, .int (nI (TR r_))), (0, .ref hb_), (1, .ref hp)]) hx hb d_Be_layOut_66 hl (k := 2) rfl (nI_add _ 1) (by decide) rfl (fun ls hl => ?_)
            refine lv_goto (tgt := 12) hx hb d_Be_layOut_69 (by decide) ?_
            exact ih (r_ + 1) (r_ + TR r_ + kf) (sl + 1) ((slabLay kf cn tn r_ th wi (vaC side fl th wi wo tn r_) (slab0 side kf (TR r_) th wi (okC side fb th wi wn tn r_) (vaC side fl th wi wo tn r_) cn).2 (ct, f1, f2, f3, v, ce) side).2.1) ((slabLay kf cn tn r_ th wi (vaC side fl th wi wo tn r_) (slab0 side kf (TR r_) th wi (okC side fb th wi wn tn r_) (vaC side fl th wi wo tn r_) cn).2 (ct, f1, f2, f3, v, ce) side).2.2.1) ((slabLay kf cn tn r_ th wi (vaC side fl th wi wo tn r_) (slab0 side kf (TR r_) th wi (okC side fb th wi wn tn r_) (vaC side fl th wi wo tn r_) cn).2 (ct, f1, f2, f3, v, ce) side).2.2.2.1) ((slabLay kf cn tn r_ th wi (vaC side fl th wi wo tn r_) (slab0 side kf (TR r_) th wi (okC side fb th wi wn tn r_) (vaC side fl th wi wo tn r_) cn).2 (ct, f1, f2, f3, v, ce) side).2.2.2.2.1) ((slabLay kf cn tn r_ th wi (vaC side fl th wi wo tn r_) (slab0 side kf (TR r_) th wi (okC side fb th wi wn tn r_) (vaC side fl th wi wo tn r_) cn).2 (ct, f1, f2, f3, v, ce) side).2.2.2.2.2.1) ((slabLay kf cn tn r_ th wi (vaC side fl th wi wo tn r_) (slab0 side kf (TR r_) th wi (okC side fb th wi wn tn r_) (vaC side fl th wi wo tn r_) cn).2 (ct, f1, f2, f3, v, ce) side).2.2.2.2.2.2) u.1 u.2 (by omega) (by rw [es]; unfold allStep; rw [if_pos ⟨by show fr ≤ r_; omega, by omega⟩]) (by omega) hw_53 _ _ (hP.sub [1, 2, 3, 4, 5, 6, 7, 8, 9, 10, 0, 11, 12, 14, 15, 16, 13] rfl) (hD.sub [1, 2, 3, 4, 5, 6, 7, 8, 9, 10, 0, 11, 12, 14, 15, 16, 13] (by decide) rfl) hS ls (lv_sub hl [0, 1, 3, 4] rfl)
  exact lp side 0 0 0 0 g1 g2 g3 0 0 RC SC (by omega) rfl (by omega) hR0 _ _ hP hD hS ls (lv_sub hl [0, 1, 2, 3] rfl)
end
section
theorem d_Be_valueOf_0 : decode b_Be_valueOf 0 = .ok (.lload_n 0, 1) := by decide +kernel
theorem d_Be_valueOf_1 : decode b_Be_valueOf 1 = .ok (.ldc2_w 43, 3) := by decide +kernel
theorem d_Be_valueOf_4 : decode b_Be_valueOf 4 = .ok (.ladd, 1) := by decide +kernel
theorem d_Be_valueOf_5 : decode b_Be_valueOf 5 = .ok (.lconst 1, 1) := by decide +kernel
theorem d_Be_valueOf_6 : decode b_Be_valueOf 6 = .ok (.lsub, 1) := by decide +kernel
theorem d_Be_valueOf_7 : decode b_Be_valueOf 7 = .ok (.ldc2_w 43, 3) := by decide +kernel
theorem d_Be_valueOf_10 : decode b_Be_valueOf 10 = .ok (.ldiv, 1) := by decide +kernel
theorem d_Be_valueOf_11 : decode b_Be_valueOf 11 = .ok (.l2i, 1) := by decide +kernel
theorem d_Be_valueOf_12 : decode b_Be_valueOf 12 = .ok (.ireturn, 1) := by decide +kernel
theorem d_SG_wood_0 : decode b_SG_wood 0 = .ok (.aload_n 0, 1) := by decide +kernel
theorem d_SG_wood_1 : decode b_SG_wood 1 = .ok (.getfield 27, 3) := by decide +kernel
theorem d_SG_wood_4 : decode b_SG_wood 4 = .ok (.invokevirtual 124, 3) := by decide +kernel
theorem d_SG_wood_7 : decode b_SG_wood 7 = .ok (.aload_n 0, 1) := by decide +kernel
theorem d_SG_wood_8 : decode b_SG_wood 8 = .ok (.getfield 27, 3) := by decide +kernel
theorem d_SG_wood_11 : decode b_SG_wood 11 = .ok (.invokevirtual 188, 3) := by decide +kernel
theorem d_SG_wood_14 : decode b_SG_wood 14 = .ok (.ireturn, 1) := by decide +kernel
theorem d_SG_run_0 : decode b_SG_run 0 = .ok (.aload_n 0, 1) := by decide +kernel
theorem d_SG_run_1 : decode b_SG_run 1 = .ok (.getfield 27, 3) := by decide +kernel
theorem d_SG_run_4 : decode b_SG_run 4 = .ok (.invokevirtual 124, 3) := by decide +kernel
theorem d_SG_run_7 : decode b_SG_run 7 = .ok (.aload_n 0, 1) := by decide +kernel
theorem d_SG_run_8 : decode b_SG_run 8 = .ok (.getfield 52, 3) := by decide +kernel
theorem d_SG_run_11 : decode b_SG_run 11 = .ok (.iconst 1, 1) := by decide +kernel
theorem d_SG_run_12 : decode b_SG_run 12 = .ok (.invokevirtual 127, 3) := by decide +kernel
theorem d_SG_run_15 : decode b_SG_run 15 = .ok (.lstore_n 1, 1) := by decide +kernel
theorem d_SG_run_16 : decode b_SG_run 16 = .ok (.aload_n 0, 1) := by decide +kernel
theorem d_SG_run_17 : decode b_SG_run 17 = .ok (.getfield 52, 3) := by decide +kernel
theorem d_SG_run_20 : decode b_SG_run 20 = .ok (.iconst 0, 1) := by decide +kernel
theorem d_SG_run_21 : decode b_SG_run 21 = .ok (.invokevirtual 127, 3) := by decide +kernel
theorem d_SG_run_24 : decode b_SG_run 24 = .ok (.lstore_n 3, 1) := by decide +kernel
theorem d_SG_run_25 : decode b_SG_run 25 = .ok (.lload_n 1, 1) := by decide +kernel
theorem d_SG_run_26 : decode b_SG_run 26 = .ok (.lload_n 3, 1) := by decide +kernel
theorem d_SG_run_27 : decode b_SG_run 27 = .ok (.lcmp, 1) := by decide +kernel
theorem d_SG_run_28 : decode b_SG_run 28 = .ok (.ifCond .le 12, 3) := by decide +kernel
theorem d_SG_run_31 : decode b_SG_run 31 = .ok (.aload_n 0, 1) := by decide +kernel
theorem d_SG_run_32 : decode b_SG_run 32 = .ok (.getfield 52, 3) := by decide +kernel
theorem d_SG_run_35 : decode b_SG_run 35 = .ok (.iconst 1, 1) := by decide +kernel
theorem d_SG_run_36 : decode b_SG_run 36 = .ok (.invokevirtual 127, 3) := by decide +kernel
theorem d_SG_run_39 : decode b_SG_run 39 = .ok (.pop2, 1) := by decide +kernel
theorem d_SG_run_40 : decode b_SG_run 40 = .ok (.aload_n 0, 1) := by decide +kernel
theorem d_SG_run_41 : decode b_SG_run 41 = .ok (.getfield 52, 3) := by decide +kernel
theorem d_SG_run_44 : decode b_SG_run 44 = .ok (.aload_n 0, 1) := by decide +kernel
theorem d_SG_run_45 : decode b_SG_run 45 = .ok (.getfield 59, 3) := by decide +kernel
theorem d_SG_run_48 : decode b_SG_run 48 = .ok (.invokevirtual 131, 3) := by decide +kernel
theorem d_SG_run_51 : decode b_SG_run 51 = .ok (.aload_n 0, 1) := by decide +kernel
theorem d_SG_run_52 : decode b_SG_run 52 = .ok (.iconst 1, 1) := by decide +kernel
theorem d_SG_run_53 : decode b_SG_run 53 = .ok (.putfield 78, 3) := by decide +kernel
theorem d_SG_run_56 : decode b_SG_run 56 = .ok (.aload_n 0, 1) := by decide +kernel
theorem d_SG_run_57 : decode b_SG_run 57 = .ok (.getfield 59, 3) := by decide +kernel
theorem d_SG_run_60 : decode b_SG_run 60 = .ok (.getfield 135, 3) := by decide +kernel
theorem d_SG_run_63 : decode b_SG_run 63 = .ok (.ireturn, 1) := by decide +kernel
theorem lI_n (n : Nat) : lI (n : Int) = lN n := (Int64.ofInt_eq_ofNat (n := n))
theorem lI_div {n m : Nat} (ha : n < 2 ^ 62) (hb : 0 < m) (hb2 : m < 2 ^ 62) : lI (n : Int) / lI (m : Int) = lI ((n / m : Nat) : Int) := by
  rw [lI_n, lI_n, lI_n]
  exact pk_lDiv (by omega) hb (by omega)
set_option maxHeartbeats 4000000 in
set_option maxRecDepth 100000 in
theorem c_valueOf (l : Launch) (D : va_G) (cI cJ cZ : ClassId) (z : Nat) (hz_ : z ≤ 1000000000000) : kRead l y_Be_valueOf w_Be_valueOf ({ frames := 0, cells := 0, slots := 0, locals := 0 }) D vwCl (tyL cI cJ cZ) [] [.long (lI (z : Int))] (.int (nI ((z + 999) / 1000))) := by
  refine Met.ofW (cc := b_Be_valueOf) (maxL := 2) (ret := (some (.int))) (by decide) rfl ?_
  intro p e s m args below meth c s₁ B hml hv
  obtain ⟨rfl, hP, hK, hZ⟩ := hv
  have hx := B.exec
  have hb := B.bytes
  have hr := B.returns
  have hts := atoms_spec (ws := w_Be_valueOf) B.pre
  have hown : s.vm.findClass R_Be = some m.cls := findClass_of_methodNamed B.named
  have hlocks := B.notSynchronized
  have hP : va_P D vwCl [] s.heap := hP
  have hl := lv_entry ([.long (lI (z : Int))]) (n := 2) (Nat.le_of_ble_eq_true rfl)
  rw [lg_entry_eq]
  generalize (lg_sl ([.long (lI (z : Int))]) ++ List.replicate (2 - (lg_sl ([.long (lI (z : Int))])).length) Slot.unset).toArray = ls at hl ⊢
  have hl : lv_has ls 2 [(0, .long (lI (z : Int)))] := hl
  refine lv_lload_n hx hb d_Be_valueOf_0 rfl (lv_at hl 0 rfl) ?_
  refine lv_ldc2 (v := (1000 : Int64)) hx hb hown (hts _ (List.mem_cons_of_mem _ k_261)) d_Be_valueOf_1 ?_
  refine ka_l (y := lI 1000) (by decide +kernel) ?_
  refine lv_ladd hx hb d_Be_valueOf_4 ?_
  refine ka_l (y := lI ((z : Int) + 1000)) (lI_add _ _) ?_
  refine lv_lconst (v := lI 1) hx hb d_Be_valueOf_5 (by decide +kernel) ?_
  refine lv_lsub hx hb d_Be_valueOf_6 ?_
  refine ka_l (y := lI (((z : Int) + 1000) - 1)) (lI_sub _ _) ?_
  refine ka_l (y := lI ((z + 999 : Nat) : Int)) (congrArg lI (by omega)) ?_
  refine lv_ldc2 (v := (1000 : Int64)) hx hb hown (hts _ (List.mem_cons_of_mem _ k_261)) d_Be_valueOf_7 ?_
  refine ka_l (y := lI 1000) (by decide +kernel) ?_
  refine ka_l (y := lI ((1000 : Nat) : Int)) (rfl) ?_
  refine lv_ldiv hx hb d_Be_valueOf_10 (by decide +kernel) ?_
  refine ka_l (y := lI (((z + 999) / 1000 : Nat) : Int)) (lI_div (by omega) (by omega) (by omega)) ?_
  refine lv_l2i (v := nI ((z + 999) / 1000)) hx hb d_Be_valueOf_11 (by rw [lI_n]; exact lN_i _) ?_
  exact krdi hx hb hr hlocks d_Be_valueOf_12
set_option maxHeartbeats 4000000 in
set_option maxRecDepth 100000 in
theorem c_wood (l : Launch) (D : va_G) (cI cJ cZ : ClassId) (sz : Nat) (hs : Nat) (kf : Nat) (h0 : Nat) (hz : Nat) (bo : Nat) (hb_ : Nat) (hp : Nat) (sw : Prop) (side : Nat) (a1 : Nat) (a2 : Nat) (a3 : Nat) (a4 : Nat) (sm : Prop) (IN : Nat → Prop) (LO : Nat → Nat) (F3 : Nat → Nat) (F4 : Nat → Nat) (t1 : Nat) (t2 : Nat) (t3 : Nat) (t4 : Nat) (cn : Nat) (th : Nat → Nat) (wi : Nat → Nat) (wo : Nat → Nat) (wn : Nat → Nat) (tn : Nat) (r1 : Nat) (r2 : Nat) (r3 : Nat) (r4 : Nat) (RR : Nat → Int) (TR : Nat → Nat) (RC : Nat → Int) (SC : Nat → Int) (p1 : Nat) (p2 : Nat) (p3 : Nat) (pt : Nat) (psl : Nat) (pc_ : Nat) (pv : Int) (pce : Nat) (pn : Nat) (g1 : Nat → Nat) (g2 : Nat → Nat) (g3 : Nat → Nat) (s1 : 1 ≤ side) (s2 : side ≤ 20) (k4 : kf ≤ 4) (tn1 : tn ≤ 1) (n8 : cn ≤ 8) (ht : ∀ k, k < 8 → th k ≤ 20) (hw : ∀ k, k < 8 → wi k ≤ 20) (hw1 : ∀ k, k < cn → 1 ≤ wi k) (ho : ∀ k, k < 8 → wo k ≤ 100000) (hn : ∀ k, k < 8 → wn k ≤ 400) (e3 : (∀ X, X ≤ side → F3 X = 0) ∧ ∀ Y, Y ≤ side → F3 (Y * (side + 1)) = 0) (e4 : (∀ X, X ≤ side → F4 X = 0) ∧ ∀ Y, Y ≤ side → F4 (Y * (side + 1)) = 0) (m3 : sm → ∀ X Y, X ≤ side → Y ≤ side → F3 (Y * (side + 1) + X) = psm (fbare side IN) X Y) (m4 : sm → ∀ X Y, X ≤ side → Y ≤ side → F4 (Y * (side + 1) + X) = psm (floss side LO) X Y) (hL : ∀ k, k < side * side → LO k ≤ 10000) (hRR0 : RR side = 0) (hR0 : RC side = 0) (hpn : pn = side * side) : Met l y_SG_wood w_SG_wood ({ frames := 2, cells := 0, slots := 0, locals := 48 }) (va_Pc [.ref hs] (kB D vwCl (tyL cI cJ cZ) sz [(hs, .inr (0, [.int (nI kf), .ref h0, .ref hz, .ref bo, .ref hb_, .ref hp, .int (pI sw)])), (h0, .inr (3, [.int (nI side), .ref a1, .ref a2, .ref a3, .ref a4, .int (pI sm)])), (a1, .inl (cZ, ((2 * side) * side), .inl (fun j => pI (IN j)))), (a2, .inl (cI, (side * side), .inl (fun j => nI (LO j)))), (a3, .inl (cI, ((side + 1) * (side + 1)), .inl (fun j => nI (F3 j)))), (a4, .inl (cI, ((side + 1) * (side + 1)), .inl (fun j => nI (F4 j)))), (hz, .inr (5, [.ref t1, .ref t2, .ref t3, .ref t4, .int (nI cn)])), (t1, .inl (cI, 8, .inl (fun j => nI (th j)))), (t2, .inl (cI, 8, .inl (fun j => nI (wi j)))), (t3, .inl (cI, 8, .inl (fun j => nI (wo j)))), (t4, .inl (cI, 8, .inl (fun j => nI (wn j)))), (bo, .inr (2, [.ref hz, .ref h0])), (hb_, .inr (1, [.ref bo, .ref hz, .int (nI side), .int (nI kf), .int (nI tn), .ref r1, .ref r2, .ref r3, .ref r4])), (r1, .inl (cJ, (side + 1), .inr (.inl (fun j => lI (RR j))))), (r2, .inl (cI, side, .inl (fun j => nI (TR j)))), (r3, .inl (cJ, (side + 1), .inr (.inl (fun j => lI (RC j))))), (r4, .inl (cI, side, .inl (fun j => iI (SC j)))), (hp, .inr (4, [.ref p1, .ref p2, .ref p3, .int (nI pt), .int (nI psl), .int (nI pc_), .int (iI pv), .int (nI pce)])), (p1, .inl (cI, pn, .inl (fun j => nI (g1 j)))), (p2, .inl (cI, pn, .inl (fun j => nI (g2 j)))), (p3, .inl (cI, pn, .inl (fun j => nI (g3 j))))])) (va_Qi (fun (r : Int32) (u : (Nat → Nat) × (Nat → Nat)) => r = iI (((side * side : Nat) : Int) - (rcs (fbare side IN) 0 0 side side : Int)) ∧ (∀ X Y, X ≤ side → Y ≤ side → u.1 (Y * (side + 1) + X) = psm (fbare side IN) X Y) ∧ ∀ X Y, X ≤ side → Y ≤ side → u.2 (Y * (side + 1) + X) = psm (floss side LO) X Y) (fun (u : (Nat → Nat) × (Nat → Nat)) t => kE D vwCl (va_A [(hs, .inr (0, [.int (nI kf), .ref h0, .ref hz, .ref bo, .ref hb_, .ref hp, .int (pI sw)])), (h0, .inr (3, [.int (nI side), .ref a1, .ref a2, .ref a3, .ref a4, .int (pI sm)])), (a1, .inl (cZ, ((2 * side) * side), .inl (fun j => pI (IN j)))), (a2, .inl (cI, (side * side), .inl (fun j => nI (LO j)))), (a3, .inl (cI, ((side + 1) * (side + 1)), .inl (fun j => nI (F3 j)))), (a4, .inl (cI, ((side + 1) * (side + 1)), .inl (fun j => nI (F4 j)))), (hz, .inr (5, [.ref t1, .ref t2, .ref t3, .ref t4, .int (nI cn)])), (t1, .inl (cI, 8, .inl (fun j => nI (th j)))), (t2, .inl (cI, 8, .inl (fun j => nI (wi j)))), (t3, .inl (cI, 8, .inl (fun j => nI (wo j)))), (t4, .inl (cI, 8, .inl (fun j => nI (wn j)))), (bo, .inr (2, [.ref hz, .ref h0])), (hb_, .inr (1, [.ref bo, .ref hz, .int (nI side), .int (nI kf), .int (nI tn), .ref r1, .ref r2, .ref r3, .ref r4])), (r1, .inl (cJ, (side + 1), .inr (.inl (fun j => lI (RR j))))), (r2, .inl (cI, side, .inl (fun j => nI (TR j)))), (r3, .inl (cJ, (side + 1), .inr (.inl (fun j => lI (RC j))))), (r4, .inl (cI, side, .inl (fun j => iI (SC j)))), (hp, .inr (4, [.ref p1, .ref p2, .ref p3, .int (nI pt), .int (nI psl), .int (nI pc_), .int (iI pv), .int (nI pce)])), (p1, .inl (cI, pn, .inl (fun j => nI (g1 j)))), (p2, .inl (cI, pn, .inl (fun j => nI (g2 j)))), (p3, .inl (cI, pn, .inl (fun j => nI (g3 j))))] sz) [(hs, .inr (0, [.int (nI kf), .ref h0, .ref hz, .ref bo, .ref hb_, .ref hp, .int (pI sw)])), (h0, .inr (3, [.int (nI side), .ref a1, .ref a2, .ref a3, .ref a4, .int (pI True)])), (a1, .inl (cZ, ((2 * side) * side), .inl (fun j => pI (IN j)))), (a2, .inl (cI, (side * side), .inl (fun j => nI (LO j)))), (a3, .inl (cI, ((side + 1) * (side + 1)), .inl (fun j => nI (u.1 j)))), (a4, .inl (cI, ((side + 1) * (side + 1)), .inl (fun j => nI (u.2 j)))), (hz, .inr (5, [.ref t1, .ref t2, .ref t3, .ref t4, .int (nI cn)])), (t1, .inl (cI, 8, .inl (fun j => nI (th j)))), (t2, .inl (cI, 8, .inl (fun j => nI (wi j)))), (t3, .inl (cI, 8, .inl (fun j => nI (wo j)))), (t4, .inl (cI, 8, .inl (fun j => nI (wn j)))), (bo, .inr (2, [.ref hz, .ref h0])), (hb_, .inr (1, [.ref bo, .ref hz, .int (nI side), .int (nI kf), .int (nI tn), .ref r1, .ref r2, .ref r3, .ref r4])), (r1, .inl (cJ, (side + 1), .inr (.inl (fun j => lI (RR j))))), (r2, .inl (cI, side, .inl (fun j => nI (TR j)))), (r3, .inl (cJ, (side + 1), .inr (.inl (fun j => lI (RC j))))), (r4, .inl (cI, side, .inl (fun j => iI (SC j)))), (hp, .inr (4, [.ref p1, .ref p2, .ref p3, .int (nI pt), .int (nI psl), .int (nI pc_), .int (iI pv), .int (nI pce)])), (p1, .inl (cI, pn, .inl (fun j => nI (g1 j)))), (p2, .inl (cI, pn, .inl (fun j => nI (g2 j)))), (p3, .inl (cI, pn, .inl (fun j => nI (g3 j))))] t) (va_A [(hs, .inr (0, [.int (nI kf), .ref h0, .ref hz, .ref bo, .ref hb_, .ref hp, .int (pI sw)])), (h0, .inr (3, [.int (nI side), .ref a1, .ref a2, .ref a3, .ref a4, .int (pI sm)])), (a1, .inl (cZ, ((2 * side) * side), .inl (fun j => pI (IN j)))), (a2, .inl (cI, (side * side), .inl (fun j => nI (LO j)))), (a3, .inl (cI, ((side + 1) * (side + 1)), .inl (fun j => nI (F3 j)))), (a4, .inl (cI, ((side + 1) * (side + 1)), .inl (fun j => nI (F4 j)))), (hz, .inr (5, [.ref t1, .ref t2, .ref t3, .ref t4, .int (nI cn)])), (t1, .inl (cI, 8, .inl (fun j => nI (th j)))), (t2, .inl (cI, 8, .inl (fun j => nI (wi j)))), (t3, .inl (cI, 8, .inl (fun j => nI (wo j)))), (t4, .inl (cI, 8, .inl (fun j => nI (wn j)))), (bo, .inr (2, [.ref hz, .ref h0])), (hb_, .inr (1, [.ref bo, .ref hz, .int (nI side), .int (nI kf), .int (nI tn), .ref r1, .ref r2, .ref r3, .ref r4])), (r1, .inl (cJ, (side + 1), .inr (.inl (fun j => lI (RR j))))), (r2, .inl (cI, side, .inl (fun j => nI (TR j)))), (r3, .inl (cJ, (side + 1), .inr (.inl (fun j => lI (RC j))))), (r4, .inl (cI, side, .inl (fun j => iI (SC j)))), (hp, .inr (4, [.ref p1, .ref p2, .ref p3, .int (nI pt), .int (nI psl), .int (nI pc_), .int (iI pv), .int (nI pce)])), (p1, .inl (cI, pn, .inl (fun j => nI (g1 j)))), (p2, .inl (cI, pn, .inl (fun j => nI (g2 j)))), (p3, .inl (cI, pn, .inl (fun j => nI (g3 j))))] sz)) 0 0 (va_A [(hs, .inr (0, [.int (nI kf), .ref h0, .ref hz, .ref bo, .ref hb_, .ref hp, .int (pI sw)])), (h0, .inr (3, [.int (nI side), .ref a1, .ref a2, .ref a3, .ref a4, .int (pI sm)])), (a1, .inl (cZ, ((2 * side) * side), .inl (fun j => pI (IN j)))), (a2, .inl (cI, (side * side), .inl (fun j => nI (LO j)))), (a3, .inl (cI, ((side + 1) * (side + 1)), .inl (fun j => nI (F3 j)))), (a4, .inl (cI, ((side + 1) * (side + 1)), .inl (fun j => nI (F4 j)))), (hz, .inr (5, [.ref t1, .ref t2, .ref t3, .ref t4, .int (nI cn)])), (t1, .inl (cI, 8, .inl (fun j => nI (th j)))), (t2, .inl (cI, 8, .inl (fun j => nI (wi j)))), (t3, .inl (cI, 8, .inl (fun j => nI (wo j)))), (t4, .inl (cI, 8, .inl (fun j => nI (wn j)))), (bo, .inr (2, [.ref hz, .ref h0])), (hb_, .inr (1, [.ref bo, .ref hz, .int (nI side), .int (nI kf), .int (nI tn), .ref r1, .ref r2, .ref r3, .ref r4])), (r1, .inl (cJ, (side + 1), .inr (.inl (fun j => lI (RR j))))), (r2, .inl (cI, side, .inl (fun j => nI (TR j)))), (r3, .inl (cJ, (side + 1), .inr (.inl (fun j => lI (RC j))))), (r4, .inl (cI, side, .inl (fun j => iI (SC j)))), (hp, .inr (4, [.ref p1, .ref p2, .ref p3, .int (nI pt), .int (nI psl), .int (nI pc_), .int (iI pv), .int (nI pce)])), (p1, .inl (cI, pn, .inl (fun j => nI (g1 j)))), (p2, .inl (cI, pn, .inl (fun j => nI (g2 j)))), (p3, .inl (cI, pn, .inl (fun j => nI (g3 j))))] sz) := by
  refine Met.ofW (cc := b_SG_wood) (maxL := 1) (ret := (some (.int))) (by decide) rfl ?_
  intro p e s m args below meth c s₁ B hml hv
  obtain ⟨rfl, hsz, hP, hK, hD0, hZ⟩ := hv
  have hx := B.exec
  have hb := B.bytes
  have hr := B.returns
  have hts := atoms_spec (ws := w_SG_wood) B.pre
  have hown : s.vm.findClass R_SG = some m.cls := findClass_of_methodNamed B.named
  have hlocks := B.notSynchronized
  subst hsz
  have hD := hD0.self (sz := s.heap.size)
  generalize hAe : va_A [(hs, .inr (0, [.int (nI kf), .ref h0, .ref hz, .ref bo, .ref hb_, .ref hp, .int (pI sw)])), (h0, .inr (3, [.int (nI side), .ref a1, .ref a2, .ref a3, .ref a4, .int (pI sm)])), (a1, .inl (cZ, ((2 * side) * side), .inl (fun j => pI (IN j)))), (a2, .inl (cI, (side * side), .inl (fun j => nI (LO j)))), (a3, .inl (cI, ((side + 1) * (side + 1)), .inl (fun j => nI (F3 j)))), (a4, .inl (cI, ((side + 1) * (side + 1)), .inl (fun j => nI (F4 j)))), (hz, .inr (5, [.ref t1, .ref t2, .ref t3, .ref t4, .int (nI cn)])), (t1, .inl (cI, 8, .inl (fun j => nI (th j)))), (t2, .inl (cI, 8, .inl (fun j => nI (wi j)))), (t3, .inl (cI, 8, .inl (fun j => nI (wo j)))), (t4, .inl (cI, 8, .inl (fun j => nI (wn j)))), (bo, .inr (2, [.ref hz, .ref h0])), (hb_, .inr (1, [.ref bo, .ref hz, .int (nI side), .int (nI kf), .int (nI tn), .ref r1, .ref r2, .ref r3, .ref r4])), (r1, .inl (cJ, (side + 1), .inr (.inl (fun j => lI (RR j))))), (r2, .inl (cI, side, .inl (fun j => nI (TR j)))), (r3, .inl (cJ, (side + 1), .inr (.inl (fun j => lI (RC j))))), (r4, .inl (cI, side, .inl (fun j => iI (SC j)))), (hp, .inr (4, [.ref p1, .ref p2, .ref p3, .int (nI pt), .int (nI psl), .int (nI pc_), .int (iI pv), .int (nI pce)])), (p1, .inl (cI, pn, .inl (fun j => nI (g1 j)))), (p2, .inl (cI, pn, .inl (fun j => nI (g2 j)))), (p3, .inl (cI, pn, .inl (fun j => nI (g3 j))))] s.heap.size = A at hD ⊢
  have hA : ∀ q : Nat, s.heap.size ≤ q → A q := fun q h => by rw [← hAe]; exact Or.inr h
  have hS : va_S A s.heap s.heap [] := va_S.rf
  have hP : va_P D vwCl [(hs, .inr (0, [.int (nI kf), .ref h0, .ref hz, .ref bo, .ref hb_, .ref hp, .int (pI sw)])), (h0, .inr (3, [.int (nI side), .ref a1, .ref a2, .ref a3, .ref a4, .int (pI sm)])), (a1, .inl (cZ, ((2 * side) * side), .inl (fun j => pI (IN j)))), (a2, .inl (cI, (side * side), .inl (fun j => nI (LO j)))), (a3, .inl (cI, ((side + 1) * (side + 1)), .inl (fun j => nI (F3 j)))), (a4, .inl (cI, ((side + 1) * (side + 1)), .inl (fun j => nI (F4 j)))), (hz, .inr (5, [.ref t1, .ref t2, .ref t3, .ref t4, .int (nI cn)])), (t1, .inl (cI, 8, .inl (fun j => nI (th j)))), (t2, .inl (cI, 8, .inl (fun j => nI (wi j)))), (t3, .inl (cI, 8, .inl (fun j => nI (wo j)))), (t4, .inl (cI, 8, .inl (fun j => nI (wn j)))), (bo, .inr (2, [.ref hz, .ref h0])), (hb_, .inr (1, [.ref bo, .ref hz, .int (nI side), .int (nI kf), .int (nI tn), .ref r1, .ref r2, .ref r3, .ref r4])), (r1, .inl (cJ, (side + 1), .inr (.inl (fun j => lI (RR j))))), (r2, .inl (cI, side, .inl (fun j => nI (TR j)))), (r3, .inl (cJ, (side + 1), .inr (.inl (fun j => lI (RC j))))), (r4, .inl (cI, side, .inl (fun j => iI (SC j)))), (hp, .inr (4, [.ref p1, .ref p2, .ref p3, .int (nI pt), .int (nI psl), .int (nI pc_), .int (iI pv), .int (nI pce)])), (p1, .inl (cI, pn, .inl (fun j => nI (g1 j)))), (p2, .inl (cI, pn, .inl (fun j => nI (g2 j)))), (p3, .inl (cI, pn, .inl (fun j => nI (g3 j))))] s.heap := hP
  have hl := lv_entry ([.ref hs]) (n := 1) (Nat.le_of_ble_eq_true rfl)
  rw [lg_entry_eq]
  generalize (lg_sl ([.ref hs]) ++ List.replicate (1 - (lg_sl ([.ref hs])).length) Slot.unset).toArray = ls at hl ⊢
  have hl : lv_has ls 1 [(0, .ref hs)] := hl
  refine lv_aload_n hx hb d_SG_wood_0 rfl (lv_at hl 0 rfl) ?_
  refine va_get (D := D) (ci := 0) (v := .ref h0) (C := R_SG) (T := T_SG) (N := 7) hx hb hts (fun w h => List.mem_cons_of_mem _ (iw_SG w h)) hown hK hP 0 rfl rfl 1 (by decide) (hts _ (List.mem_cons_of_mem _ k_179)) (fun _ h9 => h9) rfl d_SG_wood_1 ?_
  refine kcallv (wc := [(h0, .inr (3, [.int (nI side), .ref a1, .ref a2, .ref a3, .ref a4, .int (pI sm)])), (a1, .inl (cZ, ((2 * side) * side), .inl (fun j => pI (IN j)))), (a2, .inl (cI, (side * side), .inl (fun j => nI (LO j)))), (a3, .inl (cI, ((side + 1) * (side + 1)), .inl (fun j => nI (F3 j)))), (a4, .inl (cI, ((side + 1) * (side + 1)), .inl (fun j => nI (F4 j))))]) (wr := [(hs, .inr (0, [.int (nI kf), .ref h0, .ref hz, .ref bo, .ref hb_, .ref hp, .int (pI sw)])), (hz, .inr (5, [.ref t1, .ref t2, .ref t3, .ref t4, .int (nI cn)])), (t1, .inl (cI, 8, .inl (fun j => nI (th j)))), (t2, .inl (cI, 8, .inl (fun j => nI (wi j)))), (t3, .inl (cI, 8, .inl (fun j => nI (wo j)))), (t4, .inl (cI, 8, .inl (fun j => nI (wn j)))), (bo, .inr (2, [.ref hz, .ref h0])), (hb_, .inr (1, [.ref bo, .ref hz, .int (nI side), .int (nI kf), .int (nI tn), .ref r1, .ref r2, .ref r3, .ref r4])), (r1, .inl (cJ, (side + 1), .inr (.inl (fun j => lI (RR j))))), (r2, .inl (cI, side, .inl (fun j => nI (TR j)))), (r3, .inl (cJ, (side + 1), .inr (.inl (fun j => lI (RC j))))), (r4, .inl (cI, side, .inl (fun j => iI (SC j)))), (hp, .inr (4, [.ref p1, .ref p2, .ref p3, .int (nI pt), .int (nI psl), .int (nI pc_), .int (iI pv), .int (nI pce)])), (p1, .inl (cI, pn, .inl (fun j => nI (g1 j)))), (p2, .inl (cI, pn, .inl (fun j => nI (g2 j)))), (p3, .inl (cI, pn, .inl (fun j => nI (g3 j))))]) [1, 2, 3, 4, 5] [0, 6, 7, 8, 9, 10, 11, 12, 13, 14, 15, 16, 17, 18, 19, 20] (va_runV (As := []) (rest := []) ⟨hx, hb, hml, hown, hts⟩ (c_sumUp l D cI cJ cZ s.heap.size h0 side a1 a2 a3 a4 sm IN LO F3 F4 s2 e3 e4 m3 m4) ⟨callB_of 0 hts (gd kc_Lo_sumUp) rfl rfl rfl (hts _ (List.mem_cons_of_mem _ k_3)) (hts _ (List.mem_cons_of_mem _ k_204)) (by decide +kernel) ⟨Nat.le_of_ble_eq_true rfl, Nat.le_of_ble_eq_true rfl⟩, hts _ (List.mem_cons_of_mem _ k_205), hts _ (List.mem_cons_of_mem _ k_206)⟩ ⟨kB_blind, va_recv hK hP (ci := 3) (q0 := 1) rfl rfl, kB_at hP hD hK hZ [1, 2, 3, 4, 5] rfl (by decide) rfl⟩ rfl rfl hl.1 rfl (lv_room (Nat.le_of_ble_eq_true rfl)) d_SG_wood_4 ⟨Nat.zero_le _, Nat.zero_le _⟩) hP hD hS hA rfl rfl (by decide) (by decide) (fun u H locs hw_4 hP hD hS => ?_)
  have hP : va_P D vwCl [(hs, .inr (0, [.int (nI kf), .ref h0, .ref hz, .ref bo, .ref hb_, .ref hp, .int (pI sw)])), (hz, .inr (5, [.ref t1, .ref t2, .ref t3, .ref t4, .int (nI cn)])), (t1, .inl (cI, 8, .inl (fun j => nI (th j)))), (t2, .inl (cI, 8, .inl (fun j => nI (wi j)))), (t3, .inl (cI, 8, .inl (fun j => nI (wo j)))), (t4, .inl (cI, 8, .inl (fun j => nI (wn j)))), (bo, .inr (2, [.ref hz, .ref h0])), (hb_, .inr (1, [.ref bo, .ref hz, .int (nI side), .int (nI kf), .int (nI tn), .ref r1, .ref r2, .ref r3, .ref r4])), (r1, .inl (cJ, (side + 1), .inr (.inl (fun j => lI (RR j))))), (r2, .inl (cI, side, .inl (fun j => nI (TR j)))), (r3, .inl (cJ, (side + 1), .inr (.inl (fun j => lI (RC j))))), (r4, .inl (cI, side, .inl (fun j => iI (SC j)))), (hp, .inr (4, [.ref p1, .ref p2, .ref p3, .int (nI pt), .int (nI psl), .int (nI pc_), .int (iI pv), .int (nI pce)])), (p1, .inl (cI, pn, .inl (fun j => nI (g1 j)))), (p2, .inl (cI, pn, .inl (fun j => nI (g2 j)))), (p3, .inl (cI, pn, .inl (fun j => nI (g3 j)))), (h0, .inr (3, [.int (nI side), .ref a1, .ref a2, .ref a3, .ref a4, .int (pI True)])), (a1, .inl (cZ, ((2 * side) * side), .inl (fun j => pI (IN j)))), (a2, .inl (cI, (side * side), .inl (fun j => nI (LO j)))), (a3, .inl (cI, ((side + 1) * (side + 1)), .inl (fun j => nI (u.1 j)))), (a4, .inl (cI, ((side + 1) * (side + 1)), .inl (fun j => nI (u.2 j))))] H := hP
  have hD : va_D A [(hs, .inr (0, [.int (nI kf), .ref h0, .ref hz, .ref bo, .ref hb_, .ref hp, .int (pI sw)])), (hz, .inr (5, [.ref t1, .ref t2, .ref t3, .ref t4, .int (nI cn)])), (t1, .inl (cI, 8, .inl (fun j => nI (th j)))), (t2, .inl (cI, 8, .inl (fun j => nI (wi j)))), (t3, .inl (cI, 8, .inl (fun j => nI (wo j)))), (t4, .inl (cI, 8, .inl (fun j => nI (wn j)))), (bo, .inr (2, [.ref hz, .ref h0])), (hb_, .inr (1, [.ref bo, .ref hz, .int (nI side), .int (nI kf), .int (nI tn), .ref r1, .ref r2, .ref r3, .ref r4])), (r1, .inl (cJ, (side + 1), .inr (.inl (fun j => lI (RR j))))), (r2, .inl (cI, side, .inl (fun j => nI (TR j)))), (r3, .inl (cJ, (side + 1), .inr (.inl (fun j => lI (RC j))))), (r4, .inl (cI, side, .inl (fun j => iI (SC j)))), (hp, .inr (4, [.ref p1, .ref p2, .ref p3, .int (nI pt), .int (nI psl), .int (nI pc_), .int (iI pv), .int (nI pce)])), (p1, .inl (cI, pn, .inl (fun j => nI (g1 j)))), (p2, .inl (cI, pn, .inl (fun j => nI (g2 j)))), (p3, .inl (cI, pn, .inl (fun j => nI (g3 j)))), (h0, .inr (3, [.int (nI side), .ref a1, .ref a2, .ref a3, .ref a4, .int (pI True)])), (a1, .inl (cZ, ((2 * side) * side), .inl (fun j => pI (IN j)))), (a2, .inl (cI, (side * side), .inl (fun j => nI (LO j)))), (a3, .inl (cI, ((side + 1) * (side + 1)), .inl (fun j => nI (u.1 j)))), (a4, .inl (cI, ((side + 1) * (side + 1)), .inl (fun j => nI (u.2 j))))] := hD
  refine lv_aload_n hx hb d_SG_wood_7 rfl (lv_at hl 0 rfl) ?_
  refine va_get (D := D) (ci := 0) (v := .ref h0) (C := R_SG) (T := T_SG) (N := 7) hx hb hts (fun w h => List.mem_cons_of_mem _ (iw_SG w h)) hown hK hP 0 rfl rfl 1 (by decide) (hts _ (List.mem_cons_of_mem _ k_179)) (fun _ h9 => h9) rfl d_SG_wood_8 ?_
  refine kcallR (r := .int (iI (((side * side : Nat) : Int) - (rcs (fbare side IN) 0 0 side side : Int)))) (va_runV (As := []) (rest := []) ⟨hx, hb, hml, hown, hts⟩ (c_woodCells l D cI cJ cZ h0 side a1 a2 a3 a4 True u.1 (fbare side IN) (by omega) hw_4.1 (fbare_le side IN)) ⟨callB_of 0 hts (gd kc_Lo_woodCells) rfl rfl rfl (hts _ (List.mem_cons_of_mem _ k_3)) (hts _ (List.mem_cons_of_mem _ k_294)) (by decide +kernel) ⟨Nat.le_of_ble_eq_true rfl, Nat.le_of_ble_eq_true rfl⟩, hts _ (List.mem_cons_of_mem _ k_295), hts _ (List.mem_cons_of_mem _ k_296)⟩ ⟨kR_blind, va_recv hK hP (ci := 3) (q0 := 16) rfl rfl, kR_at hP hK hZ [16, 19] rfl⟩ rfl rfl hl.1 rfl (lv_room (Nat.le_of_ble_eq_true rfl)) d_SG_wood_11 ⟨Nat.zero_le _, Nat.zero_le _⟩) ?_
  have hP := hP.sub (ws' := [(hs, .inr (0, [.int (nI kf), .ref h0, .ref hz, .ref bo, .ref hb_, .ref hp, .int (pI sw)])), (h0, .inr (3, [.int (nI side), .ref a1, .ref a2, .ref a3, .ref a4, .int (pI True)])), (a1, .inl (cZ, ((2 * side) * side), .inl (fun j => pI (IN j)))), (a2, .inl (cI, (side * side), .inl (fun j => nI (LO j)))), (a3, .inl (cI, ((side + 1) * (side + 1)), .inl (fun j => nI (u.1 j)))), (a4, .inl (cI, ((side + 1) * (side + 1)), .inl (fun j => nI (u.2 j)))), (hz, .inr (5, [.ref t1, .ref t2, .ref t3, .ref t4, .int (nI cn)])), (t1, .inl (cI, 8, .inl (fun j => nI (th j)))), (t2, .inl (cI, 8, .inl (fun j => nI (wi j)))), (t3, .inl (cI, 8, .inl (fun j => nI (wo j)))), (t4, .inl (cI, 8, .inl (fun j => nI (wn j)))), (bo, .inr (2, [.ref hz, .ref h0])), (hb_, .inr (1, [.ref bo, .ref hz, .int (nI side), .int (nI kf), .int (nI tn), .ref r1, .ref r2, .ref r3, .ref r4])), (r1, .inl (cJ, (side + 1), .inr (.inl (fun j => lI (RR j))))), (r2, .inl (cI, side, .inl (fun j => nI (TR j)))), (r3, .inl (cJ, (side + 1), .inr (.inl (fun j => lI (RC j))))), (r4, .inl (cI, side, .inl (fun j => iI (SC j)))), (hp, .inr (4, [.ref p1, .ref p2, .ref p3, .int (nI pt), .int (nI psl), .int (nI pc_), .int (iI pv), .int (nI pce)])), (p1, .inl (cI, pn, .inl (fun j => nI (g1 j)))), (p2, .inl (cI, pn, .inl (fun j => nI (g2 j)))), (p3, .inl (cI, pn, .inl (fun j => nI (g3 j))))]) [0, 16, 17, 18, 19, 20, 1, 2, 3, 4, 5, 6, 7, 8, 9, 10, 11, 12, 13, 14, 15] rfl
  have hD := hD.sub (ws' := [(hs, .inr (0, [.int (nI kf), .ref h0, .ref hz, .ref bo, .ref hb_, .ref hp, .int (pI sw)])), (h0, .inr (3, [.int (nI side), .ref a1, .ref a2, .ref a3, .ref a4, .int (pI True)])), (a1, .inl (cZ, ((2 * side) * side), .inl (fun j => pI (IN j)))), (a2, .inl (cI, (side * side), .inl (fun j => nI (LO j)))), (a3, .inl (cI, ((side + 1) * (side + 1)), .inl (fun j => nI (u.1 j)))), (a4, .inl (cI, ((side + 1) * (side + 1)), .inl (fun j => nI (u.2 j)))), (hz, .inr (5, [.ref t1, .ref t2, .ref t3, .ref t4, .int (nI cn)])), (t1, .inl (cI, 8, .inl (fun j => nI (th j)))), (t2, .inl (cI, 8, .inl (fun j => nI (wi j)))), (t3, .inl (cI, 8, .inl (fun j => nI (wo j)))), (t4, .inl (cI, 8, .inl (fun j => nI (wn j)))), (bo, .inr (2, [.ref hz, .ref h0])), (hb_, .inr (1, [.ref bo, .ref hz, .int (nI side), .int (nI kf), .int (nI tn), .ref r1, .ref r2, .ref r3, .ref r4])), (r1, .inl (cJ, (side + 1), .inr (.inl (fun j => lI (RR j))))), (r2, .inl (cI, side, .inl (fun j => nI (TR j)))), (r3, .inl (cJ, (side + 1), .inr (.inl (fun j => lI (RC j))))), (r4, .inl (cI, side, .inl (fun j => iI (SC j)))), (hp, .inr (4, [.ref p1, .ref p2, .ref p3, .int (nI pt), .int (nI psl), .int (nI pc_), .int (iI pv), .int (nI pce)])), (p1, .inl (cI, pn, .inl (fun j => nI (g1 j)))), (p2, .inl (cI, pn, .inl (fun j => nI (g2 j)))), (p3, .inl (cI, pn, .inl (fun j => nI (g3 j))))]) [0, 16, 17, 18, 19, 20, 1, 2, 3, 4, 5, 6, 7, 8, 9, 10, 11, 12, 13, 14, 15] (by decide) rfl
  exact kreti (u := u) hx hb hr hP hD hS hlocks rfl (⟨rfl, hw_4⟩) d_SG_wood_14
set_option maxHeartbeats 4000000 in
set_option maxRecDepth 100000 in
theorem c_run (l : Launch) (D : va_G) (cI cJ cZ : ClassId) (sz : Nat) (hs : Nat) (kf : Nat) (h0 : Nat) (hz : Nat) (bo : Nat) (hb_ : Nat) (hp : Nat) (sw : Prop) (side : Nat) (a1 : Nat) (a2 : Nat) (a3 : Nat) (a4 : Nat) (sm : Prop) (IN : Nat → Prop) (LO : Nat → Nat) (F3 : Nat → Nat) (F4 : Nat → Nat) (t1 : Nat) (t2 : Nat) (t3 : Nat) (t4 : Nat) (cn : Nat) (th : Nat → Nat) (wi : Nat → Nat) (wo : Nat → Nat) (wn : Nat → Nat) (tn : Nat) (r1 : Nat) (r2 : Nat) (r3 : Nat) (r4 : Nat) (RR : Nat → Int) (TR : Nat → Nat) (RC : Nat → Int) (SC : Nat → Int) (p1 : Nat) (p2 : Nat) (p3 : Nat) (pt : Nat) (psl : Nat) (pc_ : Nat) (pv : Int) (pce : Nat) (pn : Nat) (g1 : Nat → Nat) (g2 : Nat → Nat) (g3 : Nat → Nat) (s1 : 1 ≤ side) (s2 : side ≤ 20) (k4 : kf ≤ 4) (tn1 : tn ≤ 1) (n8 : cn ≤ 8) (ht : ∀ k, k < 8 → th k ≤ 20) (hw : ∀ k, k < 8 → wi k ≤ 20) (hw1 : ∀ k, k < cn → 1 ≤ wi k) (ho : ∀ k, k < 8 → wo k ≤ 100000) (hn : ∀ k, k < 8 → wn k ≤ 400) (e3 : (∀ X, X ≤ side → F3 X = 0) ∧ ∀ Y, Y ≤ side → F3 (Y * (side + 1)) = 0) (e4 : (∀ X, X ≤ side → F4 X = 0) ∧ ∀ Y, Y ≤ side → F4 (Y * (side + 1)) = 0) (m3 : sm → ∀ X Y, X ≤ side → Y ≤ side → F3 (Y * (side + 1) + X) = psm (fbare side IN) X Y) (m4 : sm → ∀ X Y, X ≤ side → Y ≤ side → F4 (Y * (side + 1) + X) = psm (floss side LO) X Y) (hL : ∀ k, k < side * side → LO k ≤ 10000) (hRR0 : RR side = 0) (hR0 : RC side = 0) (hpn : pn = side * side) : Met l y_SG_run w_SG_run ({ frames := 6, cells := 0, slots := 0, locals := 155 }) (va_Pc [.ref hs] (kB D vwCl (tyL cI cJ cZ) sz [(hs, .inr (0, [.int (nI kf), .ref h0, .ref hz, .ref bo, .ref hb_, .ref hp, .int (pI sw)])), (h0, .inr (3, [.int (nI side), .ref a1, .ref a2, .ref a3, .ref a4, .int (pI sm)])), (a1, .inl (cZ, ((2 * side) * side), .inl (fun j => pI (IN j)))), (a2, .inl (cI, (side * side), .inl (fun j => nI (LO j)))), (a3, .inl (cI, ((side + 1) * (side + 1)), .inl (fun j => nI (F3 j)))), (a4, .inl (cI, ((side + 1) * (side + 1)), .inl (fun j => nI (F4 j)))), (hz, .inr (5, [.ref t1, .ref t2, .ref t3, .ref t4, .int (nI cn)])), (t1, .inl (cI, 8, .inl (fun j => nI (th j)))), (t2, .inl (cI, 8, .inl (fun j => nI (wi j)))), (t3, .inl (cI, 8, .inl (fun j => nI (wo j)))), (t4, .inl (cI, 8, .inl (fun j => nI (wn j)))), (bo, .inr (2, [.ref hz, .ref h0])), (hb_, .inr (1, [.ref bo, .ref hz, .int (nI side), .int (nI kf), .int (nI tn), .ref r1, .ref r2, .ref r3, .ref r4])), (r1, .inl (cJ, (side + 1), .inr (.inl (fun j => lI (RR j))))), (r2, .inl (cI, side, .inl (fun j => nI (TR j)))), (r3, .inl (cJ, (side + 1), .inr (.inl (fun j => lI (RC j))))), (r4, .inl (cI, side, .inl (fun j => iI (SC j)))), (hp, .inr (4, [.ref p1, .ref p2, .ref p3, .int (nI pt), .int (nI psl), .int (nI pc_), .int (iI pv), .int (nI pce)])), (p1, .inl (cI, pn, .inl (fun j => nI (g1 j)))), (p2, .inl (cI, pn, .inl (fun j => nI (g2 j)))), (p3, .inl (cI, pn, .inl (fun j => nI (g3 j))))])) (va_Qi (fun (r : Int32) (u : Nat × (Nat → Nat) × (Nat → Nat) × (Nat → Int) × (Nat → Nat) × (Nat → Int) × (Nat → Int)) => r = nI (layAll side kf cn u.1 th wi wo wn (fbare side IN) (floss side LO) (plan0 side kf th wi wo wn (fbare side IN) (floss side LO) cn u.1).2 (0, g1, g2, g3, 0, 0) side).2.2.1 ∧ u.1 = (if (plan0 side kf th wi wo wn (fbare side IN) (floss side LO) cn 0).1 0 < (plan0 side kf th wi wo wn (fbare side IN) (floss side LO) cn 1).1 0 then 1 else 0) ∧ (∀ X Y, X ≤ side → Y ≤ side → u.2.1 (Y * (side + 1) + X) = psm (fbare side IN) X Y) ∧ (∀ X Y, X ≤ side → Y ≤ side → u.2.2.1 (Y * (side + 1) + X) = psm (floss side LO) X Y) ∧ u.2.2.2.1 side = 0 ∧ u.2.2.2.2.2.1 side = 0) (fun (u : Nat × (Nat → Nat) × (Nat → Nat) × (Nat → Int) × (Nat → Nat) × (Nat → Int) × (Nat → Int)) t => kE D vwCl (va_A [(hs, .inr (0, [.int (nI kf), .ref h0, .ref hz, .ref bo, .ref hb_, .ref hp, .int (pI sw)])), (h0, .inr (3, [.int (nI side), .ref a1, .ref a2, .ref a3, .ref a4, .int (pI sm)])), (a1, .inl (cZ, ((2 * side) * side), .inl (fun j => pI (IN j)))), (a2, .inl (cI, (side * side), .inl (fun j => nI (LO j)))), (a3, .inl (cI, ((side + 1) * (side + 1)), .inl (fun j => nI (F3 j)))), (a4, .inl (cI, ((side + 1) * (side + 1)), .inl (fun j => nI (F4 j)))), (hz, .inr (5, [.ref t1, .ref t2, .ref t3, .ref t4, .int (nI cn)])), (t1, .inl (cI, 8, .inl (fun j => nI (th j)))), (t2, .inl (cI, 8, .inl (fun j => nI (wi j)))), (t3, .inl (cI, 8, .inl (fun j => nI (wo j)))), (t4, .inl (cI, 8, .inl (fun j => nI (wn j)))), (bo, .inr (2, [.ref hz, .ref h0])), (hb_, .inr (1, [.ref bo, .ref hz, .int (nI side), .int (nI kf), .int (nI tn), .ref r1, .ref r2, .ref r3, .ref r4])), (r1, .inl (cJ, (side + 1), .inr (.inl (fun j => lI (RR j))))), (r2, .inl (cI, side, .inl (fun j => nI (TR j)))), (r3, .inl (cJ, (side + 1), .inr (.inl (fun j => lI (RC j))))), (r4, .inl (cI, side, .inl (fun j => iI (SC j)))), (hp, .inr (4, [.ref p1, .ref p2, .ref p3, .int (nI pt), .int (nI psl), .int (nI pc_), .int (iI pv), .int (nI pce)])), (p1, .inl (cI, pn, .inl (fun j => nI (g1 j)))), (p2, .inl (cI, pn, .inl (fun j => nI (g2 j)))), (p3, .inl (cI, pn, .inl (fun j => nI (g3 j))))] sz) [(hs, .inr (0, [.int (nI kf), .ref h0, .ref hz, .ref bo, .ref hb_, .ref hp, .int (pI True)])), (h0, .inr (3, [.int (nI side), .ref a1, .ref a2, .ref a3, .ref a4, .int (pI True)])), (a1, .inl (cZ, ((2 * side) * side), .inl (fun j => pI (IN j)))), (a2, .inl (cI, (side * side), .inl (fun j => nI (LO j)))), (a3, .inl (cI, ((side + 1) * (side + 1)), .inl (fun j => nI (u.2.1 j)))), (a4, .inl (cI, ((side + 1) * (side + 1)), .inl (fun j => nI (u.2.2.1 j)))), (hz, .inr (5, [.ref t1, .ref t2, .ref t3, .ref t4, .int (nI cn)])), (t1, .inl (cI, 8, .inl (fun j => nI (th j)))), (t2, .inl (cI, 8, .inl (fun j => nI (wi j)))), (t3, .inl (cI, 8, .inl (fun j => nI (wo j)))), (t4, .inl (cI, 8, .inl (fun j => nI (wn j)))), (bo, .inr (2, [.ref hz, .ref h0])), (hb_, .inr (1, [.ref bo, .ref hz, .int (nI side), .int (nI kf), .int (nI u.1), .ref r1, .ref r2, .ref r3, .ref r4])), (r1, .inl (cJ, (side + 1), .inr (.inl (fun j => lI (u.2.2.2.1 j))))), (r2, .inl (cI, side, .inl (fun j => nI (u.2.2.2.2.1 j)))), (r3, .inl (cJ, (side + 1), .inr (.inl (fun j => lI (u.2.2.2.2.2.1 j))))), (r4, .inl (cI, side, .inl (fun j => iI (u.2.2.2.2.2.2 j)))), (hp, .inr (4, [.ref p1, .ref p2, .ref p3, .int (nI u.1), .int (nI ((layAll side kf cn u.1 th wi wo wn (fbare side IN) (floss side LO) (plan0 side kf th wi wo wn (fbare side IN) (floss side LO) cn u.1).2 (0, g1, g2, g3, 0, 0) side).2.1)), .int (nI ((layAll side kf cn u.1 th wi wo wn (fbare side IN) (floss side LO) (plan0 side kf th wi wo wn (fbare side IN) (floss side LO) cn u.1).2 (0, g1, g2, g3, 0, 0) side).2.2.1)), .int (iI ((layAll side kf cn u.1 th wi wo wn (fbare side IN) (floss side LO) (plan0 side kf th wi wo wn (fbare side IN) (floss side LO) cn u.1).2 (0, g1, g2, g3, 0, 0) side).2.2.2.2.2.2.1)), .int (nI ((layAll side kf cn u.1 th wi wo wn (fbare side IN) (floss side LO) (plan0 side kf th wi wo wn (fbare side IN) (floss side LO) cn u.1).2 (0, g1, g2, g3, 0, 0) side).2.2.2.2.2.2.2))])), (p1, .inl (cI, pn, .inl (fun j => nI (((layAll side kf cn u.1 th wi wo wn (fbare side IN) (floss side LO) (plan0 side kf th wi wo wn (fbare side IN) (floss side LO) cn u.1).2 (0, g1, g2, g3, 0, 0) side).2.2.2.1) j)))), (p2, .inl (cI, pn, .inl (fun j => nI (((layAll side kf cn u.1 th wi wo wn (fbare side IN) (floss side LO) (plan0 side kf th wi wo wn (fbare side IN) (floss side LO) cn u.1).2 (0, g1, g2, g3, 0, 0) side).2.2.2.2.1) j)))), (p3, .inl (cI, pn, .inl (fun j => nI (((layAll side kf cn u.1 th wi wo wn (fbare side IN) (floss side LO) (plan0 side kf th wi wo wn (fbare side IN) (floss side LO) cn u.1).2 (0, g1, g2, g3, 0, 0) side).2.2.2.2.2.1) j))))] t) (va_A [(hs, .inr (0, [.int (nI kf), .ref h0, .ref hz, .ref bo, .ref hb_, .ref hp, .int (pI sw)])), (h0, .inr (3, [.int (nI side), .ref a1, .ref a2, .ref a3, .ref a4, .int (pI sm)])), (a1, .inl (cZ, ((2 * side) * side), .inl (fun j => pI (IN j)))), (a2, .inl (cI, (side * side), .inl (fun j => nI (LO j)))), (a3, .inl (cI, ((side + 1) * (side + 1)), .inl (fun j => nI (F3 j)))), (a4, .inl (cI, ((side + 1) * (side + 1)), .inl (fun j => nI (F4 j)))), (hz, .inr (5, [.ref t1, .ref t2, .ref t3, .ref t4, .int (nI cn)])), (t1, .inl (cI, 8, .inl (fun j => nI (th j)))), (t2, .inl (cI, 8, .inl (fun j => nI (wi j)))), (t3, .inl (cI, 8, .inl (fun j => nI (wo j)))), (t4, .inl (cI, 8, .inl (fun j => nI (wn j)))), (bo, .inr (2, [.ref hz, .ref h0])), (hb_, .inr (1, [.ref bo, .ref hz, .int (nI side), .int (nI kf), .int (nI tn), .ref r1, .ref r2, .ref r3, .ref r4])), (r1, .inl (cJ, (side + 1), .inr (.inl (fun j => lI (RR j))))), (r2, .inl (cI, side, .inl (fun j => nI (TR j)))), (r3, .inl (cJ, (side + 1), .inr (.inl (fun j => lI (RC j))))), (r4, .inl (cI, side, .inl (fun j => iI (SC j)))), (hp, .inr (4, [.ref p1, .ref p2, .ref p3, .int (nI pt), .int (nI psl), .int (nI pc_), .int (iI pv), .int (nI pce)])), (p1, .inl (cI, pn, .inl (fun j => nI (g1 j)))), (p2, .inl (cI, pn, .inl (fun j => nI (g2 j)))), (p3, .inl (cI, pn, .inl (fun j => nI (g3 j))))] sz)) 0 0 (va_A [(hs, .inr (0, [.int (nI kf), .ref h0, .ref hz, .ref bo, .ref hb_, .ref hp, .int (pI sw)])), (h0, .inr (3, [.int (nI side), .ref a1, .ref a2, .ref a3, .ref a4, .int (pI sm)])), (a1, .inl (cZ, ((2 * side) * side), .inl (fun j => pI (IN j)))), (a2, .inl (cI, (side * side), .inl (fun j => nI (LO j)))), (a3, .inl (cI, ((side + 1) * (side + 1)), .inl (fun j => nI (F3 j)))), (a4, .inl (cI, ((side + 1) * (side + 1)), .inl (fun j => nI (F4 j)))), (hz, .inr (5, [.ref t1, .ref t2, .ref t3, .ref t4, .int (nI cn)])), (t1, .inl (cI, 8, .inl (fun j => nI (th j)))), (t2, .inl (cI, 8, .inl (fun j => nI (wi j)))), (t3, .inl (cI, 8, .inl (fun j => nI (wo j)))), (t4, .inl (cI, 8, .inl (fun j => nI (wn j)))), (bo, .inr (2, [.ref hz, .ref h0])), (hb_, .inr (1, [.ref bo, .ref hz, .int (nI side), .int (nI kf), .int (nI tn), .ref r1, .ref r2, .ref r3, .ref r4])), (r1, .inl (cJ, (side + 1), .inr (.inl (fun j => lI (RR j))))), (r2, .inl (cI, side, .inl (fun j => nI (TR j)))), (r3, .inl (cJ, (side + 1), .inr (.inl (fun j => lI (RC j))))), (r4, .inl (cI, side, .inl (fun j => iI (SC j)))), (hp, .inr (4, [.ref p1, .ref p2, .ref p3, .int (nI pt), .int (nI psl), .int (nI pc_), .int (iI pv), .int (nI pce)])), (p1, .inl (cI, pn, .inl (fun j => nI (g1 j)))), (p2, .inl (cI, pn, .inl (fun j => nI (g2 j)))), (p3, .inl (cI, pn, .inl (fun j => nI (g3 j))))] sz) := by
  refine Met.ofW (cc := b_SG_run) (maxL := 5) (ret := (some (.int))) (by decide) rfl ?_
  intro p e s m args below meth c s₁ B hml hv
  obtain ⟨rfl, hsz, hP, hK, hD0, hZ⟩ := hv
  have hx := B.exec
  have hb := B.bytes
  have hr := B.returns
  have hts := atoms_spec (ws := w_SG_run) B.pre
  have hown : s.vm.findClass R_SG = some m.cls := findClass_of_methodNamed B.named
  have hlocks := B.notSynchronized
  subst hsz
  have hD := hD0.self (sz := s.heap.size)
  generalize hAe : va_A [(hs, .inr (0, [.int (nI kf), .ref h0, .ref hz, .ref bo, .ref hb_, .ref hp, .int (pI sw)])), (h0, .inr (3, [.int (nI side), .ref a1, .ref a2, .ref a3, .ref a4, .int (pI sm)])), (a1, .inl (cZ, ((2 * side) * side), .inl (fun j => pI (IN j)))), (a2, .inl (cI, (side * side), .inl (fun j => nI (LO j)))), (a3, .inl (cI, ((side + 1) * (side + 1)), .inl (fun j => nI (F3 j)))), (a4, .inl (cI, ((side + 1) * (side + 1)), .inl (fun j => nI (F4 j)))), (hz, .inr (5, [.ref t1, .ref t2, .ref t3, .ref t4, .int (nI cn)])), (t1, .inl (cI, 8, .inl (fun j => nI (th j)))), (t2, .inl (cI, 8, .inl (fun j => nI (wi j)))), (t3, .inl (cI, 8, .inl (fun j => nI (wo j)))), (t4, .inl (cI, 8, .inl (fun j => nI (wn j)))), (bo, .inr (2, [.ref hz, .ref h0])), (hb_, .inr (1, [.ref bo, .ref hz, .int (nI side), .int (nI kf), .int (nI tn), .ref r1, .ref r2, .ref r3, .ref r4])), (r1, .inl (cJ, (side + 1), .inr (.inl (fun j => lI (RR j))))), (r2, .inl (cI, side, .inl (fun j => nI (TR j)))), (r3, .inl (cJ, (side + 1), .inr (.inl (fun j => lI (RC j))))), (r4, .inl (cI, side, .inl (fun j => iI (SC j)))), (hp, .inr (4, [.ref p1, .ref p2, .ref p3, .int (nI pt), .int (nI psl), .int (nI pc_), .int (iI pv), .int (nI pce)])), (p1, .inl (cI, pn, .inl (fun j => nI (g1 j)))), (p2, .inl (cI, pn, .inl (fun j => nI (g2 j)))), (p3, .inl (cI, pn, .inl (fun j => nI (g3 j))))] s.heap.size = A at hD ⊢
  have hA : ∀ q : Nat, s.heap.size ≤ q → A q := fun q h => by rw [← hAe]; exact Or.inr h
  have hS : va_S A s.heap s.heap [] := va_S.rf
  have hP : va_P D vwCl [(hs, .inr (0, [.int (nI kf), .ref h0, .ref hz, .ref bo, .ref hb_, .ref hp, .int (pI sw)])), (h0, .inr (3, [.int (nI side), .ref a1, .ref a2, .ref a3, .ref a4, .int (pI sm)])), (a1, .inl (cZ, ((2 * side) * side), .inl (fun j => pI (IN j)))), (a2, .inl (cI, (side * side), .inl (fun j => nI (LO j)))), (a3, .inl (cI, ((side + 1) * (side + 1)), .inl (fun j => nI (F3 j)))), (a4, .inl (cI, ((side + 1) * (side + 1)), .inl (fun j => nI (F4 j)))), (hz, .inr (5, [.ref t1, .ref t2, .ref t3, .ref t4, .int (nI cn)])), (t1, .inl (cI, 8, .inl (fun j => nI (th j)))), (t2, .inl (cI, 8, .inl (fun j => nI (wi j)))), (t3, .inl (cI, 8, .inl (fun j => nI (wo j)))), (t4, .inl (cI, 8, .inl (fun j => nI (wn j)))), (bo, .inr (2, [.ref hz, .ref h0])), (hb_, .inr (1, [.ref bo, .ref hz, .int (nI side), .int (nI kf), .int (nI tn), .ref r1, .ref r2, .ref r3, .ref r4])), (r1, .inl (cJ, (side + 1), .inr (.inl (fun j => lI (RR j))))), (r2, .inl (cI, side, .inl (fun j => nI (TR j)))), (r3, .inl (cJ, (side + 1), .inr (.inl (fun j => lI (RC j))))), (r4, .inl (cI, side, .inl (fun j => iI (SC j)))), (hp, .inr (4, [.ref p1, .ref p2, .ref p3, .int (nI pt), .int (nI psl), .int (nI pc_), .int (iI pv), .int (nI pce)])), (p1, .inl (cI, pn, .inl (fun j => nI (g1 j)))), (p2, .inl (cI, pn, .inl (fun j => nI (g2 j)))), (p3, .inl (cI, pn, .inl (fun j => nI (g3 j))))] s.heap := hP
  have hl := lv_entry ([.ref hs]) (n := 5) (Nat.le_of_ble_eq_true rfl)
  rw [lg_entry_eq]
  generalize (lg_sl ([.ref hs]) ++ List.replicate (5 - (lg_sl ([.ref hs])).length) Slot.unset).toArray = ls at hl ⊢
  have hl : lv_has ls 5 [(0, .ref hs)] := hl
  refine lv_aload_n hx hb d_SG_run_0 rfl (lv_at hl 0 rfl) ?_
  refine va_get (D := D) (ci := 0) (v := .ref h0) (C := R_SG) (T := T_SG) (N := 7) hx hb hts (fun w h => List.mem_cons_of_mem _ (iw_SG w h)) hown hK hP 0 rfl rfl 1 (by decide) (hts _ (List.mem_cons_of_mem _ k_179)) (fun _ h9 => h9) rfl d_SG_run_1 ?_
  refine kcallv (wc := [(h0, .inr (3, [.int (nI side), .ref a1, .ref a2, .ref a3, .ref a4, .int (pI sm)])), (a1, .inl (cZ, ((2 * side) * side), .inl (fun j => pI (IN j)))), (a2, .inl (cI, (side * side), .inl (fun j => nI (LO j)))), (a3, .inl (cI, ((side + 1) * (side + 1)), .inl (fun j => nI (F3 j)))), (a4, .inl (cI, ((side + 1) * (side + 1)), .inl (fun j => nI (F4 j))))]) (wr := [(hs, .inr (0, [.int (nI kf), .ref h0, .ref hz, .ref bo, .ref hb_, .ref hp, .int (pI sw)])), (hz, .inr (5, [.ref t1, .ref t2, .ref t3, .ref t4, .int (nI cn)])), (t1, .inl (cI, 8, .inl (fun j => nI (th j)))), (t2, .inl (cI, 8, .inl (fun j => nI (wi j)))), (t3, .inl (cI, 8, .inl (fun j => nI (wo j)))), (t4, .inl (cI, 8, .inl (fun j => nI (wn j)))), (bo, .inr (2, [.ref hz, .ref h0])), (hb_, .inr (1, [.ref bo, .ref hz, .int (nI side), .int (nI kf), .int (nI tn), .ref r1, .ref r2, .ref r3, .ref r4])), (r1, .inl (cJ, (side + 1), .inr (.inl (fun j => lI (RR j))))), (r2, .inl (cI, side, .inl (fun j => nI (TR j)))), (r3, .inl (cJ, (side + 1), .inr (.inl (fun j => lI (RC j))))), (r4, .inl (cI, side, .inl (fun j => iI (SC j)))), (hp, .inr (4, [.ref p1, .ref p2, .ref p3, .int (nI pt), .int (nI psl), .int (nI pc_), .int (iI pv), .int (nI pce)])), (p1, .inl (cI, pn, .inl (fun j => nI (g1 j)))), (p2, .inl (cI, pn, .inl (fun j => nI (g2 j)))), (p3, .inl (cI, pn, .inl (fun j => nI (g3 j))))]) [1, 2, 3, 4, 5] [0, 6, 7, 8, 9, 10, 11, 12, 13, 14, 15, 16, 17, 18, 19, 20] (va_runV (As := []) (rest := []) ⟨hx, hb, hml, hown, hts⟩ (c_sumUp l D cI cJ cZ s.heap.size h0 side a1 a2 a3 a4 sm IN LO F3 F4 s2 e3 e4 m3 m4) ⟨callB_of 0 hts (gd kc_Lo_sumUp) rfl rfl rfl (hts _ (List.mem_cons_of_mem _ k_3)) (hts _ (List.mem_cons_of_mem _ k_204)) (by decide +kernel) ⟨Nat.le_of_ble_eq_true rfl, Nat.le_of_ble_eq_true rfl⟩, hts _ (List.mem_cons_of_mem _ k_205), hts _ (List.mem_cons_of_mem _ k_206)⟩ ⟨kB_blind, va_recv hK hP (ci := 3) (q0 := 1) rfl rfl, kB_at hP hD hK hZ [1, 2, 3, 4, 5] rfl (by decide) rfl⟩ rfl rfl hl.1 rfl (lv_room (Nat.le_of_ble_eq_true rfl)) d_SG_run_4 ⟨Nat.zero_le _, Nat.zero_le _⟩) hP hD hS hA rfl rfl (by decide) (by decide) (fun us H locs hw_4 hP hD hS => ?_)
  have hP : va_P D vwCl [(hs, .inr (0, [.int (nI kf), .ref h0, .ref hz, .ref bo, .ref hb_, .ref hp, .int (pI sw)])), (hz, .inr (5, [.ref t1, .ref t2, .ref t3, .ref t4, .int (nI cn)])), (t1, .inl (cI, 8, .inl (fun j => nI (th j)))), (t2, .inl (cI, 8, .inl (fun j => nI (wi j)))), (t3, .inl (cI, 8, .inl (fun j => nI (wo j)))), (t4, .inl (cI, 8, .inl (fun j => nI (wn j)))), (bo, .inr (2, [.ref hz, .ref h0])), (hb_, .inr (1, [.ref bo, .ref hz, .int (nI side), .int (nI kf), .int (nI tn), .ref r1, .ref r2, .ref r3, .ref r4])), (r1, .inl (cJ, (side + 1), .inr (.inl (fun j => lI (RR j))))), (r2, .inl (cI, side, .inl (fun j => nI (TR j)))), (r3, .inl (cJ, (side + 1), .inr (.inl (fun j => lI (RC j))))), (r4, .inl (cI, side, .inl (fun j => iI (SC j)))), (hp, .inr (4, [.ref p1, .ref p2, .ref p3, .int (nI pt), .int (nI psl), .int (nI pc_), .int (iI pv), .int (nI pce)])), (p1, .inl (cI, pn, .inl (fun j => nI (g1 j)))), (p2, .inl (cI, pn, .inl (fun j => nI (g2 j)))), (p3, .inl (cI, pn, .inl (fun j => nI (g3 j)))), (h0, .inr (3, [.int (nI side), .ref a1, .ref a2, .ref a3, .ref a4, .int (pI True)])), (a1, .inl (cZ, ((2 * side) * side), .inl (fun j => pI (IN j)))), (a2, .inl (cI, (side * side), .inl (fun j => nI (LO j)))), (a3, .inl (cI, ((side + 1) * (side + 1)), .inl (fun j => nI (us.1 j)))), (a4, .inl (cI, ((side + 1) * (side + 1)), .inl (fun j => nI (us.2 j))))] H := hP
  have hD : va_D A [(hs, .inr (0, [.int (nI kf), .ref h0, .ref hz, .ref bo, .ref hb_, .ref hp, .int (pI sw)])), (hz, .inr (5, [.ref t1, .ref t2, .ref t3, .ref t4, .int (nI cn)])), (t1, .inl (cI, 8, .inl (fun j => nI (th j)))), (t2, .inl (cI, 8, .inl (fun j => nI (wi j)))), (t3, .inl (cI, 8, .inl (fun j => nI (wo j)))), (t4, .inl (cI, 8, .inl (fun j => nI (wn j)))), (bo, .inr (2, [.ref hz, .ref h0])), (hb_, .inr (1, [.ref bo, .ref hz, .int (nI side), .int (nI kf), .int (nI tn), .ref r1, .ref r2, .ref r3, .ref r4])), (r1, .inl (cJ, (side + 1), .inr (.inl (fun j => lI (RR j))))), (r2, .inl (cI, side, .inl (fun j => nI (TR j)))), (r3, .inl (cJ, (side + 1), .inr (.inl (fun j => lI (RC j))))), (r4, .inl (cI, side, .inl (fun j => iI (SC j)))), (hp, .inr (4, [.ref p1, .ref p2, .ref p3, .int (nI pt), .int (nI psl), .int (nI pc_), .int (iI pv), .int (nI pce)])), (p1, .inl (cI, pn, .inl (fun j => nI (g1 j)))), (p2, .inl (cI, pn, .inl (fun j => nI (g2 j)))), (p3, .inl (cI, pn, .inl (fun j => nI (g3 j)))), (h0, .inr (3, [.int (nI side), .ref a1, .ref a2, .ref a3, .ref a4, .int (pI True)])), (a1, .inl (cZ, ((2 * side) * side), .inl (fun j => pI (IN j)))), (a2, .inl (cI, (side * side), .inl (fun j => nI (LO j)))), (a3, .inl (cI, ((side + 1) * (side + 1)), .inl (fun j => nI (us.1 j)))), (a4, .inl (cI, ((side + 1) * (side + 1)), .inl (fun j => nI (us.2 j))))] := hD
  have hB1 := fun tq => (planT_bd (kf := kf) (TR := fun _ => 0) (RR := fun _ => 0) (side := side) rfl (sbT_bd (side := side) (kf := kf) (th := th) (wo := wo) (wn := wn) (fb := fbare side IN) (fl := floss side LO) (cn := cn) (tn := tq) hw1 (fun i hi => ho i (by omega)) s2) side (Nat.le_refl _))
  refine lv_aload_n hx hb d_SG_run_7 rfl (lv_at hl 0 rfl) ?_
  refine va_get (D := D) (ci := 0) (v := .ref hb_) (C := R_SG) (T := T_SG) (N := 7) hx hb hts (fun w h => List.mem_cons_of_mem _ (iw_SG w h)) hown hK hP 0 rfl rfl 4 (by decide) (hts _ (List.mem_cons_of_mem _ k_182)) (fun _ h9 => h9) rfl d_SG_run_8 ?_
  refine lv_iconst (v := nI 1) hx hb d_SG_run_11 (by decide +kernel) ?_
  refine kcalll (wc := [(hb_, .inr (1, [.ref bo, .ref hz, .int (nI side), .int (nI kf), .int (nI tn), .ref r1, .ref r2, .ref r3, .ref r4])), (bo, .inr (2, [.ref hz, .ref h0])), (h0, .inr (3, [.int (nI side), .ref a1, .ref a2, .ref a3, .ref a4, .int (pI True)])), (hz, .inr (5, [.ref t1, .ref t2, .ref t3, .ref t4, .int (nI cn)])), (t1, .inl (cI, 8, .inl (fun j => nI (th j)))), (t2, .inl (cI, 8, .inl (fun j => nI (wi j)))), (t3, .inl (cI, 8, .inl (fun j => nI (wo j)))), (t4, .inl (cI, 8, .inl (fun j => nI (wn j)))), (a3, .inl (cI, ((side + 1) * (side + 1)), .inl (fun j => nI (us.1 j)))), (a4, .inl (cI, ((side + 1) * (side + 1)), .inl (fun j => nI (us.2 j)))), (r1, .inl (cJ, (side + 1), .inr (.inl (fun j => lI (RR j))))), (r2, .inl (cI, side, .inl (fun j => nI (TR j)))), (r3, .inl (cJ, (side + 1), .inr (.inl (fun j => lI (RC j))))), (r4, .inl (cI, side, .inl (fun j => iI (SC j))))]) (wr := [(hs, .inr (0, [.int (nI kf), .ref h0, .ref hz, .ref bo, .ref hb_, .ref hp, .int (pI sw)])), (hp, .inr (4, [.ref p1, .ref p2, .ref p3, .int (nI pt), .int (nI psl), .int (nI pc_), .int (iI pv), .int (nI pce)])), (p1, .inl (cI, pn, .inl (fun j => nI (g1 j)))), (p2, .inl (cI, pn, .inl (fun j => nI (g2 j)))), (p3, .inl (cI, pn, .inl (fun j => nI (g3 j)))), (a1, .inl (cZ, ((2 * side) * side), .inl (fun j => pI (IN j)))), (a2, .inl (cI, (side * side), .inl (fun j => nI (LO j))))]) [7, 6, 16, 1, 2, 3, 4, 5, 19, 20, 8, 9, 10, 11] [0, 12, 13, 14, 15, 17, 18] (va_runV (As := [.int (nI 1)]) (rest := []) ⟨hx, hb, hml, hown, hts⟩ (c_plan l D cI cJ cZ H.size hb_ bo hz side kf tn r1 r2 r3 r4 h0 a1 a2 a3 a4 True t1 t2 t3 t4 cn th wi wo wn us.1 us.2 (fbare side IN) (floss side LO) RR TR RC SC 1 s1 s2 k4 tn1 n8 ht hw hw1 ho hn hw_4.1 hw_4.2 (fbare_le side IN) (floss_le hL) (by decide) hR0 hRR0) ⟨callB_of 1 hts (gd kc_Be_plan) rfl rfl rfl (hts _ (List.mem_cons_of_mem _ k_6)) (hts _ (List.mem_cons_of_mem _ k_212)) (by decide +kernel) ⟨Nat.le_of_ble_eq_true rfl, Nat.le_of_ble_eq_true rfl⟩, hts _ (List.mem_cons_of_mem _ k_213), hts _ (List.mem_cons_of_mem _ k_214)⟩ ⟨kB_blind, va_recv hK hP (ci := 1) (q0 := 7) rfl rfl, kB_at hP hD hK hZ [7, 6, 16, 1, 2, 3, 4, 5, 19, 20, 8, 9, 10, 11] rfl (by decide) rfl⟩ rfl rfl hl.1 rfl (lv_room (Nat.le_of_ble_eq_true rfl)) d_SG_run_12 ⟨Nat.zero_le _, Nat.zero_le _⟩) hP hD hS hA rfl rfl (by decide) (by decide) (fun r_12 ua H locs hw_12 hP hD hS => ?_)
  have hP : va_P D vwCl [(hs, .inr (0, [.int (nI kf), .ref h0, .ref hz, .ref bo, .ref hb_, .ref hp, .int (pI sw)])), (hp, .inr (4, [.ref p1, .ref p2, .ref p3, .int (nI pt), .int (nI psl), .int (nI pc_), .int (iI pv), .int (nI pce)])), (p1, .inl (cI, pn, .inl (fun j => nI (g1 j)))), (p2, .inl (cI, pn, .inl (fun j => nI (g2 j)))), (p3, .inl (cI, pn, .inl (fun j => nI (g3 j)))), (a1, .inl (cZ, ((2 * side) * side), .inl (fun j => pI (IN j)))), (a2, .inl (cI, (side * side), .inl (fun j => nI (LO j)))), (hb_, .inr (1, [.ref bo, .ref hz, .int (nI side), .int (nI kf), .int (nI 1), .ref r1, .ref r2, .ref r3, .ref r4])), (bo, .inr (2, [.ref hz, .ref h0])), (h0, .inr (3, [.int (nI side), .ref a1, .ref a2, .ref a3, .ref a4, .int (pI True)])), (hz, .inr (5, [.ref t1, .ref t2, .ref t3, .ref t4, .int (nI cn)])), (t1, .inl (cI, 8, .inl (fun j => nI (th j)))), (t2, .inl (cI, 8, .inl (fun j => nI (wi j)))), (t3, .inl (cI, 8, .inl (fun j => nI (wo j)))), (t4, .inl (cI, 8, .inl (fun j => nI (wn j)))), (a3, .inl (cI, ((side + 1) * (side + 1)), .inl (fun j => nI (us.1 j)))), (a4, .inl (cI, ((side + 1) * (side + 1)), .inl (fun j => nI (us.2 j)))), (r1, .inl (cJ, (side + 1), .inr (.inl (fun j => lI (ua.1 j))))), (r2, .inl (cI, side, .inl (fun j => nI (ua.2.1 j)))), (r3, .inl (cJ, (side + 1), .inr (.inl (fun j => lI (ua.2.2.1 j))))), (r4, .inl (cI, side, .inl (fun j => iI (ua.2.2.2 j))))] H := hP
  have hD : va_D A [(hs, .inr (0, [.int (nI kf), .ref h0, .ref hz, .ref bo, .ref hb_, .ref hp, .int (pI sw)])), (hp, .inr (4, [.ref p1, .ref p2, .ref p3, .int (nI pt), .int (nI psl), .int (nI pc_), .int (iI pv), .int (nI pce)])), (p1, .inl (cI, pn, .inl (fun j => nI (g1 j)))), (p2, .inl (cI, pn, .inl (fun j => nI (g2 j)))), (p3, .inl (cI, pn, .inl (fun j => nI (g3 j)))), (a1, .inl (cZ, ((2 * side) * side), .inl (fun j => pI (IN j)))), (a2, .inl (cI, (side * side), .inl (fun j => nI (LO j)))), (hb_, .inr (1, [.ref bo, .ref hz, .int (nI side), .int (nI kf), .int (nI 1), .ref r1, .ref r2, .ref r3, .ref r4])), (bo, .inr (2, [.ref hz, .ref h0])), (h0, .inr (3, [.int (nI side), .ref a1, .ref a2, .ref a3, .ref a4, .int (pI True)])), (hz, .inr (5, [.ref t1, .ref t2, .ref t3, .ref t4, .int (nI cn)])), (t1, .inl (cI, 8, .inl (fun j => nI (th j)))), (t2, .inl (cI, 8, .inl (fun j => nI (wi j)))), (t3, .inl (cI, 8, .inl (fun j => nI (wo j)))), (t4, .inl (cI, 8, .inl (fun j => nI (wn j)))), (a3, .inl (cI, ((side + 1) * (side + 1)), .inl (fun j => nI (us.1 j)))), (a4, .inl (cI, ((side + 1) * (side + 1)), .inl (fun j => nI (us.2 j)))), (r1, .inl (cJ, (side + 1), .inr (.inl (fun j => lI (ua.1 j))))), (r2, .inl (cI, side, .inl (fun j => nI (ua.2.1 j)))), (r3, .inl (cJ, (side + 1), .inr (.inl (fun j => lI (ua.2.2.1 j))))), (r4, .inl (cI, side, .inl (fun j => iI (ua.2.2.2 j))))] := hD
  obtain ⟨er1, ua1, ua2, ua3⟩ := hw_12
  subst er1
  refine lv_lstore_n (lv' := [(1, .long (lI ((plan0 side kf th wi wo wn (fbare side IN) (floss side LO) cn 1).1 0))), (0, .ref hs)]) hx hb d_SG_run_15 rfl hl (by decide) rfl (fun ls hl => ?_)
  refine lv_aload_n hx hb d_SG_run_16 rfl (lv_at hl 1 rfl) ?_
  refine va_get (D := D) (ci := 0) (v := .ref hb_) (C := R_SG) (T := T_SG) (N := 7) hx hb hts (fun w h => List.mem_cons_of_mem _ (iw_SG w h)) hown hK hP 0 rfl rfl 4 (by decide) (hts _ (List.mem_cons_of_mem _ k_182)) (fun _ h9 => h9) rfl d_SG_run_17 ?_
  refine lv_iconst (v := nI 0) hx hb d_SG_run_20 (by decide +kernel) ?_
  refine kcalll (wc := [(hb_, .inr (1, [.ref bo, .ref hz, .int (nI side), .int (nI kf), .int (nI 1), .ref r1, .ref r2, .ref r3, .ref r4])), (bo, .inr (2, [.ref hz, .ref h0])), (h0, .inr (3, [.int (nI side), .ref a1, .ref a2, .ref a3, .ref a4, .int (pI True)])), (hz, .inr (5, [.ref t1, .ref t2, .ref t3, .ref t4, .int (nI cn)])), (t1, .inl (cI, 8, .inl (fun j => nI (th j)))), (t2, .inl (cI, 8, .inl (fun j => nI (wi j)))), (t3, .inl (cI, 8, .inl (fun j => nI (wo j)))), (t4, .inl (cI, 8, .inl (fun j => nI (wn j)))), (a3, .inl (cI, ((side + 1) * (side + 1)), .inl (fun j => nI (us.1 j)))), (a4, .inl (cI, ((side + 1) * (side + 1)), .inl (fun j => nI (us.2 j)))), (r1, .inl (cJ, (side + 1), .inr (.inl (fun j => lI (ua.1 j))))), (r2, .inl (cI, side, .inl (fun j => nI (ua.2.1 j)))), (r3, .inl (cJ, (side + 1), .inr (.inl (fun j => lI (ua.2.2.1 j))))), (r4, .inl (cI, side, .inl (fun j => iI (ua.2.2.2 j))))]) (wr := [(hs, .inr (0, [.int (nI kf), .ref h0, .ref hz, .ref bo, .ref hb_, .ref hp, .int (pI sw)])), (hp, .inr (4, [.ref p1, .ref p2, .ref p3, .int (nI pt), .int (nI psl), .int (nI pc_), .int (iI pv), .int (nI pce)])), (p1, .inl (cI, pn, .inl (fun j => nI (g1 j)))), (p2, .inl (cI, pn, .inl (fun j => nI (g2 j)))), (p3, .inl (cI, pn, .inl (fun j => nI (g3 j)))), (a1, .inl (cZ, ((2 * side) * side), .inl (fun j => pI (IN j)))), (a2, .inl (cI, (side * side), .inl (fun j => nI (LO j))))]) [7, 8, 9, 10, 11, 12, 13, 14, 15, 16, 17, 18, 19, 20] [0, 1, 2, 3, 4, 5, 6] (va_runV (As := [.int (nI 0)]) (rest := []) ⟨hx, hb, hml, hown, hts⟩ (c_plan l D cI cJ cZ H.size hb_ bo hz side kf 1 r1 r2 r3 r4 h0 a1 a2 a3 a4 True t1 t2 t3 t4 cn th wi wo wn us.1 us.2 (fbare side IN) (floss side LO) ua.1 ua.2.1 ua.2.2.1 ua.2.2.2 0 s1 s2 k4 (by decide) n8 ht hw hw1 ho hn hw_4.1 hw_4.2 (fbare_le side IN) (floss_le hL) (by decide) ua3 (by
      rw [ua1 side (Nat.le_refl _)]
      have h9 := (hB1 1).1 side (by omega) (Nat.le_refl _)
      unfold plan0
      omega)) ⟨callB_of 1 hts (gd kc_Be_plan) rfl rfl rfl (hts _ (List.mem_cons_of_mem _ k_6)) (hts _ (List.mem_cons_of_mem _ k_212)) (by decide +kernel) ⟨Nat.le_of_ble_eq_true rfl, Nat.le_of_ble_eq_true rfl⟩, hts _ (List.mem_cons_of_mem _ k_213), hts _ (List.mem_cons_of_mem _ k_214)⟩ ⟨kB_blind, va_recv hK hP (ci := 1) (q0 := 7) rfl rfl, kB_at hP hD hK hZ [7, 8, 9, 10, 11, 12, 13, 14, 15, 16, 17, 18, 19, 20] rfl (by decide) rfl⟩ rfl rfl hl.1 rfl (lv_room (Nat.le_of_ble_eq_true rfl)) d_SG_run_21 ⟨Nat.zero_le _, Nat.zero_le _⟩) hP hD hS hA rfl rfl (by decide) (by decide) (fun r_21 ub H locs hw_21 hP hD hS => ?_)
  have hP : va_P D vwCl [(hs, .inr (0, [.int (nI kf), .ref h0, .ref hz, .ref bo, .ref hb_, .ref hp, .int (pI sw)])), (hp, .inr (4, [.ref p1, .ref p2, .ref p3, .int (nI pt), .int (nI psl), .int (nI pc_), .int (iI pv), .int (nI pce)])), (p1, .inl (cI, pn, .inl (fun j => nI (g1 j)))), (p2, .inl (cI, pn, .inl (fun j => nI (g2 j)))), (p3, .inl (cI, pn, .inl (fun j => nI (g3 j)))), (a1, .inl (cZ, ((2 * side) * side), .inl (fun j => pI (IN j)))), (a2, .inl (cI, (side * side), .inl (fun j => nI (LO j)))), (hb_, .inr (1, [.ref bo, .ref hz, .int (nI side), .int (nI kf), .int (nI 0), .ref r1, .ref r2, .ref r3, .ref r4])), (bo, .inr (2, [.ref hz, .ref h0])), (h0, .inr (3, [.int (nI side), .ref a1, .ref a2, .ref a3, .ref a4, .int (pI True)])), (hz, .inr (5, [.ref t1, .ref t2, .ref t3, .ref t4, .int (nI cn)])), (t1, .inl (cI, 8, .inl (fun j => nI (th j)))), (t2, .inl (cI, 8, .inl (fun j => nI (wi j)))), (t3, .inl (cI, 8, .inl (fun j => nI (wo j)))), (t4, .inl (cI, 8, .inl (fun j => nI (wn j)))), (a3, .inl (cI, ((side + 1) * (side + 1)), .inl (fun j => nI (us.1 j)))), (a4, .inl (cI, ((side + 1) * (side + 1)), .inl (fun j => nI (us.2 j)))), (r1, .inl (cJ, (side + 1), .inr (.inl (fun j => lI (ub.1 j))))), (r2, .inl (cI, side, .inl (fun j => nI (ub.2.1 j)))), (r3, .inl (cJ, (side + 1), .inr (.inl (fun j => lI (ub.2.2.1 j))))), (r4, .inl (cI, side, .inl (fun j => iI (ub.2.2.2 j))))] H := hP
  have hD : va_D A [(hs, .inr (0, [.int (nI kf), .ref h0, .ref hz, .ref bo, .ref hb_, .ref hp, .int (pI sw)])), (hp, .inr (4, [.ref p1, .ref p2, .ref p3, .int (nI pt), .int (nI psl), .int (nI pc_), .int (iI pv), .int (nI pce)])), (p1, .inl (cI, pn, .inl (fun j => nI (g1 j)))), (p2, .inl (cI, pn, .inl (fun j => nI (g2 j)))), (p3, .inl (cI, pn, .inl (fun j => nI (g3 j)))), (a1, .inl (cZ, ((2 * side) * side), .inl (fun j => pI (IN j)))), (a2, .inl (cI, (side * side), .inl (fun j => nI (LO j)))), (hb_, .inr (1, [.ref bo, .ref hz, .int (nI side), .int (nI kf), .int (nI 0), .ref r1, .ref r2, .ref r3, .ref r4])), (bo, .inr (2, [.ref hz, .ref h0])), (h0, .inr (3, [.int (nI side), .ref a1, .ref a2, .ref a3, .ref a4, .int (pI True)])), (hz, .inr (5, [.ref t1, .ref t2, .ref t3, .ref t4, .int (nI cn)])), (t1, .inl (cI, 8, .inl (fun j => nI (th j)))), (t2, .inl (cI, 8, .inl (fun j => nI (wi j)))), (t3, .inl (cI, 8, .inl (fun j => nI (wo j)))), (t4, .inl (cI, 8, .inl (fun j => nI (wn j)))), (a3, .inl (cI, ((side + 1) * (side + 1)), .inl (fun j => nI (us.1 j)))), (a4, .inl (cI, ((side + 1) * (side + 1)), .inl (fun j => nI (us.2 j)))), (r1, .inl (cJ, (side + 1), .inr (.inl (fun j => lI (ub.1 j))))), (r2, .inl (cI, side, .inl (fun j => nI (ub.2.1 j)))), (r3, .inl (cJ, (side + 1), .inr (.inl (fun j => lI (ub.2.2.1 j))))), (r4, .inl (cI, side, .inl (fun j => iI (ub.2.2.2 j))))] := hD
  obtain ⟨er2, ub1, ub2, ub3⟩ := hw_21
  subst er2
  have z0 := (hB1 0).1 0 (by omega) (by omega)
  have z1 := (hB1 1).1 0 (by omega) (by omega)
  have y0 : (plan0 side kf th wi wo wn (fbare side IN) (floss side LO) cn 0).1 0 = (planT side kf (sbT side kf th wi wo wn (fbare side IN) (floss side LO) cn 0) (fun _ => 0) (fun _ => 0) side).1 0 := rfl
  have y1 : (plan0 side kf th wi wo wn (fbare side IN) (floss side LO) cn 1).1 0 = (planT side kf (sbT side kf th wi wo wn (fbare side IN) (floss side LO) cn 1) (fun _ => 0) (fun _ => 0) side).1 0 := rfl
  refine lv_lstore_n (lv' := [(3, .long (lI ((plan0 side kf th wi wo wn (fbare side IN) (floss side LO) cn 0).1 0))), (1, .long (lI ((plan0 side kf th wi wo wn (fbare side IN) (floss side LO) cn 1).1 0))), (0, .ref hs)]) hx hb d_SG_run_24 rfl hl (by decide) rfl (fun ls hl => ?_)
  refine lv_lload_n hx hb d_SG_run_25 rfl (lv_at hl 1 rfl) ?_
  refine lv_lload_n hx hb d_SG_run_26 rfl (lv_at hl 0 rfl) ?_
  refine ka_lcmp (lI_t (by omega) (by omega)) (lI_t (by omega) (by omega)) hx hb d_SG_run_27 ?_
  refine kb_le (tgt := 40) (cmpI_b _ _) hx hb d_SG_run_28 (by decide) (fun gc => ?_) (fun gc => ?_)
  · have gd_ := cmpI_le.mp gc
    refine lv_aload_n hx hb d_SG_run_40 rfl (lv_at hl 2 rfl) ?_
    refine va_get (D := D) (ci := 0) (v := .ref hb_) (C := R_SG) (T := T_SG) (N := 7) hx hb hts (fun w h => List.mem_cons_of_mem _ (iw_SG w h)) hown hK hP 0 rfl rfl 4 (by decide) (hts _ (List.mem_cons_of_mem _ k_182)) (fun _ h9 => h9) rfl d_SG_run_41 ?_
    refine lv_aload_n hx hb d_SG_run_44 rfl (lv_at hl 2 rfl) ?_
    refine va_get (D := D) (ci := 0) (v := .ref hp) (C := R_SG) (T := T_SG) (N := 7) hx hb hts (fun w h => List.mem_cons_of_mem _ (iw_SG w h)) hown hK hP 0 rfl rfl 5 (by decide) (hts _ (List.mem_cons_of_mem _ k_183)) (fun _ h9 => h9) rfl d_SG_run_45 ?_
    refine kcallv (wc := [(hb_, .inr (1, [.ref bo, .ref hz, .int (nI side), .int (nI kf), .int (nI 0), .ref r1, .ref r2, .ref r3, .ref r4])), (bo, .inr (2, [.ref hz, .ref h0])), (h0, .inr (3, [.int (nI side), .ref a1, .ref a2, .ref a3, .ref a4, .int (pI True)])), (hz, .inr (5, [.ref t1, .ref t2, .ref t3, .ref t4, .int (nI cn)])), (t1, .inl (cI, 8, .inl (fun j => nI (th j)))), (t2, .inl (cI, 8, .inl (fun j => nI (wi j)))), (t3, .inl (cI, 8, .inl (fun j => nI (wo j)))), (t4, .inl (cI, 8, .inl (fun j => nI (wn j)))), (a3, .inl (cI, ((side + 1) * (side + 1)), .inl (fun j => nI (us.1 j)))), (a4, .inl (cI, ((side + 1) * (side + 1)), .inl (fun j => nI (us.2 j)))), (r2, .inl (cI, side, .inl (fun j => nI (ub.2.1 j)))), (r3, .inl (cJ, (side + 1), .inr (.inl (fun j => lI (ub.2.2.1 j))))), (r4, .inl (cI, side, .inl (fun j => iI (ub.2.2.2 j)))), (hp, .inr (4, [.ref p1, .ref p2, .ref p3, .int (nI pt), .int (nI psl), .int (nI pc_), .int (iI pv), .int (nI pce)])), (p1, .inl (cI, pn, .inl (fun j => nI (g1 j)))), (p2, .inl (cI, pn, .inl (fun j => nI (g2 j)))), (p3, .inl (cI, pn, .inl (fun j => nI (g3 j))))]) (wr := [(hs, .inr (0, [.int (nI kf), .ref h0, .ref hz, .ref bo, .ref hb_, .ref hp, .int (pI sw)])), (a1, .inl (cZ, ((2 * side) * side), .inl (fun j => pI (IN j)))), (a2, .inl (cI, (side * side), .inl (fun j => nI (LO j)))), (r1, .inl (cJ, (side + 1), .inr (.inl (fun j => lI (ub.1 j)))))]) [7, 8, 9, 10, 11, 12, 13, 14, 15, 16, 18, 19, 20, 1, 2, 3, 4] [0, 5, 6, 17] (va_runV (As := [.ref hp]) (rest := []) ⟨hx, hb, hml, hown, hts⟩ (c_layOut l D cI cJ cZ H.size hb_ bo hz side kf 0 r1 r2 r3 r4 h0 a1 a2 a3 a4 True t1 t2 t3 t4 cn th wi wo wn us.1 us.2 (fbare side IN) (floss side LO) ub.2.1 ub.2.2.1 ub.2.2.2 hp p1 p2 p3 pt psl pc_ pv pce pn g1 g2 g3 s1 s2 k4 (by decide) n8 ht hw hw1 ho hn hw_4.1 hw_4.2 (fbare_le side IN) (floss_le hL) ub3 hpn (fun j hj => by
        rw [ub2 j hj]
        exact (hB1 0).2 j (by omega) hj)) ⟨callB_of 1 hts (gd kc_Be_layOut) rfl rfl rfl (hts _ (List.mem_cons_of_mem _ k_6)) (hts _ (List.mem_cons_of_mem _ k_263)) (by decide +kernel) ⟨Nat.le_of_ble_eq_true rfl, Nat.le_of_ble_eq_true rfl⟩, hts _ (List.mem_cons_of_mem _ k_264), hts _ (List.mem_cons_of_mem _ k_265)⟩ ⟨kB_blind, va_recv hK hP (ci := 1) (q0 := 7) rfl rfl, kB_at hP hD hK hZ [7, 8, 9, 10, 11, 12, 13, 14, 15, 16, 18, 19, 20, 1, 2, 3, 4] rfl (by decide) rfl⟩ rfl rfl hl.1 rfl (lv_room (Nat.le_of_ble_eq_true rfl)) d_SG_run_48 ⟨Nat.zero_le _, Nat.zero_le _⟩) hP hD hS hA rfl rfl (by decide) (by decide) (fun uz H locs hw_48 hP hD hS => ?_)
    have hP : va_P D vwCl [(hs, .inr (0, [.int (nI kf), .ref h0, .ref hz, .ref bo, .ref hb_, .ref hp, .int (pI sw)])), (a1, .inl (cZ, ((2 * side) * side), .inl (fun j => pI (IN j)))), (a2, .inl (cI, (side * side), .inl (fun j => nI (LO j)))), (r1, .inl (cJ, (side + 1), .inr (.inl (fun j => lI (ub.1 j))))), (hb_, .inr (1, [.ref bo, .ref hz, .int (nI side), .int (nI kf), .int (nI 0), .ref r1, .ref r2, .ref r3, .ref r4])), (bo, .inr (2, [.ref hz, .ref h0])), (h0, .inr (3, [.int (nI side), .ref a1, .ref a2, .ref a3, .ref a4, .int (pI True)])), (hz, .inr (5, [.ref t1, .ref t2, .ref t3, .ref t4, .int (nI cn)])), (t1, .inl (cI, 8, .inl (fun j => nI (th j)))), (t2, .inl (cI, 8, .inl (fun j => nI (wi j)))), (t3, .inl (cI, 8, .inl (fun j => nI (wo j)))), (t4, .inl (cI, 8, .inl (fun j => nI (wn j)))), (a3, .inl (cI, ((side + 1) * (side + 1)), .inl (fun j => nI (us.1 j)))), (a4, .inl (cI, ((side + 1) * (side + 1)), .inl (fun j => nI (us.2 j)))), (r2, .inl (cI, side, .inl (fun j => nI (ub.2.1 j)))), (r3, .inl (cJ, (side + 1), .inr (.inl (fun j => lI (uz.1 j))))), (r4, .inl (cI, side, .inl (fun j => iI (uz.2 j)))), (hp, .inr (4, [.ref p1, .ref p2, .ref p3, .int (nI 0), .int (nI ((layAll side kf cn 0 th wi wo wn (fbare side IN) (floss side LO) ub.2.1 (0, g1, g2, g3, 0, 0) side).2.1)), .int (nI ((layAll side kf cn 0 th wi wo wn (fbare side IN) (floss side LO) ub.2.1 (0, g1, g2, g3, 0, 0) side).2.2.1)), .int (iI ((layAll side kf cn 0 th wi wo wn (fbare side IN) (floss side LO) ub.2.1 (0, g1, g2, g3, 0, 0) side).2.2.2.2.2.2.1)), .int (nI ((layAll side kf cn 0 th wi wo wn (fbare side IN) (floss side LO) ub.2.1 (0, g1, g2, g3, 0, 0) side).2.2.2.2.2.2.2))])), (p1, .inl (cI, pn, .inl (fun j => nI (((layAll side kf cn 0 th wi wo wn (fbare side IN) (floss side LO) ub.2.1 (0, g1, g2, g3, 0, 0) side).2.2.2.1) j)))), (p2, .inl (cI, pn, .inl (fun j => nI (((layAll side kf cn 0 th wi wo wn (fbare side IN) (floss side LO) ub.2.1 (0, g1, g2, g3, 0, 0) side).2.2.2.2.1) j)))), (p3, .inl (cI, pn, .inl (fun j => nI (((layAll side kf cn 0 th wi wo wn (fbare side IN) (floss side LO) ub.2.1 (0, g1, g2, g3, 0, 0) side).2.2.2.2.2.1) j))))] H := hP
    have hD : va_D A [(hs, .inr (0, [.int (nI kf), .ref h0, .ref hz, .ref bo, .ref hb_, .ref hp, .int (pI sw)])), (a1, .inl (cZ, ((2 * side) * side), .inl (fun j => pI (IN j)))), (a2, .inl (cI, (side * side), .inl (fun j => nI (LO j)))), (r1, .inl (cJ, (side + 1), .inr (.inl (fun j => lI (ub.1 j))))), (hb_, .inr (1, [.ref bo, .ref hz, .int (nI side), .int (nI kf), .int (nI 0), .ref r1, .ref r2, .ref r3, .ref r4])), (bo, .inr (2, [.ref hz, .ref h0])), (h0, .inr (3, [.int (nI side), .ref a1, .ref a2, .ref a3, .ref a4, .int (pI True)])), (hz, .inr (5, [.ref t1, .ref t2, .ref t3, .ref t4, .int (nI cn)])), (t1, .inl (cI, 8, .inl (fun j => nI (th j)))), (t2, .inl (cI, 8, .inl (fun j => nI (wi j)))), (t3, .inl (cI, 8, .inl (fun j => nI (wo j)))), (t4, .inl (cI, 8, .inl (fun j => nI (wn j)))), (a3, .inl (cI, ((side + 1) * (side + 1)), .inl (fun j => nI (us.1 j)))), (a4, .inl (cI, ((side + 1) * (side + 1)), .inl (fun j => nI (us.2 j)))), (r2, .inl (cI, side, .inl (fun j => nI (ub.2.1 j)))), (r3, .inl (cJ, (side + 1), .inr (.inl (fun j => lI (uz.1 j))))), (r4, .inl (cI, side, .inl (fun j => iI (uz.2 j)))), (hp, .inr (4, [.ref p1, .ref p2, .ref p3, .int (nI 0), .int (nI ((layAll side kf cn 0 th wi wo wn (fbare side IN) (floss side LO) ub.2.1 (0, g1, g2, g3, 0, 0) side).2.1)), .int (nI ((layAll side kf cn 0 th wi wo wn (fbare side IN) (floss side LO) ub.2.1 (0, g1, g2, g3, 0, 0) side).2.2.1)), .int (iI ((layAll side kf cn 0 th wi wo wn (fbare side IN) (floss side LO) ub.2.1 (0, g1, g2, g3, 0, 0) side).2.2.2.2.2.2.1)), .int (nI ((layAll side kf cn 0 th wi wo wn (fbare side IN) (floss side LO) ub.2.1 (0, g1, g2, g3, 0, 0) side).2.2.2.2.2.2.2))])), (p1, .inl (cI, pn, .inl (fun j => nI (((layAll side kf cn 0 th wi wo wn (fbare side IN) (floss side LO) ub.2.1 (0, g1, g2, g3, 0, 0) side).2.2.2.1) j)))), (p2, .inl (cI, pn, .inl (fun j => nI (((layAll side kf cn 0 th wi wo wn (fbare side IN) (floss side LO) ub.2.1 (0, g1, g2, g3, 0, 0) side).2.2.2.2.1) j)))), (p3, .inl (cI, pn, .inl (fun j => nI (((layAll side kf cn 0 th wi wo wn (fbare side IN) (floss side LO) ub.2.1 (0, g1, g2, g3, 0, 0) side).2.2.2.2.2.1) j))))] := hD
    have eL := layAll_congr (side := side) (kf := kf) (cn := cn) (tn := 0) (th := th) (wi := wi) (wo := wo) (wn := wn) (fb := fbare side IN) (fl := floss side LO) (s0 := (0, g1, g2, g3, 0, 0)) side (fun j hj => ub2 j hj)
    rw [eL] at hP hD
    have hP : va_P D vwCl [(hs, .inr (0, [.int (nI kf), .ref h0, .ref hz, .ref bo, .ref hb_, .ref hp, .int (pI sw)])), (a1, .inl (cZ, ((2 * side) * side), .inl (fun j => pI (IN j)))), (a2, .inl (cI, (side * side), .inl (fun j => nI (LO j)))), (r1, .inl (cJ, (side + 1), .inr (.inl (fun j => lI (ub.1 j))))), (hb_, .inr (1, [.ref bo, .ref hz, .int (nI side), .int (nI kf), .int (nI 0), .ref r1, .ref r2, .ref r3, .ref r4])), (bo, .inr (2, [.ref hz, .ref h0])), (h0, .inr (3, [.int (nI side), .ref a1, .ref a2, .ref a3, .ref a4, .int (pI True)])), (hz, .inr (5, [.ref t1, .ref t2, .ref t3, .ref t4, .int (nI cn)])), (t1, .inl (cI, 8, .inl (fun j => nI (th j)))), (t2, .inl (cI, 8, .inl (fun j => nI (wi j)))), (t3, .inl (cI, 8, .inl (fun j => nI (wo j)))), (t4, .inl (cI, 8, .inl (fun j => nI (wn j)))), (a3, .inl (cI, ((side + 1) * (side + 1)), .inl (fun j => nI (us.1 j)))), (a4, .inl (cI, ((side + 1) * (side + 1)), .inl (fun j => nI (us.2 j)))), (r2, .inl (cI, side, .inl (fun j => nI (ub.2.1 j)))), (r3, .inl (cJ, (side + 1), .inr (.inl (fun j => lI (uz.1 j))))), (r4, .inl (cI, side, .inl (fun j => iI (uz.2 j)))), (hp, .inr (4, [.ref p1, .ref p2, .ref p3, .int (nI 0), .int (nI ((layAll side kf cn 0 th wi wo wn (fbare side IN) (floss side LO) (plan0 side kf th wi wo wn (fbare side IN) (floss side LO) cn 0).2 (0, g1, g2, g3, 0, 0) side).2.1)), .int (nI ((layAll side kf cn 0 th wi wo wn (fbare side IN) (floss side LO) (plan0 side kf th wi wo wn (fbare side IN) (floss side LO) cn 0).2 (0, g1, g2, g3, 0, 0) side).2.2.1)), .int (iI ((layAll side kf cn 0 th wi wo wn (fbare side IN) (floss side LO) (plan0 side kf th wi wo wn (fbare side IN) (floss side LO) cn 0).2 (0, g1, g2, g3, 0, 0) side).2.2.2.2.2.2.1)), .int (nI ((layAll side kf cn 0 th wi wo wn (fbare side IN) (floss side LO) (plan0 side kf th wi wo wn (fbare side IN) (floss side LO) cn 0).2 (0, g1, g2, g3, 0, 0) side).2.2.2.2.2.2.2))])), (p1, .inl (cI, pn, .inl (fun j => nI (((layAll side kf cn 0 th wi wo wn (fbare side IN) (floss side LO) (plan0 side kf th wi wo wn (fbare side IN) (floss side LO) cn 0).2 (0, g1, g2, g3, 0, 0) side).2.2.2.1) j)))), (p2, .inl (cI, pn, .inl (fun j => nI (((layAll side kf cn 0 th wi wo wn (fbare side IN) (floss side LO) (plan0 side kf th wi wo wn (fbare side IN) (floss side LO) cn 0).2 (0, g1, g2, g3, 0, 0) side).2.2.2.2.1) j)))), (p3, .inl (cI, pn, .inl (fun j => nI (((layAll side kf cn 0 th wi wo wn (fbare side IN) (floss side LO) (plan0 side kf th wi wo wn (fbare side IN) (floss side LO) cn 0).2 (0, g1, g2, g3, 0, 0) side).2.2.2.2.2.1) j))))] H := hP
    have hD : va_D A [(hs, .inr (0, [.int (nI kf), .ref h0, .ref hz, .ref bo, .ref hb_, .ref hp, .int (pI sw)])), (a1, .inl (cZ, ((2 * side) * side), .inl (fun j => pI (IN j)))), (a2, .inl (cI, (side * side), .inl (fun j => nI (LO j)))), (r1, .inl (cJ, (side + 1), .inr (.inl (fun j => lI (ub.1 j))))), (hb_, .inr (1, [.ref bo, .ref hz, .int (nI side), .int (nI kf), .int (nI 0), .ref r1, .ref r2, .ref r3, .ref r4])), (bo, .inr (2, [.ref hz, .ref h0])), (h0, .inr (3, [.int (nI side), .ref a1, .ref a2, .ref a3, .ref a4, .int (pI True)])), (hz, .inr (5, [.ref t1, .ref t2, .ref t3, .ref t4, .int (nI cn)])), (t1, .inl (cI, 8, .inl (fun j => nI (th j)))), (t2, .inl (cI, 8, .inl (fun j => nI (wi j)))), (t3, .inl (cI, 8, .inl (fun j => nI (wo j)))), (t4, .inl (cI, 8, .inl (fun j => nI (wn j)))), (a3, .inl (cI, ((side + 1) * (side + 1)), .inl (fun j => nI (us.1 j)))), (a4, .inl (cI, ((side + 1) * (side + 1)), .inl (fun j => nI (us.2 j)))), (r2, .inl (cI, side, .inl (fun j => nI (ub.2.1 j)))), (r3, .inl (cJ, (side + 1), .inr (.inl (fun j => lI (uz.1 j))))), (r4, .inl (cI, side, .inl (fun j => iI (uz.2 j)))), (hp, .inr (4, [.ref p1, .ref p2, .ref p3, .int (nI 0), .int (nI ((layAll side kf cn 0 th wi wo wn (fbare side IN) (floss side LO) (plan0 side kf th wi wo wn (fbare side IN) (floss side LO) cn 0).2 (0, g1, g2, g3, 0, 0) side).2.1)), .int (nI ((layAll side kf cn 0 th wi wo wn (fbare side IN) (floss side LO) (plan0 side kf th wi wo wn (fbare side IN) (floss side LO) cn 0).2 (0, g1, g2, g3, 0, 0) side).2.2.1)), .int (iI ((layAll side kf cn 0 th wi wo wn (fbare side IN) (floss side LO) (plan0 side kf th wi wo wn (fbare side IN) (floss side LO) cn 0).2 (0, g1, g2, g3, 0, 0) side).2.2.2.2.2.2.1)), .int (nI ((layAll side kf cn 0 th wi wo wn (fbare side IN) (floss side LO) (plan0 side kf th wi wo wn (fbare side IN) (floss side LO) cn 0).2 (0, g1, g2, g3, 0, 0) side).2.2.2.2.2.2.2))])), (p1, .inl (cI, pn, .inl (fun j => nI (((layAll side kf cn 0 th wi wo wn (fbare side IN) (floss side LO) (plan0 side kf th wi wo wn (fbare side IN) (floss side LO) cn 0).2 (0, g1, g2, g3, 0, 0) side).2.2.2.1) j)))), (p2, .inl (cI, pn, .inl (fun j => nI (((layAll side kf cn 0 th wi wo wn (fbare side IN) (floss side LO) (plan0 side kf th wi wo wn (fbare side IN) (floss side LO) cn 0).2 (0, g1, g2, g3, 0, 0) side).2.2.2.2.1) j)))), (p3, .inl (cI, pn, .inl (fun j => nI (((layAll side kf cn 0 th wi wo wn (fbare side IN) (floss side LO) (plan0 side kf th wi wo wn (fbare side IN) (floss side LO) cn 0).2 (0, g1, g2, g3, 0, 0) side).2.2.2.2.2.1) j))))] := hD
    refine lv_aload_n hx hb d_SG_run_51 rfl (lv_at hl 2 rfl) ?_
    refine lv_iconst (v := nI 1) hx hb d_SG_run_52 (by decide +kernel) ?_
    refine ka_i (y := pI True) (pI_1 trivial) ?_
    refine va_put (D := D) (ci := 0) (v := .int (pI True)) (ty := .boolean) (C := R_SG) (T := T_SG) (N := 7) hx hb hts (fun w h => List.mem_cons_of_mem _ (iw_SG w h)) ty_SG tyok_SG nm_SG hown hK hP hD hS 0 rfl rfl 6 (by decide) (hts _ (List.mem_cons_of_mem _ k_184)) (fun _ h9 => h9) rfl (by decide +kernel) (pI_narrow _) (pI_fits _) (Nat.le_of_ble_eq_true rfl) d_SG_run_53 (fun H locs hP hD hS => ?_)
    have hP : va_P D vwCl [(hs, .inr (0, [.int (nI kf), .ref h0, .ref hz, .ref bo, .ref hb_, .ref hp, .int (pI True)])), (a1, .inl (cZ, ((2 * side) * side), .inl (fun j => pI (IN j)))), (a2, .inl (cI, (side * side), .inl (fun j => nI (LO j)))), (r1, .inl (cJ, (side + 1), .inr (.inl (fun j => lI (ub.1 j))))), (hb_, .inr (1, [.ref bo, .ref hz, .int (nI side), .int (nI kf), .int (nI 0), .ref r1, .ref r2, .ref r3, .ref r4])), (bo, .inr (2, [.ref hz, .ref h0])), (h0, .inr (3, [.int (nI side), .ref a1, .ref a2, .ref a3, .ref a4, .int (pI True)])), (hz, .inr (5, [.ref t1, .ref t2, .ref t3, .ref t4, .int (nI cn)])), (t1, .inl (cI, 8, .inl (fun j => nI (th j)))), (t2, .inl (cI, 8, .inl (fun j => nI (wi j)))), (t3, .inl (cI, 8, .inl (fun j => nI (wo j)))), (t4, .inl (cI, 8, .inl (fun j => nI (wn j)))), (a3, .inl (cI, ((side + 1) * (side + 1)), .inl (fun j => nI (us.1 j)))), (a4, .inl (cI, ((side + 1) * (side + 1)), .inl (fun j => nI (us.2 j)))), (r2, .inl (cI, side, .inl (fun j => nI (ub.2.1 j)))), (r3, .inl (cJ, (side + 1), .inr (.inl (fun j => lI (uz.1 j))))), (r4, .inl (cI, side, .inl (fun j => iI (uz.2 j)))), (hp, .inr (4, [.ref p1, .ref p2, .ref p3, .int (nI 0), .int (nI ((layAll side kf cn 0 th wi wo wn (fbare side IN) (floss side LO) (plan0 side kf th wi wo wn (fbare side IN) (floss side LO) cn 0).2 (0, g1, g2, g3, 0, 0) side).2.1)), .int (nI ((layAll side kf cn 0 th wi wo wn (fbare side IN) (floss side LO) (plan0 side kf th wi wo wn (fbare side IN) (floss side LO) cn 0).2 (0, g1, g2, g3, 0, 0) side).2.2.1)), .int (iI ((layAll side kf cn 0 th wi wo wn (fbare side IN) (floss side LO) (plan0 side kf th wi wo wn (fbare side IN) (floss side LO) cn 0).2 (0, g1, g2, g3, 0, 0) side).2.2.2.2.2.2.1)), .int (nI ((layAll side kf cn 0 th wi wo wn (fbare side IN) (floss side LO) (plan0 side kf th wi wo wn (fbare side IN) (floss side LO) cn 0).2 (0, g1, g2, g3, 0, 0) side).2.2.2.2.2.2.2))])), (p1, .inl (cI, pn, .inl (fun j => nI (((layAll side kf cn 0 th wi wo wn (fbare side IN) (floss side LO) (plan0 side kf th wi wo wn (fbare side IN) (floss side LO) cn 0).2 (0, g1, g2, g3, 0, 0) side).2.2.2.1) j)))), (p2, .inl (cI, pn, .inl (fun j => nI (((layAll side kf cn 0 th wi wo wn (fbare side IN) (floss side LO) (plan0 side kf th wi wo wn (fbare side IN) (floss side LO) cn 0).2 (0, g1, g2, g3, 0, 0) side).2.2.2.2.1) j)))), (p3, .inl (cI, pn, .inl (fun j => nI (((layAll side kf cn 0 th wi wo wn (fbare side IN) (floss side LO) (plan0 side kf th wi wo wn (fbare side IN) (floss side LO) cn 0).2 (0, g1, g2, g3, 0, 0) side).2.2.2.2.2.1) j))))] H := hP
    have hD : va_D A [(hs, .inr (0, [.int (nI kf), .ref h0, .ref hz, .ref bo, .ref hb_, .ref hp, .int (pI True)])), (a1, .inl (cZ, ((2 * side) * side), .inl (fun j => pI (IN j)))), (a2, .inl (cI, (side * side), .inl (fun j => nI (LO j)))), (r1, .inl (cJ, (side + 1), .inr (.inl (fun j => lI (ub.1 j))))), (hb_, .inr (1, [.ref bo, .ref hz, .int (nI side), .int (nI kf), .int (nI 0), .ref r1, .ref r2, .ref r3, .ref r4])), (bo, .inr (2, [.ref hz, .ref h0])), (h0, .inr (3, [.int (nI side), .ref a1, .ref a2, .ref a3, .ref a4, .int (pI True)])), (hz, .inr (5, [.ref t1, .ref t2, .ref t3, .ref t4, .int (nI cn)])), (t1, .inl (cI, 8, .inl (fun j => nI (th j)))), (t2, .inl (cI, 8, .inl (fun j => nI (wi j)))), (t3, .inl (cI, 8, .inl (fun j => nI (wo j)))), (t4, .inl (cI, 8, .inl (fun j => nI (wn j)))), (a3, .inl (cI, ((side + 1) * (side + 1)), .inl (fun j => nI (us.1 j)))), (a4, .inl (cI, ((side + 1) * (side + 1)), .inl (fun j => nI (us.2 j)))), (r2, .inl (cI, side, .inl (fun j => nI (ub.2.1 j)))), (r3, .inl (cJ, (side + 1), .inr (.inl (fun j => lI (uz.1 j))))), (r4, .inl (cI, side, .inl (fun j => iI (uz.2 j)))), (hp, .inr (4, [.ref p1, .ref p2, .ref p3, .int (nI 0), .int (nI ((layAll side kf cn 0 th wi wo wn (fbare side IN) (floss side LO) (plan0 side kf th wi wo wn (fbare side IN) (floss side LO) cn 0).2 (0, g1, g2, g3, 0, 0) side).2.1)), .int (nI ((layAll side kf cn 0 th wi wo wn (fbare side IN) (floss side LO) (plan0 side kf th wi wo wn (fbare side IN) (floss side LO) cn 0).2 (0, g1, g2, g3, 0, 0) side).2.2.1)), .int (iI ((layAll side kf cn 0 th wi wo wn (fbare side IN) (floss side LO) (plan0 side kf th wi wo wn (fbare side IN) (floss side LO) cn 0).2 (0, g1, g2, g3, 0, 0) side).2.2.2.2.2.2.1)), .int (nI ((layAll side kf cn 0 th wi wo wn (fbare side IN) (floss side LO) (plan0 side kf th wi wo wn (fbare side IN) (floss side LO) cn 0).2 (0, g1, g2, g3, 0, 0) side).2.2.2.2.2.2.2))])), (p1, .inl (cI, pn, .inl (fun j => nI (((layAll side kf cn 0 th wi wo wn (fbare side IN) (floss side LO) (plan0 side kf th wi wo wn (fbare side IN) (floss side LO) cn 0).2 (0, g1, g2, g3, 0, 0) side).2.2.2.1) j)))), (p2, .inl (cI, pn, .inl (fun j => nI (((layAll side kf cn 0 th wi wo wn (fbare side IN) (floss side LO) (plan0 side kf th wi wo wn (fbare side IN) (floss side LO) cn 0).2 (0, g1, g2, g3, 0, 0) side).2.2.2.2.1) j)))), (p3, .inl (cI, pn, .inl (fun j => nI (((layAll side kf cn 0 th wi wo wn (fbare side IN) (floss side LO) (plan0 side kf th wi wo wn (fbare side IN) (floss side LO) cn 0).2 (0, g1, g2, g3, 0, 0) side).2.2.2.2.2.1) j))))] := hD
    refine lv_aload_n hx hb d_SG_run_56 rfl (lv_at hl 2 rfl) ?_
    refine va_get (D := D) (ci := 0) (v := .ref hp) (C := R_SG) (T := T_SG) (N := 7) hx hb hts (fun w h => List.mem_cons_of_mem _ (iw_SG w h)) hown hK hP 0 rfl rfl 5 (by decide) (hts _ (List.mem_cons_of_mem _ k_183)) (fun _ h9 => h9) rfl d_SG_run_57 ?_
    refine va_get (D := D) (ci := 4) (v := .int (nI ((layAll side kf cn 0 th wi wo wn (fbare side IN) (floss side LO) (plan0 side kf th wi wo wn (fbare side IN) (floss side LO) cn 0).2 (0, g1, g2, g3, 0, 0) side).2.2.1))) (C := R_Pa) (T := T_Pa) (N := 8) hx hb hts (fun w h => List.mem_cons_of_mem _ (iw_Pa w h)) hown hK hP 17 rfl rfl 5 (by decide) (hts _ (List.mem_cons_of_mem _ k_154)) (fun _ h9 => h9) rfl d_SG_run_60 ?_
    have hP := hP.sub (ws' := [(hs, .inr (0, [.int (nI kf), .ref h0, .ref hz, .ref bo, .ref hb_, .ref hp, .int (pI True)])), (h0, .inr (3, [.int (nI side), .ref a1, .ref a2, .ref a3, .ref a4, .int (pI True)])), (a1, .inl (cZ, ((2 * side) * side), .inl (fun j => pI (IN j)))), (a2, .inl (cI, (side * side), .inl (fun j => nI (LO j)))), (a3, .inl (cI, ((side + 1) * (side + 1)), .inl (fun j => nI (us.1 j)))), (a4, .inl (cI, ((side + 1) * (side + 1)), .inl (fun j => nI (us.2 j)))), (hz, .inr (5, [.ref t1, .ref t2, .ref t3, .ref t4, .int (nI cn)])), (t1, .inl (cI, 8, .inl (fun j => nI (th j)))), (t2, .inl (cI, 8, .inl (fun j => nI (wi j)))), (t3, .inl (cI, 8, .inl (fun j => nI (wo j)))), (t4, .inl (cI, 8, .inl (fun j => nI (wn j)))), (bo, .inr (2, [.ref hz, .ref h0])), (hb_, .inr (1, [.ref bo, .ref hz, .int (nI side), .int (nI kf), .int (nI 0), .ref r1, .ref r2, .ref r3, .ref r4])), (r1, .inl (cJ, (side + 1), .inr (.inl (fun j => lI (ub.1 j))))), (r2, .inl (cI, side, .inl (fun j => nI (ub.2.1 j)))), (r3, .inl (cJ, (side + 1), .inr (.inl (fun j => lI (uz.1 j))))), (r4, .inl (cI, side, .inl (fun j => iI (uz.2 j)))), (hp, .inr (4, [.ref p1, .ref p2, .ref p3, .int (nI 0), .int (nI ((layAll side kf cn 0 th wi wo wn (fbare side IN) (floss side LO) (plan0 side kf th wi wo wn (fbare side IN) (floss side LO) cn 0).2 (0, g1, g2, g3, 0, 0) side).2.1)), .int (nI ((layAll side kf cn 0 th wi wo wn (fbare side IN) (floss side LO) (plan0 side kf th wi wo wn (fbare side IN) (floss side LO) cn 0).2 (0, g1, g2, g3, 0, 0) side).2.2.1)), .int (iI ((layAll side kf cn 0 th wi wo wn (fbare side IN) (floss side LO) (plan0 side kf th wi wo wn (fbare side IN) (floss side LO) cn 0).2 (0, g1, g2, g3, 0, 0) side).2.2.2.2.2.2.1)), .int (nI ((layAll side kf cn 0 th wi wo wn (fbare side IN) (floss side LO) (plan0 side kf th wi wo wn (fbare side IN) (floss side LO) cn 0).2 (0, g1, g2, g3, 0, 0) side).2.2.2.2.2.2.2))])), (p1, .inl (cI, pn, .inl (fun j => nI (((layAll side kf cn 0 th wi wo wn (fbare side IN) (floss side LO) (plan0 side kf th wi wo wn (fbare side IN) (floss side LO) cn 0).2 (0, g1, g2, g3, 0, 0) side).2.2.2.1) j)))), (p2, .inl (cI, pn, .inl (fun j => nI (((layAll side kf cn 0 th wi wo wn (fbare side IN) (floss side LO) (plan0 side kf th wi wo wn (fbare side IN) (floss side LO) cn 0).2 (0, g1, g2, g3, 0, 0) side).2.2.2.2.1) j)))), (p3, .inl (cI, pn, .inl (fun j => nI (((layAll side kf cn 0 th wi wo wn (fbare side IN) (floss side LO) (plan0 side kf th wi wo wn (fbare side IN) (floss side LO) cn 0).2 (0, g1, g2, g3, 0, 0) side).2.2.2.2.2.1) j))))]) [0, 6, 1, 2, 12, 13, 7, 8, 9, 10, 11, 5, 4, 3, 14, 15, 16, 17, 18, 19, 20] rfl
    have hD := hD.sub (ws' := [(hs, .inr (0, [.int (nI kf), .ref h0, .ref hz, .ref bo, .ref hb_, .ref hp, .int (pI True)])), (h0, .inr (3, [.int (nI side), .ref a1, .ref a2, .ref a3, .ref a4, .int (pI True)])), (a1, .inl (cZ, ((2 * side) * side), .inl (fun j => pI (IN j)))), (a2, .inl (cI, (side * side), .inl (fun j => nI (LO j)))), (a3, .inl (cI, ((side + 1) * (side + 1)), .inl (fun j => nI (us.1 j)))), (a4, .inl (cI, ((side + 1) * (side + 1)), .inl (fun j => nI (us.2 j)))), (hz, .inr (5, [.ref t1, .ref t2, .ref t3, .ref t4, .int (nI cn)])), (t1, .inl (cI, 8, .inl (fun j => nI (th j)))), (t2, .inl (cI, 8, .inl (fun j => nI (wi j)))), (t3, .inl (cI, 8, .inl (fun j => nI (wo j)))), (t4, .inl (cI, 8, .inl (fun j => nI (wn j)))), (bo, .inr (2, [.ref hz, .ref h0])), (hb_, .inr (1, [.ref bo, .ref hz, .int (nI side), .int (nI kf), .int (nI 0), .ref r1, .ref r2, .ref r3, .ref r4])), (r1, .inl (cJ, (side + 1), .inr (.inl (fun j => lI (ub.1 j))))), (r2, .inl (cI, side, .inl (fun j => nI (ub.2.1 j)))), (r3, .inl (cJ, (side + 1), .inr (.inl (fun j => lI (uz.1 j))))), (r4, .inl (cI, side, .inl (fun j => iI (uz.2 j)))), (hp, .inr (4, [.ref p1, .ref p2, .ref p3, .int (nI 0), .int (nI ((layAll side kf cn 0 th wi wo wn (fbare side IN) (floss side LO) (plan0 side kf th wi wo wn (fbare side IN) (floss side LO) cn 0).2 (0, g1, g2, g3, 0, 0) side).2.1)), .int (nI ((layAll side kf cn 0 th wi wo wn (fbare side IN) (floss side LO) (plan0 side kf th wi wo wn (fbare side IN) (floss side LO) cn 0).2 (0, g1, g2, g3, 0, 0) side).2.2.1)), .int (iI ((layAll side kf cn 0 th wi wo wn (fbare side IN) (floss side LO) (plan0 side kf th wi wo wn (fbare side IN) (floss side LO) cn 0).2 (0, g1, g2, g3, 0, 0) side).2.2.2.2.2.2.1)), .int (nI ((layAll side kf cn 0 th wi wo wn (fbare side IN) (floss side LO) (plan0 side kf th wi wo wn (fbare side IN) (floss side LO) cn 0).2 (0, g1, g2, g3, 0, 0) side).2.2.2.2.2.2.2))])), (p1, .inl (cI, pn, .inl (fun j => nI (((layAll side kf cn 0 th wi wo wn (fbare side IN) (floss side LO) (plan0 side kf th wi wo wn (fbare side IN) (floss side LO) cn 0).2 (0, g1, g2, g3, 0, 0) side).2.2.2.1) j)))), (p2, .inl (cI, pn, .inl (fun j => nI (((layAll side kf cn 0 th wi wo wn (fbare side IN) (floss side LO) (plan0 side kf th wi wo wn (fbare side IN) (floss side LO) cn 0).2 (0, g1, g2, g3, 0, 0) side).2.2.2.2.1) j)))), (p3, .inl (cI, pn, .inl (fun j => nI (((layAll side kf cn 0 th wi wo wn (fbare side IN) (floss side LO) (plan0 side kf th wi wo wn (fbare side IN) (floss side LO) cn 0).2 (0, g1, g2, g3, 0, 0) side).2.2.2.2.2.1) j))))]) [0, 6, 1, 2, 12, 13, 7, 8, 9, 10, 11, 5, 4, 3, 14, 15, 16, 17, 18, 19, 20] (by decide) rfl
    exact kreti (u := (0, us.1, us.2, ub.1, ub.2.1, uz.1, uz.2)) hx hb hr hP hD hS hlocks rfl (⟨rfl, by rw [if_neg (by omega)], hw_4.1, hw_4.2, (by
        rw [ub1 side (Nat.le_refl _)]
        have h9 := (hB1 0).1 side (by omega) (Nat.le_refl _)
        unfold plan0
        omega), hw_48⟩) d_SG_run_63
  · have gd_ := cmpI_gt.mp gc
    refine lv_aload_n hx hb d_SG_run_31 rfl (lv_at hl 2 rfl) ?_
    refine va_get (D := D) (ci := 0) (v := .ref hb_) (C := R_SG) (T := T_SG) (N := 7) hx hb hts (fun w h => List.mem_cons_of_mem _ (iw_SG w h)) hown hK hP 0 rfl rfl 4 (by decide) (hts _ (List.mem_cons_of_mem _ k_182)) (fun _ h9 => h9) rfl d_SG_run_32 ?_
    refine lv_iconst (v := nI 1) hx hb d_SG_run_35 (by decide +kernel) ?_
    refine kcalll (wc := [(hb_, .inr (1, [.ref bo, .ref hz, .int (nI side), .int (nI kf), .int (nI 0), .ref r1, .ref r2, .ref r3, .ref r4])), (bo, .inr (2, [.ref hz, .ref h0])), (h0, .inr (3, [.int (nI side), .ref a1, .ref a2, .ref a3, .ref a4, .int (pI True)])), (hz, .inr (5, [.ref t1, .ref t2, .ref t3, .ref t4, .int (nI cn)])), (t1, .inl (cI, 8, .inl (fun j => nI (th j)))), (t2, .inl (cI, 8, .inl (fun j => nI (wi j)))), (t3, .inl (cI, 8, .inl (fun j => nI (wo j)))), (t4, .inl (cI, 8, .inl (fun j => nI (wn j)))), (a3, .inl (cI, ((side + 1) * (side + 1)), .inl (fun j => nI (us.1 j)))), (a4, .inl (cI, ((side + 1) * (side + 1)), .inl (fun j => nI (us.2 j)))), (r1, .inl (cJ, (side + 1), .inr (.inl (fun j => lI (ub.1 j))))), (r2, .inl (cI, side, .inl (fun j => nI (ub.2.1 j)))), (r3, .inl (cJ, (side + 1), .inr (.inl (fun j => lI (ub.2.2.1 j))))), (r4, .inl (cI, side, .inl (fun j => iI (ub.2.2.2 j))))]) (wr := [(hs, .inr (0, [.int (nI kf), .ref h0, .ref hz, .ref bo, .ref hb_, .ref hp, .int (pI sw)])), (hp, .inr (4, [.ref p1, .ref p2, .ref p3, .int (nI pt), .int (nI psl), .int (nI pc_), .int (iI pv), .int (nI pce)])), (p1, .inl (cI, pn, .inl (fun j => nI (g1 j)))), (p2, .inl (cI, pn, .inl (fun j => nI (g2 j)))), (p3, .inl (cI, pn, .inl (fun j => nI (g3 j)))), (a1, .inl (cZ, ((2 * side) * side), .inl (fun j => pI (IN j)))), (a2, .inl (cI, (side * side), .inl (fun j => nI (LO j))))]) [7, 8, 9, 10, 11, 12, 13, 14, 15, 16, 17, 18, 19, 20] [0, 1, 2, 3, 4, 5, 6] (va_runV (As := [.int (nI 1)]) (rest := []) ⟨hx, hb, hml, hown, hts⟩ (c_plan l D cI cJ cZ H.size hb_ bo hz side kf 0 r1 r2 r3 r4 h0 a1 a2 a3 a4 True t1 t2 t3 t4 cn th wi wo wn us.1 us.2 (fbare side IN) (floss side LO) ub.1 ub.2.1 ub.2.2.1 ub.2.2.2 1 s1 s2 k4 (by decide) n8 ht hw hw1 ho hn hw_4.1 hw_4.2 (fbare_le side IN) (floss_le hL) (by decide) ub3 (by
        rw [ub1 side (Nat.le_refl _)]
        have h9 := (hB1 0).1 side (by omega) (Nat.le_refl _)
        unfold plan0
        omega)) ⟨callB_of 1 hts (gd kc_Be_plan) rfl rfl rfl (hts _ (List.mem_cons_of_mem _ k_6)) (hts _ (List.mem_cons_of_mem _ k_212)) (by decide +kernel) ⟨Nat.le_of_ble_eq_true rfl, Nat.le_of_ble_eq_true rfl⟩, hts _ (List.mem_cons_of_mem _ k_213), hts _ (List.mem_cons_of_mem _ k_214)⟩ ⟨kB_blind, va_recv hK hP (ci := 1) (q0 := 7) rfl rfl, kB_at hP hD hK hZ [7, 8, 9, 10, 11, 12, 13, 14, 15, 16, 17, 18, 19, 20] rfl (by decide) rfl⟩ rfl rfl hl.1 rfl (lv_room (Nat.le_of_ble_eq_true rfl)) d_SG_run_36 ⟨Nat.zero_le _, Nat.zero_le _⟩) hP hD hS hA rfl rfl (by decide) (by decide) (fun r_36 uc H locs hw_36 hP hD hS => ?_)
    have hP : va_P D vwCl [(hs, .inr (0, [.int (nI kf), .ref h0, .ref hz, .ref bo, .ref hb_, .ref hp, .int (pI sw)])), (hp, .inr (4, [.ref p1, .ref p2, .ref p3, .int (nI pt), .int (nI psl), .int (nI pc_), .int (iI pv), .int (nI pce)])), (p1, .inl (cI, pn, .inl (fun j => nI (g1 j)))), (p2, .inl (cI, pn, .inl (fun j => nI (g2 j)))), (p3, .inl (cI, pn, .inl (fun j => nI (g3 j)))), (a1, .inl (cZ, ((2 * side) * side), .inl (fun j => pI (IN j)))), (a2, .inl (cI, (side * side), .inl (fun j => nI (LO j)))), (hb_, .inr (1, [.ref bo, .ref hz, .int (nI side), .int (nI kf), .int (nI 1), .ref r1, .ref r2, .ref r3, .ref r4])), (bo, .inr (2, [.ref hz, .ref h0])), (h0, .inr (3, [.int (nI side), .ref a1, .ref a2, .ref a3, .ref a4, .int (pI True)])), (hz, .inr (5, [.ref t1, .ref t2, .ref t3, .ref t4, .int (nI cn)])), (t1, .inl (cI, 8, .inl (fun j => nI (th j)))), (t2, .inl (cI, 8, .inl (fun j => nI (wi j)))), (t3, .inl (cI, 8, .inl (fun j => nI (wo j)))), (t4, .inl (cI, 8, .inl (fun j => nI (wn j)))), (a3, .inl (cI, ((side + 1) * (side + 1)), .inl (fun j => nI (us.1 j)))), (a4, .inl (cI, ((side + 1) * (side + 1)), .inl (fun j => nI (us.2 j)))), (r1, .inl (cJ, (side + 1), .inr (.inl (fun j => lI (uc.1 j))))), (r2, .inl (cI, side, .inl (fun j => nI (uc.2.1 j)))), (r3, .inl (cJ, (side + 1), .inr (.inl (fun j => lI (uc.2.2.1 j))))), (r4, .inl (cI, side, .inl (fun j => iI (uc.2.2.2 j))))] H := hP
    have hD : va_D A [(hs, .inr (0, [.int (nI kf), .ref h0, .ref hz, .ref bo, .ref hb_, .ref hp, .int (pI sw)])), (hp, .inr (4, [.ref p1, .ref p2, .ref p3, .int (nI pt), .int (nI psl), .int (nI pc_), .int (iI pv), .int (nI pce)])), (p1, .inl (cI, pn, .inl (fun j => nI (g1 j)))), (p2, .inl (cI, pn, .inl (fun j => nI (g2 j)))), (p3, .inl (cI, pn, .inl (fun j => nI (g3 j)))), (a1, .inl (cZ, ((2 * side) * side), .inl (fun j => pI (IN j)))), (a2, .inl (cI, (side * side), .inl (fun j => nI (LO j)))), (hb_, .inr (1, [.ref bo, .ref hz, .int (nI side), .int (nI kf), .int (nI 1), .ref r1, .ref r2, .ref r3, .ref r4])), (bo, .inr (2, [.ref hz, .ref h0])), (h0, .inr (3, [.int (nI side), .ref a1, .ref a2, .ref a3, .ref a4, .int (pI True)])), (hz, .inr (5, [.ref t1, .ref t2, .ref t3, .ref t4, .int (nI cn)])), (t1, .inl (cI, 8, .inl (fun j => nI (th j)))), (t2, .inl (cI, 8, .inl (fun j => nI (wi j)))), (t3, .inl (cI, 8, .inl (fun j => nI (wo j)))), (t4, .inl (cI, 8, .inl (fun j => nI (wn j)))), (a3, .inl (cI, ((side + 1) * (side + 1)), .inl (fun j => nI (us.1 j)))), (a4, .inl (cI, ((side + 1) * (side + 1)), .inl (fun j => nI (us.2 j)))), (r1, .inl (cJ, (side + 1), .inr (.inl (fun j => lI (uc.1 j))))), (r2, .inl (cI, side, .inl (fun j => nI (uc.2.1 j)))), (r3, .inl (cJ, (side + 1), .inr (.inl (fun j => lI (uc.2.2.1 j))))), (r4, .inl (cI, side, .inl (fun j => iI (uc.2.2.2 j))))] := hD
    obtain ⟨er3, uc1, uc2, uc3⟩ := hw_36
    subst er3
    refine lv_pop2_2 hx hb d_SG_run_39 rfl ?_
    refine lv_aload_n hx hb d_SG_run_40 rfl (lv_at hl 2 rfl) ?_
    refine va_get (D := D) (ci := 0) (v := .ref hb_) (C := R_SG) (T := T_SG) (N := 7) hx hb hts (fun w h => List.mem_cons_of_mem _ (iw_SG w h)) hown hK hP 0 rfl rfl 4 (by decide) (hts _ (List.mem_cons_of_mem _ k_182)) (fun _ h9 => h9) rfl d_SG_run_41 ?_
    refine lv_aload_n hx hb d_SG_run_44 rfl (lv_at hl 2 rfl) ?_
    refine va_get (D := D) (ci := 0) (v := .ref hp) (C := R_SG) (T := T_SG) (N := 7) hx hb hts (fun w h => List.mem_cons_of_mem _ (iw_SG w h)) hown hK hP 0 rfl rfl 5 (by decide) (hts _ (List.mem_cons_of_mem _ k_183)) (fun _ h9 => h9) rfl d_SG_run_45 ?_
    refine kcallv (wc := [(hb_, .inr (1, [.ref bo, .ref hz, .int (nI side), .int (nI kf), .int (nI 1), .ref r1, .ref r2, .ref r3, .ref r4])), (bo, .inr (2, [.ref hz, .ref h0])), (h0, .inr (3, [.int (nI side), .ref a1, .ref a2, .ref a3, .ref a4, .int (pI True)])), (hz, .inr (5, [.ref t1, .ref t2, .ref t3, .ref t4, .int (nI cn)])), (t1, .inl (cI, 8, .inl (fun j => nI (th j)))), (t2, .inl (cI, 8, .inl (fun j => nI (wi j)))), (t3, .inl (cI, 8, .inl (fun j => nI (wo j)))), (t4, .inl (cI, 8, .inl (fun j => nI (wn j)))), (a3, .inl (cI, ((side + 1) * (side + 1)), .inl (fun j => nI (us.1 j)))), (a4, .inl (cI, ((side + 1) * (side + 1)), .inl (fun j => nI (us.2 j)))), (r2, .inl (cI, side, .inl (fun j => nI (uc.2.1 j)))), (r3, .inl (cJ, (side + 1), .inr (.inl (fun j => lI (uc.2.2.1 j))))), (r4, .inl (cI, side, .inl (fun j => iI (uc.2.2.2 j)))), (hp, .inr (4, [.ref p1, .ref p2, .ref p3, .int (nI pt), .int (nI psl), .int (nI pc_), .int (iI pv), .int (nI pce)])), (p1, .inl (cI, pn, .inl (fun j => nI (g1 j)))), (p2, .inl (cI, pn, .inl (fun j => nI (g2 j)))), (p3, .inl (cI, pn, .inl (fun j => nI (g3 j))))]) (wr := [(hs, .inr (0, [.int (nI kf), .ref h0, .ref hz, .ref bo, .ref hb_, .ref hp, .int (pI sw)])), (a1, .inl (cZ, ((2 * side) * side), .inl (fun j => pI (IN j)))), (a2, .inl (cI, (side * side), .inl (fun j => nI (LO j)))), (r1, .inl (cJ, (side + 1), .inr (.inl (fun j => lI (uc.1 j)))))]) [7, 8, 9, 10, 11, 12, 13, 14, 15, 16, 18, 19, 20, 1, 2, 3, 4] [0, 5, 6, 17] (va_runV (As := [.ref hp]) (rest := []) ⟨hx, hb, hml, hown, hts⟩ (c_layOut l D cI cJ cZ H.size hb_ bo hz side kf 1 r1 r2 r3 r4 h0 a1 a2 a3 a4 True t1 t2 t3 t4 cn th wi wo wn us.1 us.2 (fbare side IN) (floss side LO) uc.2.1 uc.2.2.1 uc.2.2.2 hp p1 p2 p3 pt psl pc_ pv pce pn g1 g2 g3 s1 s2 k4 (by decide) n8 ht hw hw1 ho hn hw_4.1 hw_4.2 (fbare_le side IN) (floss_le hL) uc3 hpn (fun j hj => by
        rw [uc2 j hj]
        exact (hB1 1).2 j (by omega) hj)) ⟨callB_of 1 hts (gd kc_Be_layOut) rfl rfl rfl (hts _ (List.mem_cons_of_mem _ k_6)) (hts _ (List.mem_cons_of_mem _ k_263)) (by decide +kernel) ⟨Nat.le_of_ble_eq_true rfl, Nat.le_of_ble_eq_true rfl⟩, hts _ (List.mem_cons_of_mem _ k_264), hts _ (List.mem_cons_of_mem _ k_265)⟩ ⟨kB_blind, va_recv hK hP (ci := 1) (q0 := 7) rfl rfl, kB_at hP hD hK hZ [7, 8, 9, 10, 11, 12, 13, 14, 15, 16, 18, 19, 20, 1, 2, 3, 4] rfl (by decide) rfl⟩ rfl rfl hl.1 rfl (lv_room (Nat.le_of_ble_eq_true rfl)) d_SG_run_48 ⟨Nat.zero_le _, Nat.zero_le _⟩) hP hD hS hA rfl rfl (by decide) (by decide) (fun uz H locs hw_48 hP hD hS => ?_)
    have hP : va_P D vwCl [(hs, .inr (0, [.int (nI kf), .ref h0, .ref hz, .ref bo, .ref hb_, .ref hp, .int (pI sw)])), (a1, .inl (cZ, ((2 * side) * side), .inl (fun j => pI (IN j)))), (a2, .inl (cI, (side * side), .inl (fun j => nI (LO j)))), (r1, .inl (cJ, (side + 1), .inr (.inl (fun j => lI (uc.1 j))))), (hb_, .inr (1, [.ref bo, .ref hz, .int (nI side), .int (nI kf), .int (nI 1), .ref r1, .ref r2, .ref r3, .ref r4])), (bo, .inr (2, [.ref hz, .ref h0])), (h0, .inr (3, [.int (nI side), .ref a1, .ref a2, .ref a3, .ref a4, .int (pI True)])), (hz, .inr (5, [.ref t1, .ref t2, .ref t3, .ref t4, .int (nI cn)])), (t1, .inl (cI, 8, .inl (fun j => nI (th j)))), (t2, .inl (cI, 8, .inl (fun j => nI (wi j)))), (t3, .inl (cI, 8, .inl (fun j => nI (wo j)))), (t4, .inl (cI, 8, .inl (fun j => nI (wn j)))), (a3, .inl (cI, ((side + 1) * (side + 1)), .inl (fun j => nI (us.1 j)))), (a4, .inl (cI, ((side + 1) * (side + 1)), .inl (fun j => nI (us.2 j)))), (r2, .inl (cI, side, .inl (fun j => nI (uc.2.1 j)))), (r3, .inl (cJ, (side + 1), .inr (.inl (fun j => lI (uz.1 j))))), (r4, .inl (cI, side, .inl (fun j => iI (uz.2 j)))), (hp, .inr (4, [.ref p1, .ref p2, .ref p3, .int (nI 1), .int (nI ((layAll side kf cn 1 th wi wo wn (fbare side IN) (floss side LO) uc.2.1 (0, g1, g2, g3, 0, 0) side).2.1)), .int (nI ((layAll side kf cn 1 th wi wo wn (fbare side IN) (floss side LO) uc.2.1 (0, g1, g2, g3, 0, 0) side).2.2.1)), .int (iI ((layAll side kf cn 1 th wi wo wn (fbare side IN) (floss side LO) uc.2.1 (0, g1, g2, g3, 0, 0) side).2.2.2.2.2.2.1)), .int (nI ((layAll side kf cn 1 th wi wo wn (fbare side IN) (floss side LO) uc.2.1 (0, g1, g2, g3, 0, 0) side).2.2.2.2.2.2.2))])), (p1, .inl (cI, pn, .inl (fun j => nI (((layAll side kf cn 1 th wi wo wn (fbare side IN) (floss side LO) uc.2.1 (0, g1, g2, g3, 0, 0) side).2.2.2.1) j)))), (p2, .inl (cI, pn, .inl (fun j => nI (((layAll side kf cn 1 th wi wo wn (fbare side IN) (floss side LO) uc.2.1 (0, g1, g2, g3, 0, 0) side).2.2.2.2.1) j)))), (p3, .inl (cI, pn, .inl (fun j => nI (((layAll side kf cn 1 th wi wo wn (fbare side IN) (floss side LO) uc.2.1 (0, g1, g2, g3, 0, 0) side).2.2.2.2.2.1) j))))] H := hP
    have hD : va_D A [(hs, .inr (0, [.int (nI kf), .ref h0, .ref hz, .ref bo, .ref hb_, .ref hp, .int (pI sw)])), (a1, .inl (cZ, ((2 * side) * side), .inl (fun j => pI (IN j)))), (a2, .inl (cI, (side * side), .inl (fun j => nI (LO j)))), (r1, .inl (cJ, (side + 1), .inr (.inl (fun j => lI (uc.1 j))))), (hb_, .inr (1, [.ref bo, .ref hz, .int (nI side), .int (nI kf), .int (nI 1), .ref r1, .ref r2, .ref r3, .ref r4])), (bo, .inr (2, [.ref hz, .ref h0])), (h0, .inr (3, [.int (nI side), .ref a1, .ref a2, .ref a3, .ref a4, .int (pI True)])), (hz, .inr (5, [.ref t1, .ref t2, .ref t3, .ref t4, .int (nI cn)])), (t1, .inl (cI, 8, .inl (fun j => nI (th j)))), (t2, .inl (cI, 8, .inl (fun j => nI (wi j)))), (t3, .inl (cI, 8, .inl (fun j => nI (wo j)))), (t4, .inl (cI, 8, .inl (fun j => nI (wn j)))), (a3, .inl (cI, ((side + 1) * (side + 1)), .inl (fun j => nI (us.1 j)))), (a4, .inl (cI, ((side + 1) * (side + 1)), .inl (fun j => nI (us.2 j)))), (r2, .inl (cI, side, .inl (fun j => nI (uc.2.1 j)))), (r3, .inl (cJ, (side + 1), .inr (.inl (fun j => lI (uz.1 j))))), (r4, .inl (cI, side, .inl (fun j => iI (uz.2 j)))), (hp, .inr (4, [.ref p1, .ref p2, .ref p3, .int (nI 1), .int (nI ((layAll side kf cn 1 th wi wo wn (fbare side IN) (floss side LO) uc.2.1 (0, g1, g2, g3, 0, 0) side).2.1)), .int (nI ((layAll side kf cn 1 th wi wo wn (fbare side IN) (floss side LO) uc.2.1 (0, g1, g2, g3, 0, 0) side).2.2.1)), .int (iI ((layAll side kf cn 1 th wi wo wn (fbare side IN) (floss side LO) uc.2.1 (0, g1, g2, g3, 0, 0) side).2.2.2.2.2.2.1)), .int (nI ((layAll side kf cn 1 th wi wo wn (fbare side IN) (floss side LO) uc.2.1 (0, g1, g2, g3, 0, 0) side).2.2.2.2.2.2.2))])), (p1, .inl (cI, pn, .inl (fun j => nI (((layAll side kf cn 1 th wi wo wn (fbare side IN) (floss side LO) uc.2.1 (0, g1, g2, g3, 0, 0) side).2.2.2.1) j)))), (p2, .inl (cI, pn, .inl (fun j => nI (((layAll side kf cn 1 th wi wo wn (fbare side IN) (floss side LO) uc.2.1 (0, g1, g2, g3, 0, 0) side).2.2.2.2.1) j)))), (p3, .inl (cI, pn, .inl (fun j => nI (((layAll side kf cn 1 th wi wo wn (fbare side IN) (floss side LO) uc.2.1 (0, g1, g2, g3, 0, 0) side).2.2.2.2.2.1) j))))] := hD
    have eL := layAll_congr (side := side) (kf := kf) (cn := cn) (tn := 1) (th := th) (wi := wi) (wo := wo) (wn := wn) (fb := fbare side IN) (fl := floss side LO) (s0 := (0, g1, g2, g3, 0, 0)) side (fun j hj => uc2 j hj)
    rw [eL] at hP hD
    have hP : va_P D vwCl [(hs, .inr (0, [.int (nI kf), .ref h0, .ref hz, .ref bo, .ref hb_, .ref hp, .int (pI sw)])), (a1, .inl (cZ, ((2 * side) * side), .inl (fun j => pI (IN j)))), (a2, .inl (cI, (side * side), .inl (fun j => nI (LO j)))), (r1, .inl (cJ, (side + 1), .inr (.inl (fun j => lI (uc.1 j))))), (hb_, .inr (1, [.ref bo, .ref hz, .int (nI side), .int (nI kf), .int (nI 1), .ref r1, .ref r2, .ref r3, .ref r4])), (bo, .inr (2, [.ref hz, .ref h0])), (h0, .inr (3, [.int (nI side), .ref a1, .ref a2, .ref a3, .ref a4, .int (pI True)])), (hz, .inr (5, [.ref t1, .ref t2, .ref t3, .ref t4, .int (nI cn)])), (t1, .inl (cI, 8, .inl (fun j => nI (th j)))), (t2, .inl (cI, 8, .inl (fun j => nI (wi j)))), (t3, .inl (cI, 8, .inl (fun j => nI (wo j)))), (t4, .inl (cI, 8, .inl (fun j => nI (wn j)))), (a3, .inl (cI, ((side + 1) * (side + 1)), .inl (fun j => nI (us.1 j)))), (a4, .inl (cI, ((side + 1) * (side + 1)), .inl (fun j => nI (us.2 j)))), (r2, .inl (cI, side, .inl (fun j => nI (uc.2.1 j)))), (r3, .inl (cJ, (side + 1), .inr (.inl (fun j => lI (uz.1 j))))), (r4, .inl (cI, side, .inl (fun j => iI (uz.2 j)))), (hp, .inr (4, [.ref p1, .ref p2, .ref p3, .int (nI 1), .int (nI ((layAll side kf cn 1 th wi wo wn (fbare side IN) (floss side LO) (plan0 side kf th wi wo wn (fbare side IN) (floss side LO) cn 1).2 (0, g1, g2, g3, 0, 0) side).2.1)), .int (nI ((layAll side kf cn 1 th wi wo wn (fbare side IN) (floss side LO) (plan0 side kf th wi wo wn (fbare side IN) (floss side LO) cn 1).2 (0, g1, g2, g3, 0, 0) side).2.2.1)), .int (iI ((layAll side kf cn 1 th wi wo wn (fbare side IN) (floss side LO) (plan0 side kf th wi wo wn (fbare side IN) (floss side LO) cn 1).2 (0, g1, g2, g3, 0, 0) side).2.2.2.2.2.2.1)), .int (nI ((layAll side kf cn 1 th wi wo wn (fbare side IN) (floss side LO) (plan0 side kf th wi wo wn (fbare side IN) (floss side LO) cn 1).2 (0, g1, g2, g3, 0, 0) side).2.2.2.2.2.2.2))])), (p1, .inl (cI, pn, .inl (fun j => nI (((layAll side kf cn 1 th wi wo wn (fbare side IN) (floss side LO) (plan0 side kf th wi wo wn (fbare side IN) (floss side LO) cn 1).2 (0, g1, g2, g3, 0, 0) side).2.2.2.1) j)))), (p2, .inl (cI, pn, .inl (fun j => nI (((layAll side kf cn 1 th wi wo wn (fbare side IN) (floss side LO) (plan0 side kf th wi wo wn (fbare side IN) (floss side LO) cn 1).2 (0, g1, g2, g3, 0, 0) side).2.2.2.2.1) j)))), (p3, .inl (cI, pn, .inl (fun j => nI (((layAll side kf cn 1 th wi wo wn (fbare side IN) (floss side LO) (plan0 side kf th wi wo wn (fbare side IN) (floss side LO) cn 1).2 (0, g1, g2, g3, 0, 0) side).2.2.2.2.2.1) j))))] H := hP
    have hD : va_D A [(hs, .inr (0, [.int (nI kf), .ref h0, .ref hz, .ref bo, .ref hb_, .ref hp, .int (pI sw)])), (a1, .inl (cZ, ((2 * side) * side), .inl (fun j => pI (IN j)))), (a2, .inl (cI, (side * side), .inl (fun j => nI (LO j)))), (r1, .inl (cJ, (side + 1), .inr (.inl (fun j => lI (uc.1 j))))), (hb_, .inr (1, [.ref bo, .ref hz, .int (nI side), .int (nI kf), .int (nI 1), .ref r1, .ref r2, .ref r3, .ref r4])), (bo, .inr (2, [.ref hz, .ref h0])), (h0, .inr (3, [.int (nI side), .ref a1, .ref a2, .ref a3, .ref a4, .int (pI True)])), (hz, .inr (5, [.ref t1, .ref t2, .ref t3, .ref t4, .int (nI cn)])), (t1, .inl (cI, 8, .inl (fun j => nI (th j)))), (t2, .inl (cI, 8, .inl (fun j => nI (wi j)))), (t3, .inl (cI, 8, .inl (fun j => nI (wo j)))), (t4, .inl (cI, 8, .inl (fun j => nI (wn j)))), (a3, .inl (cI, ((side + 1) * (side + 1)), .inl (fun j => nI (us.1 j)))), (a4, .inl (cI, ((side + 1) * (side + 1)), .inl (fun j => nI (us.2 j)))), (r2, .inl (cI, side, .inl (fun j => nI (uc.2.1 j)))), (r3, .inl (cJ, (side + 1), .inr (.inl (fun j => lI (uz.1 j))))), (r4, .inl (cI, side, .inl (fun j => iI (uz.2 j)))), (hp, .inr (4, [.ref p1, .ref p2, .ref p3, .int (nI 1), .int (nI ((layAll side kf cn 1 th wi wo wn (fbare side IN) (floss side LO) (plan0 side kf th wi wo wn (fbare side IN) (floss side LO) cn 1).2 (0, g1, g2, g3, 0, 0) side).2.1)), .int (nI ((layAll side kf cn 1 th wi wo wn (fbare side IN) (floss side LO) (plan0 side kf th wi wo wn (fbare side IN) (floss side LO) cn 1).2 (0, g1, g2, g3, 0, 0) side).2.2.1)), .int (iI ((layAll side kf cn 1 th wi wo wn (fbare side IN) (floss side LO) (plan0 side kf th wi wo wn (fbare side IN) (floss side LO) cn 1).2 (0, g1, g2, g3, 0, 0) side).2.2.2.2.2.2.1)), .int (nI ((layAll side kf cn 1 th wi wo wn (fbare side IN) (floss side LO) (plan0 side kf th wi wo wn (fbare side IN) (floss side LO) cn 1).2 (0, g1, g2, g3, 0, 0) side).2.2.2.2.2.2.2))])), (p1, .inl (cI, pn, .inl (fun j => nI (((layAll side kf cn 1 th wi wo wn (fbare side IN) (floss side LO) (plan0 side kf th wi wo wn (fbare side IN) (floss side LO) cn 1).2 (0, g1, g2, g3, 0, 0) side).2.2.2.1) j)))), (p2, .inl (cI, pn, .inl (fun j => nI (((layAll side kf cn 1 th wi wo wn (fbare side IN) (floss side LO) (plan0 side kf th wi wo wn (fbare side IN) (floss side LO) cn 1).2 (0, g1, g2, g3, 0, 0) side).2.2.2.2.1) j)))), (p3, .inl (cI, pn, .inl (fun j => nI (((layAll side kf cn 1 th wi wo wn (fbare side IN) (floss side LO) (plan0 side kf th wi wo wn (fbare side IN) (floss side LO) cn 1).2 (0, g1, g2, g3, 0, 0) side).2.2.2.2.2.1) j))))] := hD
    refine lv_aload_n hx hb d_SG_run_51 rfl (lv_at hl 2 rfl) ?_
    refine lv_iconst (v := nI 1) hx hb d_SG_run_52 (by decide +kernel) ?_
    refine ka_i (y := pI True) (pI_1 trivial) ?_
    refine va_put (D := D) (ci := 0) (v := .int (pI True)) (ty := .boolean) (C := R_SG) (T := T_SG) (N := 7) hx hb hts (fun w h => List.mem_cons_of_mem _ (iw_SG w h)) ty_SG tyok_SG nm_SG hown hK hP hD hS 0 rfl rfl 6 (by decide) (hts _ (List.mem_cons_of_mem _ k_184)) (fun _ h9 => h9) rfl (by decide +kernel) (pI_narrow _) (pI_fits _) (Nat.le_of_ble_eq_true rfl) d_SG_run_53 (fun H locs hP hD hS => ?_)
    have hP : va_P D vwCl [(hs, .inr (0, [.int (nI kf), .ref h0, .ref hz, .ref bo, .ref hb_, .ref hp, .int (pI True)])), (a1, .inl (cZ, ((2 * side) * side), .inl (fun j => pI (IN j)))), (a2, .inl (cI, (side * side), .inl (fun j => nI (LO j)))), (r1, .inl (cJ, (side + 1), .inr (.inl (fun j => lI (uc.1 j))))), (hb_, .inr (1, [.ref bo, .ref hz, .int (nI side), .int (nI kf), .int (nI 1), .ref r1, .ref r2, .ref r3, .ref r4])), (bo, .inr (2, [.ref hz, .ref h0])), (h0, .inr (3, [.int (nI side), .ref a1, .ref a2, .ref a3, .ref a4, .int (pI True)])), (hz, .inr (5, [.ref t1, .ref t2, .ref t3, .ref t4, .int (nI cn)])), (t1, .inl (cI, 8, .inl (fun j => nI (th j)))), (t2, .inl (cI, 8, .inl (fun j => nI (wi j)))), (t3, .inl (cI, 8, .inl (fun j => nI (wo j)))), (t4, .inl (cI, 8, .inl (fun j => nI (wn j)))), (a3, .inl (cI, ((side + 1) * (side + 1)), .inl (fun j => nI (us.1 j)))), (a4, .inl (cI, ((side + 1) * (side + 1)), .inl (fun j => nI (us.2 j)))), (r2, .inl (cI, side, .inl (fun j => nI (uc.2.1 j)))), (r3, .inl (cJ, (side + 1), .inr (.inl (fun j => lI (uz.1 j))))), (r4, .inl (cI, side, .inl (fun j => iI (uz.2 j)))), (hp, .inr (4, [.ref p1, .ref p2, .ref p3, .int (nI 1), .int (nI ((layAll side kf cn 1 th wi wo wn (fbare side IN) (floss side LO) (plan0 side kf th wi wo wn (fbare side IN) (floss side LO) cn 1).2 (0, g1, g2, g3, 0, 0) side).2.1)), .int (nI ((layAll side kf cn 1 th wi wo wn (fbare side IN) (floss side LO) (plan0 side kf th wi wo wn (fbare side IN) (floss side LO) cn 1).2 (0, g1, g2, g3, 0, 0) side).2.2.1)), .int (iI ((layAll side kf cn 1 th wi wo wn (fbare side IN) (floss side LO) (plan0 side kf th wi wo wn (fbare side IN) (floss side LO) cn 1).2 (0, g1, g2, g3, 0, 0) side).2.2.2.2.2.2.1)), .int (nI ((layAll side kf cn 1 th wi wo wn (fbare side IN) (floss side LO) (plan0 side kf th wi wo wn (fbare side IN) (floss side LO) cn 1).2 (0, g1, g2, g3, 0, 0) side).2.2.2.2.2.2.2))])), (p1, .inl (cI, pn, .inl (fun j => nI (((layAll side kf cn 1 th wi wo wn (fbare side IN) (floss side LO) (plan0 side kf th wi wo wn (fbare side IN) (floss side LO) cn 1).2 (0, g1, g2, g3, 0, 0) side).2.2.2.1) j)))), (p2, .inl (cI, pn, .inl (fun j => nI (((layAll side kf cn 1 th wi wo wn (fbare side IN) (floss side LO) (plan0 side kf th wi wo wn (fbare side IN) (floss side LO) cn 1).2 (0, g1, g2, g3, 0, 0) side).2.2.2.2.1) j)))), (p3, .inl (cI, pn, .inl (fun j => nI (((layAll side kf cn 1 th wi wo wn (fbare side IN) (floss side LO) (plan0 side kf th wi wo wn (fbare side IN) (floss side LO) cn 1).2 (0, g1, g2, g3, 0, 0) side).2.2.2.2.2.1) j))))] H := hP
    have hD : va_D A [(hs, .inr (0, [.int (nI kf), .ref h0, .ref hz, .ref bo, .ref hb_, .ref hp, .int (pI True)])), (a1, .inl (cZ, ((2 * side) * side), .inl (fun j => pI (IN j)))), (a2, .inl (cI, (side * side), .inl (fun j => nI (LO j)))), (r1, .inl (cJ, (side + 1), .inr (.inl (fun j => lI (uc.1 j))))), (hb_, .inr (1, [.ref bo, .ref hz, .int (nI side), .int (nI kf), .int (nI 1), .ref r1, .ref r2, .ref r3, .ref r4])), (bo, .inr (2, [.ref hz, .ref h0])), (h0, .inr (3, [.int (nI side), .ref a1, .ref a2, .ref a3, .ref a4, .int (pI True)])), (hz, .inr (5, [.ref t1, .ref t2, .ref t3, .ref t4, .int (nI cn)])), (t1, .inl (cI, 8, .inl (fun j => nI (th j)))), (t2, .inl (cI, 8, .inl (fun j => nI (wi j)))), (t3, .inl (cI, 8, .inl (fun j => nI (wo j)))), (t4, .inl (cI, 8, .inl (fun j => nI (wn j)))), (a3, .inl (cI, ((side + 1) * (side + 1)), .inl (fun j => nI (us.1 j)))), (a4, .inl (cI, ((side + 1) * (side + 1)), .inl (fun j => nI (us.2 j)))), (r2, .inl (cI, side, .inl (fun j => nI (uc.2.1 j)))), (r3, .inl (cJ, (side + 1), .inr (.inl (fun j => lI (uz.1 j))))), (r4, .inl (cI, side, .inl (fun j => iI (uz.2 j)))), (hp, .inr (4, [.ref p1, .ref p2, .ref p3, .int (nI 1), .int (nI ((layAll side kf cn 1 th wi wo wn (fbare side IN) (floss side LO) (plan0 side kf th wi wo wn (fbare side IN) (floss side LO) cn 1).2 (0, g1, g2, g3, 0, 0) side).2.1)), .int (nI ((layAll side kf cn 1 th wi wo wn (fbare side IN) (floss side LO) (plan0 side kf th wi wo wn (fbare side IN) (floss side LO) cn 1).2 (0, g1, g2, g3, 0, 0) side).2.2.1)), .int (iI ((layAll side kf cn 1 th wi wo wn (fbare side IN) (floss side LO) (plan0 side kf th wi wo wn (fbare side IN) (floss side LO) cn 1).2 (0, g1, g2, g3, 0, 0) side).2.2.2.2.2.2.1)), .int (nI ((layAll side kf cn 1 th wi wo wn (fbare side IN) (floss side LO) (plan0 side kf th wi wo wn (fbare side IN) (floss side LO) cn 1).2 (0, g1, g2, g3, 0, 0) side).2.2.2.2.2.2.2))])), (p1, .inl (cI, pn, .inl (fun j => nI (((layAll side kf cn 1 th wi wo wn (fbare side IN) (floss side LO) (plan0 side kf th wi wo wn (fbare side IN) (floss side LO) cn 1).2 (0, g1, g2, g3, 0, 0) side).2.2.2.1) j)))), (p2, .inl (cI, pn, .inl (fun j => nI (((layAll side kf cn 1 th wi wo wn (fbare side IN) (floss side LO) (plan0 side kf th wi wo wn (fbare side IN) (floss side LO) cn 1).2 (0, g1, g2, g3, 0, 0) side).2.2.2.2.1) j)))), (p3, .inl (cI, pn, .inl (fun j => nI (((layAll side kf cn 1 th wi wo wn (fbare side IN) (floss side LO) (plan0 side kf th wi wo wn (fbare side IN) (floss side LO) cn 1).2 (0, g1, g2, g3, 0, 0) side).2.2.2.2.2.1) j))))] := hD
    refine lv_aload_n hx hb d_SG_run_56 rfl (lv_at hl 2 rfl) ?_
    refine va_get (D := D) (ci := 0) (v := .ref hp) (C := R_SG) (T := T_SG) (N := 7) hx hb hts (fun w h => List.mem_cons_of_mem _ (iw_SG w h)) hown hK hP 0 rfl rfl 5 (by decide) (hts _ (List.mem_cons_of_mem _ k_183)) (fun _ h9 => h9) rfl d_SG_run_57 ?_
    refine va_get (D := D) (ci := 4) (v := .int (nI ((layAll side kf cn 1 th wi wo wn (fbare side IN) (floss side LO) (plan0 side kf th wi wo wn (fbare side IN) (floss side LO) cn 1).2 (0, g1, g2, g3, 0, 0) side).2.2.1))) (C := R_Pa) (T := T_Pa) (N := 8) hx hb hts (fun w h => List.mem_cons_of_mem _ (iw_Pa w h)) hown hK hP 17 rfl rfl 5 (by decide) (hts _ (List.mem_cons_of_mem _ k_154)) (fun _ h9 => h9) rfl d_SG_run_60 ?_
    have hP := hP.sub (ws' := [(hs, .inr (0, [.int (nI kf), .ref h0, .ref hz, .ref bo, .ref hb_, .ref hp, .int (pI True)])), (h0, .inr (3, [.int (nI side), .ref a1, .ref a2, .ref a3, .ref a4, .int (pI True)])), (a1, .inl (cZ, ((2 * side) * side), .inl (fun j => pI (IN j)))), (a2, .inl (cI, (side * side), .inl (fun j => nI (LO j)))), (a3, .inl (cI, ((side + 1) * (side + 1)), .inl (fun j => nI (us.1 j)))), (a4, .inl (cI, ((side + 1) * (side + 1)), .inl (fun j => nI (us.2 j)))), (hz, .inr (5, [.ref t1, .ref t2, .ref t3, .ref t4, .int (nI cn)])), (t1, .inl (cI, 8, .inl (fun j => nI (th j)))), (t2, .inl (cI, 8, .inl (fun j => nI (wi j)))), (t3, .inl (cI, 8, .inl (fun j => nI (wo j)))), (t4, .inl (cI, 8, .inl (fun j => nI (wn j)))), (bo, .inr (2, [.ref hz, .ref h0])), (hb_, .inr (1, [.ref bo, .ref hz, .int (nI side), .int (nI kf), .int (nI 1), .ref r1, .ref r2, .ref r3, .ref r4])), (r1, .inl (cJ, (side + 1), .inr (.inl (fun j => lI (uc.1 j))))), (r2, .inl (cI, side, .inl (fun j => nI (uc.2.1 j)))), (r3, .inl (cJ, (side + 1), .inr (.inl (fun j => lI (uz.1 j))))), (r4, .inl (cI, side, .inl (fun j => iI (uz.2 j)))), (hp, .inr (4, [.ref p1, .ref p2, .ref p3, .int (nI 1), .int (nI ((layAll side kf cn 1 th wi wo wn (fbare side IN) (floss side LO) (plan0 side kf th wi wo wn (fbare side IN) (floss side LO) cn 1).2 (0, g1, g2, g3, 0, 0) side).2.1)), .int (nI ((layAll side kf cn 1 th wi wo wn (fbare side IN) (floss side LO) (plan0 side kf th wi wo wn (fbare side IN) (floss side LO) cn 1).2 (0, g1, g2, g3, 0, 0) side).2.2.1)), .int (iI ((layAll side kf cn 1 th wi wo wn (fbare side IN) (floss side LO) (plan0 side kf th wi wo wn (fbare side IN) (floss side LO) cn 1).2 (0, g1, g2, g3, 0, 0) side).2.2.2.2.2.2.1)), .int (nI ((layAll side kf cn 1 th wi wo wn (fbare side IN) (floss side LO) (plan0 side kf th wi wo wn (fbare side IN) (floss side LO) cn 1).2 (0, g1, g2, g3, 0, 0) side).2.2.2.2.2.2.2))])), (p1, .inl (cI, pn, .inl (fun j => nI (((layAll side kf cn 1 th wi wo wn (fbare side IN) (floss side LO) (plan0 side kf th wi wo wn (fbare side IN) (floss side LO) cn 1).2 (0, g1, g2, g3, 0, 0) side).2.2.2.1) j)))), (p2, .inl (cI, pn, .inl (fun j => nI (((layAll side kf cn 1 th wi wo wn (fbare side IN) (floss side LO) (plan0 side kf th wi wo wn (fbare side IN) (floss side LO) cn 1).2 (0, g1, g2, g3, 0, 0) side).2.2.2.2.1) j)))), (p3, .inl (cI, pn, .inl (fun j => nI (((layAll side kf cn 1 th wi wo wn (fbare side IN) (floss side LO) (plan0 side kf th wi wo wn (fbare side IN) (floss side LO) cn 1).2 (0, g1, g2, g3, 0, 0) side).2.2.2.2.2.1) j))))]) [0, 6, 1, 2, 12, 13, 7, 8, 9, 10, 11, 5, 4, 3, 14, 15, 16, 17, 18, 19, 20] rfl
    have hD := hD.sub (ws' := [(hs, .inr (0, [.int (nI kf), .ref h0, .ref hz, .ref bo, .ref hb_, .ref hp, .int (pI True)])), (h0, .inr (3, [.int (nI side), .ref a1, .ref a2, .ref a3, .ref a4, .int (pI True)])), (a1, .inl (cZ, ((2 * side) * side), .inl (fun j => pI (IN j)))), (a2, .inl (cI, (side * side), .inl (fun j => nI (LO j)))), (a3, .inl (cI, ((side + 1) * (side + 1)), .inl (fun j => nI (us.1 j)))), (a4, .inl (cI, ((side + 1) * (side + 1)), .inl (fun j => nI (us.2 j)))), (hz, .inr (5, [.ref t1, .ref t2, .ref t3, .ref t4, .int (nI cn)])), (t1, .inl (cI, 8, .inl (fun j => nI (th j)))), (t2, .inl (cI, 8, .inl (fun j => nI (wi j)))), (t3, .inl (cI, 8, .inl (fun j => nI (wo j)))), (t4, .inl (cI, 8, .inl (fun j => nI (wn j)))), (bo, .inr (2, [.ref hz, .ref h0])), (hb_, .inr (1, [.ref bo, .ref hz, .int (nI side), .int (nI kf), .int (nI 1), .ref r1, .ref r2, .ref r3, .ref r4])), (r1, .inl (cJ, (side + 1), .inr (.inl (fun j => lI (uc.1 j))))), (r2, .inl (cI, side, .inl (fun j => nI (uc.2.1 j)))), (r3, .inl (cJ, (side + 1), .inr (.inl (fun j => lI (uz.1 j))))), (r4, .inl (cI, side, .inl (fun j => iI (uz.2 j)))), (hp, .inr (4, [.ref p1, .ref p2, .ref p3, .int (nI 1), .int (nI ((layAll side kf cn 1 th wi wo wn (fbare side IN) (floss side LO) (plan0 side kf th wi wo wn (fbare side IN) (floss side LO) cn 1).2 (0, g1, g2, g3, 0, 0) side).2.1)), .int (nI ((layAll side kf cn 1 th wi wo wn (fbare side IN) (floss side LO) (plan0 side kf th wi wo wn (fbare side IN) (floss side LO) cn 1).2 (0, g1, g2, g3, 0, 0) side).2.2.1)), .int (iI ((layAll side kf cn 1 th wi wo wn (fbare side IN) (floss side LO) (plan0 side kf th wi wo wn (fbare side IN) (floss side LO) cn 1).2 (0, g1, g2, g3, 0, 0) side).2.2.2.2.2.2.1)), .int (nI ((layAll side kf cn 1 th wi wo wn (fbare side IN) (floss side LO) (plan0 side kf th wi wo wn (fbare side IN) (floss side LO) cn 1).2 (0, g1, g2, g3, 0, 0) side).2.2.2.2.2.2.2))])), (p1, .inl (cI, pn, .inl (fun j => nI (((layAll side kf cn 1 th wi wo wn (fbare side IN) (floss side LO) (plan0 side kf th wi wo wn (fbare side IN) (floss side LO) cn 1).2 (0, g1, g2, g3, 0, 0) side).2.2.2.1) j)))), (p2, .inl (cI, pn, .inl (fun j => nI (((layAll side kf cn 1 th wi wo wn (fbare side IN) (floss side LO) (plan0 side kf th wi wo wn (fbare side IN) (floss side LO) cn 1).2 (0, g1, g2, g3, 0, 0) side).2.2.2.2.1) j)))), (p3, .inl (cI, pn, .inl (fun j => nI (((layAll side kf cn 1 th wi wo wn (fbare side IN) (floss side LO) (plan0 side kf th wi wo wn (fbare side IN) (floss side LO) cn 1).2 (0, g1, g2, g3, 0, 0) side).2.2.2.2.2.1) j))))]) [0, 6, 1, 2, 12, 13, 7, 8, 9, 10, 11, 5, 4, 3, 14, 15, 16, 17, 18, 19, 20] (by decide) rfl
    exact kreti (u := (1, us.1, us.2, uc.1, uc.2.1, uz.1, uz.2)) hx hb hr hP hD hS hlocks rfl (⟨rfl, by rw [if_pos (by omega)], hw_4.1, hw_4.2, (by
        rw [uc1 side (Nat.le_refl _)]
        have h9 := (hB1 1).1 side (by omega) (Nat.le_refl _)
        unfold plan0
        omega), hw_48⟩) d_SG_run_63
end
