theorem x_bi {n : Int} (h : -128 ≤ n ∧ n ≤ 127) : (Int8.ofInt n).toInt32 = iI n := by
  rw [← Int32.toInt_inj, iI_t (by omega), Int8.toInt_toInt32, Int8.toInt_ofInt_of_le (by omega) (by omega)]
theorem x_si {n : Int} (h : -32768 ≤ n ∧ n ≤ 32767) : (Int16.ofInt n).toInt32 = iI n := by
  rw [← Int32.toInt_inj, iI_t (by omega), Int16.toInt_toInt32, Int16.toInt_ofInt_of_le (by omega) (by omega)]
theorem s_iadd {X : XT} {M : MT} {z : Nat × Nat × Nat} {pc : Nat} {ls : List (Option AV)} {st : List AV} {I : MI} {L : ML} {R : MR} {F : State → Prop} {x y : Int} (q : Nat) (hd : decode (mcc M) pc = .ok (.iadd, 1)) (hq : pc + 1 = q) (k : V X M z q ls (vi (x + y) :: st) I L R F) : V X M z pc ls (vi y :: vi x :: st) I L R F := by
  subst hq
  intro ok h1 h2 H locs la hR hl hz hv
  refine lv_iadd ok.1 ok.2.1 hd ?_
  rw [iI_add]
  exact k ok h1 h2 H locs la hR hl hz hv
theorem s_isub {X : XT} {M : MT} {z : Nat × Nat × Nat} {pc : Nat} {ls : List (Option AV)} {st : List AV} {I : MI} {L : ML} {R : MR} {F : State → Prop} {x y : Int} (q : Nat) (hd : decode (mcc M) pc = .ok (.isub, 1)) (hq : pc + 1 = q) (k : V X M z q ls (vi (x - y) :: st) I L R F) : V X M z pc ls (vi y :: vi x :: st) I L R F := by
  subst hq
  intro ok h1 h2 H locs la hR hl hz hv
  refine lv_isub ok.1 ok.2.1 hd ?_
  rw [iI_sub]
  exact k ok h1 h2 H locs la hR hl hz hv
theorem s_imul {X : XT} {M : MT} {z : Nat × Nat × Nat} {pc : Nat} {ls : List (Option AV)} {st : List AV} {I : MI} {L : ML} {R : MR} {F : State → Prop} {x y : Int} (q : Nat) (hd : decode (mcc M) pc = .ok (.imul, 1)) (hq : pc + 1 = q) (k : V X M z q ls (vi (x * y) :: st) I L R F) : V X M z pc ls (vi y :: vi x :: st) I L R F := by
  subst hq
  intro ok h1 h2 H locs la hR hl hz hv
  refine lv_imul ok.1 ok.2.1 hd ?_
  rw [iI_mul]
  exact k ok h1 h2 H locs la hR hl hz hv
theorem s_ineg {X : XT} {M : MT} {z : Nat × Nat × Nat} {pc : Nat} {ls : List (Option AV)} {st : List AV} {I : MI} {L : ML} {R : MR} {F : State → Prop} {x : Int} (q : Nat) (hd : decode (mcc M) pc = .ok (.ineg, 1)) (hq : pc + 1 = q) (k : V X M z q ls (vi (-x) :: st) I L R F) : V X M z pc ls (vi x :: st) I L R F := by
  subst hq
  intro ok h1 h2 H locs la hR hl hz hv
  refine lv_ineg ok.1 ok.2.1 hd ?_
  rw [iI_neg]
  exact k ok h1 h2 H locs la hR hl hz hv
theorem s_iand {X : XT} {M : MT} {z : Nat × Nat × Nat} {pc : Nat} {ls : List (Option AV)} {st : List AV} {I : MI} {L : ML} {R : MR} {F : State → Prop} {x y : Int} (q : Nat) (hd : decode (mcc M) pc = .ok (.iand, 1)) (hq : pc + 1 = q) (k : V X M z q ls (vi (iand x y) :: st) I L R F) : V X M z pc ls (vi y :: vi x :: st) I L R F := by
  subst hq
  intro ok h1 h2 H locs la hR hl hz hv
  refine lv_iand ok.1 ok.2.1 hd ?_
  rw [← iI_of (iI x &&& iI y)]
  exact k ok h1 h2 H locs la hR hl hz hv
theorem s_ior {X : XT} {M : MT} {z : Nat × Nat × Nat} {pc : Nat} {ls : List (Option AV)} {st : List AV} {I : MI} {L : ML} {R : MR} {F : State → Prop} {x y : Int} (q : Nat) (hd : decode (mcc M) pc = .ok (.ior, 1)) (hq : pc + 1 = q) (k : V X M z q ls (vi (ior x y) :: st) I L R F) : V X M z pc ls (vi y :: vi x :: st) I L R F := by
  subst hq
  intro ok h1 h2 H locs la hR hl hz hv
  refine lv_ior ok.1 ok.2.1 hd ?_
  rw [← iI_of (iI x ||| iI y)]
  exact k ok h1 h2 H locs la hR hl hz hv
theorem s_ixor {X : XT} {M : MT} {z : Nat × Nat × Nat} {pc : Nat} {ls : List (Option AV)} {st : List AV} {I : MI} {L : ML} {R : MR} {F : State → Prop} {x y : Int} (q : Nat) (hd : decode (mcc M) pc = .ok (.ixor, 1)) (hq : pc + 1 = q) (k : V X M z q ls (vi (ixor x y) :: st) I L R F) : V X M z pc ls (vi y :: vi x :: st) I L R F := by
  subst hq
  intro ok h1 h2 H locs la hR hl hz hv
  refine lv_ixor ok.1 ok.2.1 hd ?_
  rw [← iI_of (iI x ^^^ iI y)]
  exact k ok h1 h2 H locs la hR hl hz hv
theorem s_ishl {X : XT} {M : MT} {z : Nat × Nat × Nat} {pc : Nat} {ls : List (Option AV)} {st : List AV} {I : MI} {L : ML} {R : MR} {F : State → Prop} {x y : Int} (q : Nat) (hd : decode (mcc M) pc = .ok (.ishl, 1)) (hq : pc + 1 = q) (k : V X M z q ls (vi (ishl x y) :: st) I L R F) : V X M z pc ls (vi y :: vi x :: st) I L R F := by
  subst hq
  intro ok h1 h2 H locs la hR hl hz hv
  refine lv_ishl ok.1 ok.2.1 hd ?_
  rw [← iI_of (iI x <<< (iI y &&& 31))]
  exact k ok h1 h2 H locs la hR hl hz hv
theorem s_ishr {X : XT} {M : MT} {z : Nat × Nat × Nat} {pc : Nat} {ls : List (Option AV)} {st : List AV} {I : MI} {L : ML} {R : MR} {F : State → Prop} {x y : Int} (q : Nat) (hd : decode (mcc M) pc = .ok (.ishr, 1)) (hq : pc + 1 = q) (k : V X M z q ls (vi (ishr x y) :: st) I L R F) : V X M z pc ls (vi y :: vi x :: st) I L R F := by
  subst hq
  intro ok h1 h2 H locs la hR hl hz hv
  refine lv_ishr ok.1 ok.2.1 hd ?_
  rw [← iI_of (iI x >>> (iI y &&& 31))]
  exact k ok h1 h2 H locs la hR hl hz hv
theorem s_idiv {X : XT} {M : MT} {z : Nat × Nat × Nat} {pc : Nat} {ls : List (Option AV)} {st : List AV} {I : MI} {L : ML} {R : MR} {F : State → Prop} {x y : Int} (q : Nat) (hd : decode (mcc M) pc = .ok (.idiv, 1)) (hq : pc + 1 = q) (hy : -2147483648 ≤ y ∧ y ≤ 2147483647) (h0 : y ≠ 0) (k : V X M z q ls (vi (idiv x y) :: st) I L R F) : V X M z pc ls (vi y :: vi x :: st) I L R F := by
  subst hq
  intro ok h1 h2 H locs la hR hl hz hv
  refine lv_idiv ok.1 ok.2.1 hd (fun e => h0 ((iI_eq hy (by omega)).mp (e.trans iI_0))) ?_
  rw [← iI_of (iI x / iI y)]
  exact k ok h1 h2 H locs la hR hl hz hv
theorem s_irem {X : XT} {M : MT} {z : Nat × Nat × Nat} {pc : Nat} {ls : List (Option AV)} {st : List AV} {I : MI} {L : ML} {R : MR} {F : State → Prop} {x y : Int} (q : Nat) (hd : decode (mcc M) pc = .ok (.irem, 1)) (hq : pc + 1 = q) (hy : -2147483648 ≤ y ∧ y ≤ 2147483647) (h0 : y ≠ 0) (k : V X M z q ls (vi (irem x y) :: st) I L R F) : V X M z pc ls (vi y :: vi x :: st) I L R F := by
  subst hq
  intro ok h1 h2 H locs la hR hl hz hv
  refine lv_irem ok.1 ok.2.1 hd (fun e => h0 ((iI_eq hy (by omega)).mp (e.trans iI_0))) ?_
  rw [← iI_of (iI x - iI x / iI y * iI y)]
  exact k ok h1 h2 H locs la hR hl hz hv
theorem s_land {X : XT} {M : MT} {z : Nat × Nat × Nat} {pc : Nat} {ls : List (Option AV)} {st : List AV} {I : MI} {L : ML} {R : MR} {F : State → Prop} {x y : Int64} (q : Nat) (hd : decode (mcc M) pc = .ok (.land, 1)) (hq : pc + 1 = q) (k : V X M z q ls (vl (x &&& y) :: st) I L R F) : V X M z pc ls (vl y :: vl x :: st) I L R F := by
  subst hq
  intro ok h1 h2 H locs la hR hl hz hv
  exact lv_land ok.1 ok.2.1 hd (k ok h1 h2 H locs la hR hl hz hv)
theorem s_lor {X : XT} {M : MT} {z : Nat × Nat × Nat} {pc : Nat} {ls : List (Option AV)} {st : List AV} {I : MI} {L : ML} {R : MR} {F : State → Prop} {x y : Int64} (q : Nat) (hd : decode (mcc M) pc = .ok (.lor, 1)) (hq : pc + 1 = q) (k : V X M z q ls (vl (x ||| y) :: st) I L R F) : V X M z pc ls (vl y :: vl x :: st) I L R F := by
  subst hq
  intro ok h1 h2 H locs la hR hl hz hv
  exact lv_lor ok.1 ok.2.1 hd (k ok h1 h2 H locs la hR hl hz hv)
theorem s_lshl {X : XT} {M : MT} {z : Nat × Nat × Nat} {pc : Nat} {ls : List (Option AV)} {st : List AV} {I : MI} {L : ML} {R : MR} {F : State → Prop} {x : Int64} {y : Int} (q : Nat) (hd : decode (mcc M) pc = .ok (.lshl, 1)) (hq : pc + 1 = q) (k : V X M z q ls (vl (x <<< ((iI y).toInt64 &&& 63)) :: st) I L R F) : V X M z pc ls (vi y :: vl x :: st) I L R F := by
  subst hq
  intro ok h1 h2 H locs la hR hl hz hv
  exact lv_lshl ok.1 ok.2.1 hd rfl (k ok h1 h2 H locs la hR hl hz hv)
theorem s_lshr {X : XT} {M : MT} {z : Nat × Nat × Nat} {pc : Nat} {ls : List (Option AV)} {st : List AV} {I : MI} {L : ML} {R : MR} {F : State → Prop} {x : Int64} {y : Int} (q : Nat) (hd : decode (mcc M) pc = .ok (.lshr, 1)) (hq : pc + 1 = q) (k : V X M z q ls (vl (x >>> ((iI y).toInt64 &&& 63)) :: st) I L R F) : V X M z pc ls (vi y :: vl x :: st) I L R F := by
  subst hq
  intro ok h1 h2 H locs la hR hl hz hv
  exact lv_lshr ok.1 ok.2.1 hd rfl (k ok h1 h2 H locs la hR hl hz hv)
theorem s_i2l {X : XT} {M : MT} {z : Nat × Nat × Nat} {pc : Nat} {ls : List (Option AV)} {st : List AV} {I : MI} {L : ML} {R : MR} {F : State → Prop} {x : Int} (q : Nat) (hd : decode (mcc M) pc = .ok (.i2l, 1)) (hq : pc + 1 = q) (k : V X M z q ls (vl (iI x).toInt64 :: st) I L R F) : V X M z pc ls (vi x :: st) I L R F := by
  subst hq
  intro ok h1 h2 H locs la hR hl hz hv
  exact lv_i2l ok.1 ok.2.1 hd rfl (k ok h1 h2 H locs la hR hl hz hv)
theorem s_l2i {X : XT} {M : MT} {z : Nat × Nat × Nat} {pc : Nat} {ls : List (Option AV)} {st : List AV} {I : MI} {L : ML} {R : MR} {F : State → Prop} {x : Int64} (q : Nat) (hd : decode (mcc M) pc = .ok (.l2i, 1)) (hq : pc + 1 = q) (k : V X M z q ls (vi x.toInt32.toInt :: st) I L R F) : V X M z pc ls (vl x :: st) I L R F := by
  subst hq
  intro ok h1 h2 H locs la hR hl hz hv
  refine lv_l2i ok.1 ok.2.1 hd (iI_of x.toInt32).symm ?_
  exact k ok h1 h2 H locs la hR hl hz hv
theorem s_lcmp {X : XT} {M : MT} {z : Nat × Nat × Nat} {pc : Nat} {ls : List (Option AV)} {st : List AV} {I : MI} {L : ML} {R : MR} {F : State → Prop} {x y : Int64} (q : Nat) (hd : decode (mcc M) pc = .ok (.lcmp, 1)) (hq : pc + 1 = q) (k : V X M z q ls (vi (lg_cmp x y).toInt :: st) I L R F) : V X M z pc ls (vl y :: vl x :: st) I L R F := by
  subst hq
  intro ok h1 h2 H locs la hR hl hz hv
  refine W.lcmp ok.1 ok.2.1 hd ?_
  rw [← iI_of (lg_cmp x y)]
  exact k ok h1 h2 H locs la hR hl hz hv
theorem s_iconst {X : XT} {M : MT} {z : Nat × Nat × Nat} {pc : Nat} {ls : List (Option AV)} {st : List AV} {I : MI} {L : ML} {R : MR} {F : State → Prop} {n : Int} (q : Nat) (hd : decode (mcc M) pc = .ok (.iconst n, 1)) (hq : pc + 1 = q) (k : V X M z q ls (vi n :: st) I L R F) : V X M z pc ls (st) I L R F := by
  subst hq
  intro ok h1 h2 H locs la hR hl hz hv
  exact lv_iconst ok.1 ok.2.1 hd rfl (k ok h1 h2 H locs la hR hl hz hv)
theorem s_bipush {X : XT} {M : MT} {z : Nat × Nat × Nat} {pc : Nat} {ls : List (Option AV)} {st : List AV} {I : MI} {L : ML} {R : MR} {F : State → Prop} {n : Int} (q : Nat) (hd : decode (mcc M) pc = .ok (.bipush n, 2)) (hq : pc + 2 = q) (hn : -128 ≤ n ∧ n ≤ 127) (k : V X M z q ls (vi n :: st) I L R F) : V X M z pc ls (st) I L R F := by
  subst hq
  intro ok h1 h2 H locs la hR hl hz hv
  refine lv_bipush ok.1 ok.2.1 hd (v := iI n) ?_ (k ok h1 h2 H locs la hR hl hz hv)
  exact x_bi hn
theorem s_sipush {X : XT} {M : MT} {z : Nat × Nat × Nat} {pc : Nat} {ls : List (Option AV)} {st : List AV} {I : MI} {L : ML} {R : MR} {F : State → Prop} {n : Int} (q : Nat) (hd : decode (mcc M) pc = .ok (.sipush n, 3)) (hq : pc + 3 = q) (hn : -32768 ≤ n ∧ n ≤ 32767) (k : V X M z q ls (vi n :: st) I L R F) : V X M z pc ls (st) I L R F := by
  subst hq
  intro ok h1 h2 H locs la hR hl hz hv
  refine lv_sipush ok.1 ok.2.1 hd (v := iI n) ?_ (k ok h1 h2 H locs la hR hl hz hv)
  exact x_si hn
theorem s_lconst {X : XT} {M : MT} {z : Nat × Nat × Nat} {pc : Nat} {ls : List (Option AV)} {st : List AV} {I : MI} {L : ML} {R : MR} {F : State → Prop} {n : Fin 2} (q : Nat) (hd : decode (mcc M) pc = .ok (.lconst n, 1)) (hq : pc + 1 = q) (k : V X M z q ls (vl (Int64.ofNat n) :: st) I L R F) : V X M z pc ls (st) I L R F := by
  subst hq
  intro ok h1 h2 H locs la hR hl hz hv
  exact lv_lconst ok.1 ok.2.1 hd rfl (k ok h1 h2 H locs la hR hl hz hv)
theorem s_ldc {X : XT} {M : MT} {z : Nat × Nat × Nat} {pc : Nat} {ls : List (Option AV)} {st : List AV} {I : MI} {L : ML} {R : MR} {F : State → Prop} {idx : Nat} (q : Nat) (hd : decode (mcc M) pc = .ok (.ldc idx, 2)) (hq : pc + 2 = q) (v : Int) (hw : Cond.constant (mown M) idx (iI v) ∈ TB) (k : V X M z q ls (vi v :: st) I L R F) : V X M z pc ls (st) I L R F := by
  subst hq
  intro ok h1 h2 H locs la hR hl hz hv
  exact lv_ldc ok.1 ok.2.1 ok.2.2.2.1 (ok.2.2.2.2.1 _ hw) hd (k ok h1 h2 H locs la hR hl hz hv)
theorem s_ldcw {X : XT} {M : MT} {z : Nat × Nat × Nat} {pc : Nat} {ls : List (Option AV)} {st : List AV} {I : MI} {L : ML} {R : MR} {F : State → Prop} {idx : Nat} (q : Nat) (hd : decode (mcc M) pc = .ok (.ldc_w idx, 3)) (hq : pc + 3 = q) (v : Int) (hw : Cond.constant (mown M) idx (iI v) ∈ TB) (k : V X M z q ls (vi v :: st) I L R F) : V X M z pc ls (st) I L R F := by
  subst hq
  intro ok h1 h2 H locs la hR hl hz hv
  exact lv_ldcw ok.1 ok.2.1 ok.2.2.2.1 (ok.2.2.2.2.1 _ hw) hd (k ok h1 h2 H locs la hR hl hz hv)
theorem s_ldc2 {X : XT} {M : MT} {z : Nat × Nat × Nat} {pc : Nat} {ls : List (Option AV)} {st : List AV} {I : MI} {L : ML} {R : MR} {F : State → Prop} {idx : Nat} {v : Int64} (q : Nat) (hd : decode (mcc M) pc = .ok (.ldc2_w idx, 3)) (hq : pc + 3 = q) (hw : Cond.constantLong (mown M) idx v ∈ TB) (k : V X M z q ls (vl v :: st) I L R F) : V X M z pc ls (st) I L R F := by
  subst hq
  intro ok h1 h2 H locs la hR hl hz hv
  exact lv_ldc2 ok.1 ok.2.1 ok.2.2.2.1 (ok.2.2.2.2.1 _ hw) hd (k ok h1 h2 H locs la hR hl hz hv)
theorem s_iload_n {X : XT} {M : MT} {z : Nat × Nat × Nat} {pc : Nat} {ls : List (Option AV)} {st : List AV} {I : MI} {L : ML} {R : MR} {F : State → Prop} {x : Int} {i : Fin 4} (q : Nat) (hd : decode (mcc M) pc = .ok (.iload_n i, 1)) (hq : pc + 1 = q) (hx : lk ls i = some (vi x)) (k : V X M z q ls (vi x :: st) I L R F) : V X M z pc ls (st) I L R F := by
  subst hq
  intro ok h1 h2 H locs la hR hl hz hv
  exact lv_iload_n ok.1 ok.2.1 hd rfl (lsl_at hv hx) (k ok h1 h2 H locs la hR hl hz hv)
theorem s_iload {X : XT} {M : MT} {z : Nat × Nat × Nat} {pc : Nat} {ls : List (Option AV)} {st : List AV} {I : MI} {L : ML} {R : MR} {F : State → Prop} {x : Int} {i : Nat} (q : Nat) (hd : decode (mcc M) pc = .ok (.iload i, 2)) (hq : pc + 2 = q) (hx : lk ls i = some (vi x)) (k : V X M z q ls (vi x :: st) I L R F) : V X M z pc ls (st) I L R F := by
  subst hq
  intro ok h1 h2 H locs la hR hl hz hv
  exact lv_iload ok.1 ok.2.1 hd (lsl_at hv hx) (k ok h1 h2 H locs la hR hl hz hv)
theorem s_lload_n {X : XT} {M : MT} {z : Nat × Nat × Nat} {pc : Nat} {ls : List (Option AV)} {st : List AV} {I : MI} {L : ML} {R : MR} {F : State → Prop} {x : Int64} {i : Fin 4} (q : Nat) (hd : decode (mcc M) pc = .ok (.lload_n i, 1)) (hq : pc + 1 = q) (hx : lk ls i = some (vl x)) (k : V X M z q ls (vl x :: st) I L R F) : V X M z pc ls (st) I L R F := by
  subst hq
  intro ok h1 h2 H locs la hR hl hz hv
  exact lv_lload_n ok.1 ok.2.1 hd rfl (lsl_at hv hx) (k ok h1 h2 H locs la hR hl hz hv)
theorem s_lload {X : XT} {M : MT} {z : Nat × Nat × Nat} {pc : Nat} {ls : List (Option AV)} {st : List AV} {I : MI} {L : ML} {R : MR} {F : State → Prop} {x : Int64} {i : Nat} (q : Nat) (hd : decode (mcc M) pc = .ok (.lload i, 2)) (hq : pc + 2 = q) (hx : lk ls i = some (vl x)) (k : V X M z q ls (vl x :: st) I L R F) : V X M z pc ls (st) I L R F := by
  subst hq
  intro ok h1 h2 H locs la hR hl hz hv
  exact lv_lload ok.1 ok.2.1 hd (lsl_at hv hx) (k ok h1 h2 H locs la hR hl hz hv)
theorem s_aload_n {X : XT} {M : MT} {z : Nat × Nat × Nat} {pc : Nat} {ls : List (Option AV)} {st : List AV} {I : MI} {L : ML} {R : MR} {F : State → Prop} {a : Nat} {i : Fin 4} (q : Nat) (hd : decode (mcc M) pc = .ok (.aload_n i, 1)) (hq : pc + 1 = q) (hx : lk ls i = some (vr a)) (k : V X M z q ls (vr a :: st) I L R F) : V X M z pc ls (st) I L R F := by
  subst hq
  intro ok h1 h2 H locs la hR hl hz hv
  exact lv_aload_n ok.1 ok.2.1 hd rfl (lsl_at hv hx) (k ok h1 h2 H locs la hR hl hz hv)
theorem s_aload {X : XT} {M : MT} {z : Nat × Nat × Nat} {pc : Nat} {ls : List (Option AV)} {st : List AV} {I : MI} {L : ML} {R : MR} {F : State → Prop} {a : Nat} {i : Nat} (q : Nat) (hd : decode (mcc M) pc = .ok (.aload i, 2)) (hq : pc + 2 = q) (hx : lk ls i = some (vr a)) (k : V X M z q ls (vr a :: st) I L R F) : V X M z pc ls (st) I L R F := by
  subst hq
  intro ok h1 h2 H locs la hR hl hz hv
  exact lv_aload ok.1 ok.2.1 hd (lsl_at hv hx) (k ok h1 h2 H locs la hR hl hz hv)
theorem s_aloadq_n {X : XT} {M : MT} {z : Nat × Nat × Nat} {pc : Nat} {ls : List (Option AV)} {st : List AV} {I : MI} {L : ML} {R : MR} {F : State → Prop} {t a : Nat} {i : Fin 4} (q : Nat) (hd : decode (mcc M) pc = .ok (.aload_n i, 1)) (hq : pc + 1 = q) (hx : lk ls i = some (vq t a)) (k : V X M z q ls (vq t a :: st) I L R F) : V X M z pc ls (st) I L R F := by
  subst hq
  intro ok h1 h2 H locs la hR hl hz hv
  exact lv_aload_n ok.1 ok.2.1 hd rfl (lsl_at hv hx) (k ok h1 h2 H locs la hR hl hz hv)
theorem s_aloadq {X : XT} {M : MT} {z : Nat × Nat × Nat} {pc : Nat} {ls : List (Option AV)} {st : List AV} {I : MI} {L : ML} {R : MR} {F : State → Prop} {t a : Nat} {i : Nat} (q : Nat) (hd : decode (mcc M) pc = .ok (.aload i, 2)) (hq : pc + 2 = q) (hx : lk ls i = some (vq t a)) (k : V X M z q ls (vq t a :: st) I L R F) : V X M z pc ls (st) I L R F := by
  subst hq
  intro ok h1 h2 H locs la hR hl hz hv
  exact lv_aload ok.1 ok.2.1 hd (lsl_at hv hx) (k ok h1 h2 H locs la hR hl hz hv)
theorem s_istore_n {X : XT} {M : MT} {z : Nat × Nat × Nat} {pc : Nat} {ls : List (Option AV)} {st : List AV} {I : MI} {L : ML} {R : MR} {F : State → Prop} {x : Int} {i : Fin 4} {ls' : List (Option AV)} (q : Nat) (hd : decode (mcc M) pc = .ok (.istore_n i, 1)) (hq : pc + 1 = q) (hi : (i : Nat) < mL M) (hn : nlg ls (i : Nat) = true) (hs : stl ls (i : Nat) (some (vi x)) = ls') (k : V X M z q ls' (st) I L R F) : V X M z pc ls (vi x :: st) I L R F := by
  subst hq
  intro ok h1 h2 H locs la hR hl hz hv
  subst hs
  refine lv_istore_n ok.1 ok.2.1 hd rfl hv hi rfl (fun la hv => ?_)
  exact k ok h1 h2 H locs la hR hl hz (lv_sup hv (lsl_st1 hn))
theorem s_istore {X : XT} {M : MT} {z : Nat × Nat × Nat} {pc : Nat} {ls : List (Option AV)} {st : List AV} {I : MI} {L : ML} {R : MR} {F : State → Prop} {x : Int} {i : Nat} {ls' : List (Option AV)} (q : Nat) (hd : decode (mcc M) pc = .ok (.istore i, 2)) (hq : pc + 2 = q) (hi : i < mL M) (hn : nlg ls i = true) (hs : stl ls i (some (vi x)) = ls') (k : V X M z q ls' (st) I L R F) : V X M z pc ls (vi x :: st) I L R F := by
  subst hq
  intro ok h1 h2 H locs la hR hl hz hv
  subst hs
  refine lv_istore ok.1 ok.2.1 hd hv hi rfl (fun la hv => ?_)
  exact k ok h1 h2 H locs la hR hl hz (lv_sup hv (lsl_st1 hn))
theorem s_astore_n {X : XT} {M : MT} {z : Nat × Nat × Nat} {pc : Nat} {ls : List (Option AV)} {st : List AV} {I : MI} {L : ML} {R : MR} {F : State → Prop} {a : Nat} {i : Fin 4} {ls' : List (Option AV)} (q : Nat) (hd : decode (mcc M) pc = .ok (.astore_n i, 1)) (hq : pc + 1 = q) (hi : (i : Nat) < mL M) (hn : nlg ls (i : Nat) = true) (hs : stl ls (i : Nat) (some (vr a)) = ls') (k : V X M z q ls' (st) I L R F) : V X M z pc ls (vr a :: st) I L R F := by
  subst hq
  intro ok h1 h2 H locs la hR hl hz hv
  subst hs
  refine lv_astore_n ok.1 ok.2.1 hd rfl hv hi rfl (fun la hv => ?_)
  exact k ok h1 h2 H locs la hR hl hz (lv_sup hv (lsl_st1 hn))
theorem s_astore {X : XT} {M : MT} {z : Nat × Nat × Nat} {pc : Nat} {ls : List (Option AV)} {st : List AV} {I : MI} {L : ML} {R : MR} {F : State → Prop} {a : Nat} {i : Nat} {ls' : List (Option AV)} (q : Nat) (hd : decode (mcc M) pc = .ok (.astore i, 2)) (hq : pc + 2 = q) (hi : i < mL M) (hn : nlg ls i = true) (hs : stl ls i (some (vr a)) = ls') (k : V X M z q ls' (st) I L R F) : V X M z pc ls (vr a :: st) I L R F := by
  subst hq
  intro ok h1 h2 H locs la hR hl hz hv
  subst hs
  refine lv_astore ok.1 ok.2.1 hd hv hi rfl (fun la hv => ?_)
  exact k ok h1 h2 H locs la hR hl hz (lv_sup hv (lsl_st1 hn))
theorem s_astoreq_n {X : XT} {M : MT} {z : Nat × Nat × Nat} {pc : Nat} {ls : List (Option AV)} {st : List AV} {I : MI} {L : ML} {R : MR} {F : State → Prop} {t a : Nat} {i : Fin 4} {ls' : List (Option AV)} (q : Nat) (hd : decode (mcc M) pc = .ok (.astore_n i, 1)) (hq : pc + 1 = q) (hi : (i : Nat) < mL M) (hn : nlg ls (i : Nat) = true) (hs : stl ls (i : Nat) (some (vq t a)) = ls') (k : V X M z q ls' (st) I L R F) : V X M z pc ls (vq t a :: st) I L R F := by
  subst hq
  intro ok h1 h2 H locs la hR hl hz hv
  subst hs
  refine lv_astore_n ok.1 ok.2.1 hd rfl hv hi rfl (fun la hv => ?_)
  exact k ok h1 h2 H locs la hR hl hz (lv_sup hv (lsl_st1 hn))
theorem s_astoreq {X : XT} {M : MT} {z : Nat × Nat × Nat} {pc : Nat} {ls : List (Option AV)} {st : List AV} {I : MI} {L : ML} {R : MR} {F : State → Prop} {t a : Nat} {i : Nat} {ls' : List (Option AV)} (q : Nat) (hd : decode (mcc M) pc = .ok (.astore i, 2)) (hq : pc + 2 = q) (hi : i < mL M) (hn : nlg ls i = true) (hs : stl ls i (some (vq t a)) = ls') (k : V X M z q ls' (st) I L R F) : V X M z pc ls (vq t a :: st) I L R F := by
  subst hq
  intro ok h1 h2 H locs la hR hl hz hv
  subst hs
  refine lv_astore ok.1 ok.2.1 hd hv hi rfl (fun la hv => ?_)
  exact k ok h1 h2 H locs la hR hl hz (lv_sup hv (lsl_st1 hn))
theorem s_lstore_n {X : XT} {M : MT} {z : Nat × Nat × Nat} {pc : Nat} {ls : List (Option AV)} {st : List AV} {I : MI} {L : ML} {R : MR} {F : State → Prop} {x : Int64} {i : Fin 4} {ls' : List (Option AV)} (q : Nat) (hd : decode (mcc M) pc = .ok (.lstore_n i, 1)) (hq : pc + 1 = q) (hi : (i : Nat) + 1 < mL M) (hn : nlg ls (i : Nat) = true) (hs : stl (stl ls (i : Nat) (some (vl x))) ((i : Nat) + 1) none = ls') (k : V X M z q ls' (st) I L R F) : V X M z pc ls (vl x :: st) I L R F := by
  subst hq
  intro ok h1 h2 H locs la hR hl hz hv
  subst hs
  refine lv_lstore_n ok.1 ok.2.1 hd rfl hv hi rfl (fun la hv => ?_)
  exact k ok h1 h2 H locs la hR hl hz (lv_sup hv (lsl_st2 hn))
theorem s_lstore {X : XT} {M : MT} {z : Nat × Nat × Nat} {pc : Nat} {ls : List (Option AV)} {st : List AV} {I : MI} {L : ML} {R : MR} {F : State → Prop} {x : Int64} {i : Nat} {ls' : List (Option AV)} (q : Nat) (hd : decode (mcc M) pc = .ok (.lstore i, 2)) (hq : pc + 2 = q) (hi : i + 1 < mL M) (hn : nlg ls i = true) (hs : stl (stl ls i (some (vl x))) (i + 1) none = ls') (k : V X M z q ls' (st) I L R F) : V X M z pc ls (vl x :: st) I L R F := by
  subst hq
  intro ok h1 h2 H locs la hR hl hz hv
  subst hs
  refine lv_lstore ok.1 ok.2.1 hd hv hi rfl (fun la hv => ?_)
  exact k ok h1 h2 H locs la hR hl hz (lv_sup hv (lsl_st2 hn))
theorem s_iinc {X : XT} {M : MT} {z : Nat × Nat × Nat} {pc : Nat} {ls : List (Option AV)} {st : List AV} {I : MI} {L : ML} {R : MR} {F : State → Prop} {x n : Int} {i : Nat} {ls' : List (Option AV)} (q : Nat) (hd : decode (mcc M) pc = .ok (.iinc i n, 3)) (hq : pc + 3 = q) (hx : lk ls i = some (vi x)) (hi : i < mL M) (hn : nlg ls i = true) (hs : stl ls i (some (vi (x + n))) = ls') (k : V X M z q ls' (st) I L R F) : V X M z pc ls (st) I L R F := by
  subst hq
  intro ok h1 h2 H locs la hR hl hz hv
  subst hs
  obtain ⟨j, hj⟩ := List.getElem?_of_mem (lsl_mem (G := xG X) (q := (i, cv (xG X) (vi x))).mpr ⟨_, hx, rfl⟩)
  refine lv_iinc ok.1 ok.2.1 hd hv hj (iI_add x n) hi rfl (fun la hv => ?_)
  exact k ok h1 h2 H locs la hR hl hz (lv_sup hv (lsl_st1 hn))
theorem s_icmp_eq {X : XT} {M : MT} {z : Nat × Nat × Nat} {pc : Nat} {ls : List (Option AV)} {st : List AV} {I : MI} {L : ML} {R : MR} {F : State → Prop} {x y off : Int} (t q : Nat) (hd : decode (mcc M) pc = .ok (.if_icmp .eq off, 3)) (ht : (pc : Int) + off = (t : Int)) (hq : pc + 3 = q) (hx : -2147483648 ≤ x ∧ x ≤ 2147483647) (hy : -2147483648 ≤ y ∧ y ≤ 2147483647) (kt : x = y → V X M z t ls st I L R F) (kf : x ≠ y → V X M z q ls st I L R F) : V X M z pc ls (vi y :: vi x :: st) I L R F := by
  subst hq
  intro ok h1 h2 H locs la hR hl hz hv
  exact lv_icmp_eq ok.1 ok.2.1 hd ht (fun e => kt ((iI_eq hx hy).mp e) ok h1 h2 H locs la hR hl hz hv) (fun e => kf (fun g => e ((iI_eq hx hy).mpr g)) ok h1 h2 H locs la hR hl hz hv)
theorem s_if_eq {X : XT} {M : MT} {z : Nat × Nat × Nat} {pc : Nat} {ls : List (Option AV)} {st : List AV} {I : MI} {L : ML} {R : MR} {F : State → Prop} {x off : Int} (t q : Nat) (hd : decode (mcc M) pc = .ok (.ifCond .eq off, 3)) (ht : (pc : Int) + off = (t : Int)) (hq : pc + 3 = q) (hx : -2147483648 ≤ x ∧ x ≤ 2147483647) (kt : x = 0 → V X M z t ls st I L R F) (kf : x ≠ 0 → V X M z q ls st I L R F) : V X M z pc ls (vi x :: st) I L R F := by
  subst hq
  intro ok h1 h2 H locs la hR hl hz hv
  refine lv_if_eq ok.1 ok.2.1 hd ht (fun e => ?_) (fun e => ?_)
  · rw [iI_0] at e
    exact kt ((iI_eq hx (by omega : (-2147483648 : Int) ≤ 0 ∧ (0 : Int) ≤ 2147483647)).mp e) ok h1 h2 H locs la hR hl hz hv
  · rw [iI_0] at e
    exact kf (fun g => e ((iI_eq hx (by omega : (-2147483648 : Int) ≤ 0 ∧ (0 : Int) ≤ 2147483647)).mpr g)) ok h1 h2 H locs la hR hl hz hv
theorem s_icmp_ne {X : XT} {M : MT} {z : Nat × Nat × Nat} {pc : Nat} {ls : List (Option AV)} {st : List AV} {I : MI} {L : ML} {R : MR} {F : State → Prop} {x y off : Int} (t q : Nat) (hd : decode (mcc M) pc = .ok (.if_icmp .ne off, 3)) (ht : (pc : Int) + off = (t : Int)) (hq : pc + 3 = q) (hx : -2147483648 ≤ x ∧ x ≤ 2147483647) (hy : -2147483648 ≤ y ∧ y ≤ 2147483647) (kt : x ≠ y → V X M z t ls st I L R F) (kf : x = y → V X M z q ls st I L R F) : V X M z pc ls (vi y :: vi x :: st) I L R F := by
  subst hq
  intro ok h1 h2 H locs la hR hl hz hv
  exact lv_icmp_ne ok.1 ok.2.1 hd ht (fun e => kt (fun g => e ((iI_eq hx hy).mpr g)) ok h1 h2 H locs la hR hl hz hv) (fun e => kf ((iI_eq hx hy).mp e) ok h1 h2 H locs la hR hl hz hv)
theorem s_if_ne {X : XT} {M : MT} {z : Nat × Nat × Nat} {pc : Nat} {ls : List (Option AV)} {st : List AV} {I : MI} {L : ML} {R : MR} {F : State → Prop} {x off : Int} (t q : Nat) (hd : decode (mcc M) pc = .ok (.ifCond .ne off, 3)) (ht : (pc : Int) + off = (t : Int)) (hq : pc + 3 = q) (hx : -2147483648 ≤ x ∧ x ≤ 2147483647) (kt : x ≠ 0 → V X M z t ls st I L R F) (kf : x = 0 → V X M z q ls st I L R F) : V X M z pc ls (vi x :: st) I L R F := by
  subst hq
  intro ok h1 h2 H locs la hR hl hz hv
  refine lv_if_ne ok.1 ok.2.1 hd ht (fun e => ?_) (fun e => ?_)
  · rw [iI_0] at e
    exact kt (fun g => e ((iI_eq hx (by omega : (-2147483648 : Int) ≤ 0 ∧ (0 : Int) ≤ 2147483647)).mpr g)) ok h1 h2 H locs la hR hl hz hv
  · rw [iI_0] at e
    exact kf ((iI_eq hx (by omega : (-2147483648 : Int) ≤ 0 ∧ (0 : Int) ≤ 2147483647)).mp e) ok h1 h2 H locs la hR hl hz hv
theorem s_icmp_lt {X : XT} {M : MT} {z : Nat × Nat × Nat} {pc : Nat} {ls : List (Option AV)} {st : List AV} {I : MI} {L : ML} {R : MR} {F : State → Prop} {x y off : Int} (t q : Nat) (hd : decode (mcc M) pc = .ok (.if_icmp .lt off, 3)) (ht : (pc : Int) + off = (t : Int)) (hq : pc + 3 = q) (hx : -2147483648 ≤ x ∧ x ≤ 2147483647) (hy : -2147483648 ≤ y ∧ y ≤ 2147483647) (kt : x < y → V X M z t ls st I L R F) (kf : y ≤ x → V X M z q ls st I L R F) : V X M z pc ls (vi y :: vi x :: st) I L R F := by
  subst hq
  intro ok h1 h2 H locs la hR hl hz hv
  exact lv_icmp_lt ok.1 ok.2.1 hd ht (fun e => kt ((iI_lt hx hy).mp e) ok h1 h2 H locs la hR hl hz hv) (fun e => kf (Int.not_lt.mp (fun g => e ((iI_lt hx hy).mpr g))) ok h1 h2 H locs la hR hl hz hv)
theorem s_if_lt {X : XT} {M : MT} {z : Nat × Nat × Nat} {pc : Nat} {ls : List (Option AV)} {st : List AV} {I : MI} {L : ML} {R : MR} {F : State → Prop} {x off : Int} (t q : Nat) (hd : decode (mcc M) pc = .ok (.ifCond .lt off, 3)) (ht : (pc : Int) + off = (t : Int)) (hq : pc + 3 = q) (hx : -2147483648 ≤ x ∧ x ≤ 2147483647) (kt : x < 0 → V X M z t ls st I L R F) (kf : 0 ≤ x → V X M z q ls st I L R F) : V X M z pc ls (vi x :: st) I L R F := by
  subst hq
  intro ok h1 h2 H locs la hR hl hz hv
  refine lv_if_lt ok.1 ok.2.1 hd ht (fun e => ?_) (fun e => ?_)
  · rw [iI_0] at e
    exact kt ((iI_lt hx (by omega : (-2147483648 : Int) ≤ 0 ∧ (0 : Int) ≤ 2147483647)).mp e) ok h1 h2 H locs la hR hl hz hv
  · rw [iI_0] at e
    exact kf (Int.not_lt.mp (fun g => e ((iI_lt hx (by omega : (-2147483648 : Int) ≤ 0 ∧ (0 : Int) ≤ 2147483647)).mpr g))) ok h1 h2 H locs la hR hl hz hv
theorem s_icmp_ge {X : XT} {M : MT} {z : Nat × Nat × Nat} {pc : Nat} {ls : List (Option AV)} {st : List AV} {I : MI} {L : ML} {R : MR} {F : State → Prop} {x y off : Int} (t q : Nat) (hd : decode (mcc M) pc = .ok (.if_icmp .ge off, 3)) (ht : (pc : Int) + off = (t : Int)) (hq : pc + 3 = q) (hx : -2147483648 ≤ x ∧ x ≤ 2147483647) (hy : -2147483648 ≤ y ∧ y ≤ 2147483647) (kt : y ≤ x → V X M z t ls st I L R F) (kf : x < y → V X M z q ls st I L R F) : V X M z pc ls (vi y :: vi x :: st) I L R F := by
  subst hq
  intro ok h1 h2 H locs la hR hl hz hv
  exact lv_icmp_ge ok.1 ok.2.1 hd ht (fun e => kt ((iI_le hy hx).mp e) ok h1 h2 H locs la hR hl hz hv) (fun e => kf (Int.not_le.mp (fun g => e ((iI_le hy hx).mpr g))) ok h1 h2 H locs la hR hl hz hv)
theorem s_if_ge {X : XT} {M : MT} {z : Nat × Nat × Nat} {pc : Nat} {ls : List (Option AV)} {st : List AV} {I : MI} {L : ML} {R : MR} {F : State → Prop} {x off : Int} (t q : Nat) (hd : decode (mcc M) pc = .ok (.ifCond .ge off, 3)) (ht : (pc : Int) + off = (t : Int)) (hq : pc + 3 = q) (hx : -2147483648 ≤ x ∧ x ≤ 2147483647) (kt : 0 ≤ x → V X M z t ls st I L R F) (kf : x < 0 → V X M z q ls st I L R F) : V X M z pc ls (vi x :: st) I L R F := by
  subst hq
  intro ok h1 h2 H locs la hR hl hz hv
  refine lv_if_ge ok.1 ok.2.1 hd ht (fun e => ?_) (fun e => ?_)
  · rw [iI_0] at e
    exact kt ((iI_le (by omega : (-2147483648 : Int) ≤ 0 ∧ (0 : Int) ≤ 2147483647) hx).mp e) ok h1 h2 H locs la hR hl hz hv
  · rw [iI_0] at e
    exact kf (Int.not_le.mp (fun g => e ((iI_le (by omega : (-2147483648 : Int) ≤ 0 ∧ (0 : Int) ≤ 2147483647) hx).mpr g))) ok h1 h2 H locs la hR hl hz hv
theorem s_icmp_gt {X : XT} {M : MT} {z : Nat × Nat × Nat} {pc : Nat} {ls : List (Option AV)} {st : List AV} {I : MI} {L : ML} {R : MR} {F : State → Prop} {x y off : Int} (t q : Nat) (hd : decode (mcc M) pc = .ok (.if_icmp .gt off, 3)) (ht : (pc : Int) + off = (t : Int)) (hq : pc + 3 = q) (hx : -2147483648 ≤ x ∧ x ≤ 2147483647) (hy : -2147483648 ≤ y ∧ y ≤ 2147483647) (kt : y < x → V X M z t ls st I L R F) (kf : x ≤ y → V X M z q ls st I L R F) : V X M z pc ls (vi y :: vi x :: st) I L R F := by
  subst hq
  intro ok h1 h2 H locs la hR hl hz hv
  exact lv_icmp_gt ok.1 ok.2.1 hd ht (fun e => kt ((iI_lt hy hx).mp e) ok h1 h2 H locs la hR hl hz hv) (fun e => kf (Int.not_lt.mp (fun g => e ((iI_lt hy hx).mpr g))) ok h1 h2 H locs la hR hl hz hv)
theorem s_if_gt {X : XT} {M : MT} {z : Nat × Nat × Nat} {pc : Nat} {ls : List (Option AV)} {st : List AV} {I : MI} {L : ML} {R : MR} {F : State → Prop} {x off : Int} (t q : Nat) (hd : decode (mcc M) pc = .ok (.ifCond .gt off, 3)) (ht : (pc : Int) + off = (t : Int)) (hq : pc + 3 = q) (hx : -2147483648 ≤ x ∧ x ≤ 2147483647) (kt : 0 < x → V X M z t ls st I L R F) (kf : x ≤ 0 → V X M z q ls st I L R F) : V X M z pc ls (vi x :: st) I L R F := by
  subst hq
  intro ok h1 h2 H locs la hR hl hz hv
  refine lv_if_gt ok.1 ok.2.1 hd ht (fun e => ?_) (fun e => ?_)
  · rw [iI_0] at e
    exact kt ((iI_lt (by omega : (-2147483648 : Int) ≤ 0 ∧ (0 : Int) ≤ 2147483647) hx).mp e) ok h1 h2 H locs la hR hl hz hv
  · rw [iI_0] at e
    exact kf (Int.not_lt.mp (fun g => e ((iI_lt (by omega : (-2147483648 : Int) ≤ 0 ∧ (0 : Int) ≤ 2147483647) hx).mpr g))) ok h1 h2 H locs la hR hl hz hv
theorem s_icmp_le {X : XT} {M : MT} {z : Nat × Nat × Nat} {pc : Nat} {ls : List (Option AV)} {st : List AV} {I : MI} {L : ML} {R : MR} {F : State → Prop} {x y off : Int} (t q : Nat) (hd : decode (mcc M) pc = .ok (.if_icmp .le off, 3)) (ht : (pc : Int) + off = (t : Int)) (hq : pc + 3 = q) (hx : -2147483648 ≤ x ∧ x ≤ 2147483647) (hy : -2147483648 ≤ y ∧ y ≤ 2147483647) (kt : x ≤ y → V X M z t ls st I L R F) (kf : y < x → V X M z q ls st I L R F) : V X M z pc ls (vi y :: vi x :: st) I L R F := by
  subst hq
  intro ok h1 h2 H locs la hR hl hz hv
  exact lv_icmp_le ok.1 ok.2.1 hd ht (fun e => kt ((iI_le hx hy).mp e) ok h1 h2 H locs la hR hl hz hv) (fun e => kf (Int.not_le.mp (fun g => e ((iI_le hx hy).mpr g))) ok h1 h2 H locs la hR hl hz hv)
theorem s_if_le {X : XT} {M : MT} {z : Nat × Nat × Nat} {pc : Nat} {ls : List (Option AV)} {st : List AV} {I : MI} {L : ML} {R : MR} {F : State → Prop} {x off : Int} (t q : Nat) (hd : decode (mcc M) pc = .ok (.ifCond .le off, 3)) (ht : (pc : Int) + off = (t : Int)) (hq : pc + 3 = q) (hx : -2147483648 ≤ x ∧ x ≤ 2147483647) (kt : x ≤ 0 → V X M z t ls st I L R F) (kf : 0 < x → V X M z q ls st I L R F) : V X M z pc ls (vi x :: st) I L R F := by
  subst hq
  intro ok h1 h2 H locs la hR hl hz hv
  refine lv_if_le ok.1 ok.2.1 hd ht (fun e => ?_) (fun e => ?_)
  · rw [iI_0] at e
    exact kt ((iI_le hx (by omega : (-2147483648 : Int) ≤ 0 ∧ (0 : Int) ≤ 2147483647)).mp e) ok h1 h2 H locs la hR hl hz hv
  · rw [iI_0] at e
    exact kf (Int.not_le.mp (fun g => e ((iI_le hx (by omega : (-2147483648 : Int) ≤ 0 ∧ (0 : Int) ≤ 2147483647)).mpr g))) ok h1 h2 H locs la hR hl hz hv
theorem s_goto {X : XT} {M : MT} {z : Nat × Nat × Nat} {pc : Nat} {ls : List (Option AV)} {st : List AV} {I : MI} {L : ML} {R : MR} {F : State → Prop} {off : Int} (t : Nat) (hd : decode (mcc M) pc = .ok (.goto off, 3)) (ht : (pc : Int) + off = (t : Int)) (k : V X M z t ls st I L R F) : V X M z pc ls st I L R F := by
  intro ok h1 h2 H locs la hR hl hz hv
  exact lv_goto ok.1 ok.2.1 hd ht (k ok h1 h2 H locs la hR hl hz hv)
/-- a truth value as Java has it -/
noncomputable def bI (b : Prop) : Int := @ite Int b (Classical.propDecidable b) 1 0
theorem bI_t {b : Prop} (h : b) : bI b = 1 := if_pos h
theorem bI_f {b : Prop} (h : ¬ b) : bI b = 0 := if_neg h
theorem bI_r (b : Prop) : -2147483648 ≤ bI b ∧ bI b ≤ 2147483647 := by
  by_cases h : b
  · rw [bI_t h]; omega
  · rw [bI_f h]; omega
theorem bI_b (b : Prop) : 0 ≤ bI b ∧ bI b ≤ 1 := by
  by_cases h : b
  · rw [bI_t h]; omega
  · rw [bI_f h]; omega
theorem bI_ne {b : Prop} : bI b ≠ 0 ↔ b := by
  by_cases h : b
  · rw [bI_t h]; simp [h]
  · rw [bI_f h]; simp [h]
theorem bI_0 {b : Prop} : bI b = 0 ↔ ¬ b := by
  by_cases h : b
  · rw [bI_t h]; simp [h]
  · rw [bI_f h]; simp [h]
theorem bI_1 {b : Prop} : bI b = 1 ↔ b := by
  by_cases h : b
  · rw [bI_t h]; simp [h]
  · rw [bI_f h]; simp [h]
theorem bI_c {a b : Prop} (h : a ↔ b) : bI a = bI b := by rw [propext h]
theorem s_ifb_eq {X : XT} {M : MT} {z : Nat × Nat × Nat} {pc : Nat} {ls : List (Option AV)} {st : List AV} {I : MI} {L : ML} {R : MR} {F : State → Prop} {b : Prop} {off : Int} (t q : Nat) (hd : decode (mcc M) pc = .ok (.ifCond .eq off, 3)) (ht : (pc : Int) + off = (t : Int)) (hq : pc + 3 = q) (kt : ¬ b → V X M z t ls st I L R F) (kf : b → V X M z q ls st I L R F) : V X M z pc ls (vi (bI b) :: st) I L R F :=
  s_if_eq t q hd ht hq (bI_r b) (fun e => kt (bI_0.mp e)) (fun e => kf (bI_ne.mp e))
theorem s_ifb_ne {X : XT} {M : MT} {z : Nat × Nat × Nat} {pc : Nat} {ls : List (Option AV)} {st : List AV} {I : MI} {L : ML} {R : MR} {F : State → Prop} {b : Prop} {off : Int} (t q : Nat) (hd : decode (mcc M) pc = .ok (.ifCond .ne off, 3)) (ht : (pc : Int) + off = (t : Int)) (hq : pc + 3 = q) (kt : b → V X M z t ls st I L R F) (kf : ¬ b → V X M z q ls st I L R F) : V X M z pc ls (vi (bI b) :: st) I L R F :=
  s_if_ne t q hd ht hq (bI_r b) (fun e => kt (bI_ne.mp e)) (fun e => kf (bI_0.mp e))
theorem s_dup {X : XT} {M : MT} {z : Nat × Nat × Nat} {pc : Nat} {ls : List (Option AV)} {st : List AV} {I : MI} {L : ML} {R : MR} {F : State → Prop} {va : AV} (q : Nat) (hd : decode (mcc M) pc = .ok (.dup, 1)) (hq : pc + 1 = q) (hva : ct va = 1) (k : V X M z q ls (va :: va :: st) I L R F) : V X M z pc ls (va :: st) I L R F := by
  subst hq
  intro ok h1 h2 H locs la hR hl hz hv
  exact lv_dup ok.1 ok.2.1 hd ((cv_ct _ _).trans hva) (k ok h1 h2 H locs la hR hl hz hv)
theorem s_pop {X : XT} {M : MT} {z : Nat × Nat × Nat} {pc : Nat} {ls : List (Option AV)} {st : List AV} {I : MI} {L : ML} {R : MR} {F : State → Prop} {va : AV} (q : Nat) (hd : decode (mcc M) pc = .ok (.pop, 1)) (hq : pc + 1 = q) (hva : ct va = 1) (k : V X M z q ls (st) I L R F) : V X M z pc ls (va :: st) I L R F := by
  subst hq
  intro ok h1 h2 H locs la hR hl hz hv
  exact lv_pop ok.1 ok.2.1 hd ((cv_ct _ _).trans hva) (k ok h1 h2 H locs la hR hl hz hv)
theorem s_dup_x1 {X : XT} {M : MT} {z : Nat × Nat × Nat} {pc : Nat} {ls : List (Option AV)} {st : List AV} {I : MI} {L : ML} {R : MR} {F : State → Prop} {va vb : AV} (q : Nat) (hd : decode (mcc M) pc = .ok (.dup_x1, 1)) (hq : pc + 1 = q) (hva : ct va = 1) (hvb : ct vb = 1) (k : V X M z q ls (va :: vb :: va :: st) I L R F) : V X M z pc ls (va :: vb :: st) I L R F := by
  subst hq
  intro ok h1 h2 H locs la hR hl hz hv
  exact lv_dup_x1 ok.1 ok.2.1 hd ((cv_ct _ _).trans hva) ((cv_ct _ _).trans hvb) (k ok h1 h2 H locs la hR hl hz hv)
theorem s_dup2 {X : XT} {M : MT} {z : Nat × Nat × Nat} {pc : Nat} {ls : List (Option AV)} {st : List AV} {I : MI} {L : ML} {R : MR} {F : State → Prop} {va vb : AV} (q : Nat) (hd : decode (mcc M) pc = .ok (.dup2, 1)) (hq : pc + 1 = q) (hva : ct va = 1) (hvb : ct vb = 1) (k : V X M z q ls (va :: vb :: va :: vb :: st) I L R F) : V X M z pc ls (va :: vb :: st) I L R F := by
  subst hq
  intro ok h1 h2 H locs la hR hl hz hv
  exact lv_dup2_11 ok.1 ok.2.1 hd ((cv_ct _ _).trans hva) ((cv_ct _ _).trans hvb) (k ok h1 h2 H locs la hR hl hz hv)
theorem s_dup_x2 {X : XT} {M : MT} {z : Nat × Nat × Nat} {pc : Nat} {ls : List (Option AV)} {st : List AV} {I : MI} {L : ML} {R : MR} {F : State → Prop} {va vb vd : AV} (q : Nat) (hd : decode (mcc M) pc = .ok (.dup_x2, 1)) (hq : pc + 1 = q) (hva : ct va = 1) (hvb : ct vb = 1) (hvd : ct vd = 1) (k : V X M z q ls (va :: vb :: vd :: va :: st) I L R F) : V X M z pc ls (va :: vb :: vd :: st) I L R F := by
  subst hq
  intro ok h1 h2 H locs la hR hl hz hv
  exact lv_dup_x2 ok.1 ok.2.1 hd ((cv_ct _ _).trans hva) ((cv_ct _ _).trans hvb) ((cv_ct _ _).trans hvd) (k ok h1 h2 H locs la hR hl hz hv)
theorem s_tsIn {X : XT} {M : MT} {z : Nat × Nat × Nat} {pc : Nat} {ls : List (Option AV)} {st : List AV} {I : MI} {L : ML} {R : MR} {F : State → Prop} {dflt lo hi off x : Int} {offs : Array Int} {len : Nat} (t : Nat) (hd : decode (mcc M) pc = .ok (.tableswitch dflt lo hi offs, len)) (hx : -2147483648 ≤ x ∧ x ≤ 2147483647) (hlo : lo ≤ x) (hhi : x ≤ hi) (ho : offs[(x - lo).toNat]? = some off) (ht : (pc : Int) + off = (t : Int)) (k : V X M z t ls st I L R F) : V X M z pc ls (vi x :: st) I L R F := by
  intro ok h1 h2 H locs la hR hl hz hv
  exact lv_tableIn ok.1 ok.2.1 hd (by rw [iI_t hx]; omega) (by rw [iI_t hx]; omega) (by rw [iI_t hx]; exact ho) ht (k ok h1 h2 H locs la hR hl hz hv)
theorem s_tsOut {X : XT} {M : MT} {z : Nat × Nat × Nat} {pc : Nat} {ls : List (Option AV)} {st : List AV} {I : MI} {L : ML} {R : MR} {F : State → Prop} {dflt lo hi x : Int} {offs : Array Int} {len : Nat} (t : Nat) (hd : decode (mcc M) pc = .ok (.tableswitch dflt lo hi offs, len)) (hx : -2147483648 ≤ x ∧ x ≤ 2147483647) (h : x < lo ∨ hi < x) (ht : (pc : Int) + dflt = (t : Int)) (k : V X M z t ls st I L R F) : V X M z pc ls (vi x :: st) I L R F := by
  intro ok h1 h2 H locs la hR hl hz hv
  exact lv_tableOut ok.1 ok.2.1 hd (by rw [iI_t hx]; exact h) ht (k ok h1 h2 H locs la hR hl hz hv)
theorem s_lks {X : XT} {M : MT} {z : Nat × Nat × Nat} {pc : Nat} {ls : List (Option AV)} {st : List AV} {I : MI} {L : ML} {R : MR} {F : State → Prop} {dflt off x : Int} {ps : Array (Int × Int)} {len : Nat} (t : Nat) (hd : decode (mcc M) pc = .ok (.lookupswitch dflt ps, len)) (hx : -2147483648 ≤ x ∧ x ≤ 2147483647) (hp : (ps.toList.zip (ps.toList.drop 1)).all (fun (a, next) => a.1 < next.1) = true) (ho : Op.lookupswitch.offset ps.toList dflt x = off) (ht : (pc : Int) + off = (t : Int)) (k : V X M z t ls st I L R F) : V X M z pc ls (vi x :: st) I L R F := by
  intro ok h1 h2 H locs la hR hl hz hv
  exact lv_lookup ok.1 ok.2.1 hd hp (by rw [iI_t hx]; exact ho) ht (k ok h1 h2 H locs la hR hl hz hv)
