/-! Math.min, Math.max -/
theorem w_mm0 : Cond.initialized "java/lang/Math" ∈ TB := TB_of (lt1 (List.mem_of_getElem? (i := 19) (by decide +kernel))) rfl
theorem w_mm1 : Cond.static Lib.Math.min.name ∈ TB := TB_of (lt4 (List.mem_of_getElem? (i := 204) (by decide +kernel))) rfl
theorem w_mm2 : Cond.code Lib.Math.min.name Lib.Math.min.code 2 (some .int) ∈ TB := TB_of (lt4 (List.mem_of_getElem? (i := 205) (by decide +kernel))) rfl
theorem w_mx1 : Cond.static Lib.Math.max.name ∈ TB := TB_of (lt5 (List.mem_of_getElem? (i := 27) (by decide +kernel))) rfl
theorem w_mx2 : Cond.code Lib.Math.max.name Lib.Math.max.code 2 (some .int) ∈ TB := TB_of (lt5 (List.mem_of_getElem? (i := 28) (by decide +kernel))) rfl
theorem w_m_X4_123 : Cond.methodLink RX4 123 Lib.Math.min.name ∈ TB := TB_of (lt4 (List.mem_of_getElem? (i := 203) (by decide +kernel))) rfl
theorem w_m_X1_70 : Cond.methodLink RX1 70 Lib.Math.max.name ∈ TB := TB_of (lt5 (List.mem_of_getElem? (i := 26) (by decide +kernel))) rfl
theorem w_m_X1_98 : Cond.methodLink RX1 98 Lib.Math.min.name ∈ TB := TB_of (lt5 (List.mem_of_getElem? (i := 80) (by decide +kernel))) rfl
theorem s_mmin {X : XT} {M : MT} {z : Nat × Nat × Nat} {pc : Nat} {ls : List (Option AV)} {st : List AV} {I : MI} {L : ML} {R : MR} {F : State → Prop} {idx : Nat} {x y : Int} (q : Nat) (hd : decode (mcc M) pc = .ok (.invokestatic idx, 3)) (hq : pc + 3 = q) (hw : Cond.methodLink (mown M) idx Lib.Math.min.name ∈ TB) (hr : 1 ≤ mrk M) (hst : asz st ≤ 8) (hx : -2147483648 ≤ x ∧ x ≤ 2147483647) (hy : -2147483648 ≤ y ∧ y ≤ 2147483647) (k9 : V X M z q ls (vi (if y < x then y else x) :: st) I L R F) : V X M z pc ls (vi y :: vi x :: st) I L R F := by
  subst hq
  intro ok h1 h2 H locs la hR hl hz hv
  have a1 := ok.2.2.2.2.2.2.2.2.2.1
  have a2 := ok.2.2.2.2.2.2.2.2.2.2.1
  have a3 := ok.2.2.2.2.2.2.2.2.2.2.2.1
  have a4 := ok.2.2.2.2.2.2.2.2.2.2.2.2.1
  refine va_mmin ok.1 ok.2.1 (ok.2.2.1.trans hv.1.symm) ok.2.2.2.1 (ok.2.2.2.2.1 _ hw) (ok.2.2.2.2.1 _ w_mm1) (ok.2.2.2.2.1 _ w_mm0) (ok.2.2.2.2.1 _ w_mm2) (by omega) (by rw [asz_sum]; omega) (Nat.le_trans h1 a3) (Nat.le_trans h2 a4) hd ?_
  have e : (if iI y < iI x then iI y else iI x) = iI (if y < x then y else x) := by
    by_cases h : y < x
    · rw [if_pos h, if_pos ((iI_lt hy hx).mpr h)]
    · rw [if_neg h, if_neg (fun z => h ((iI_lt hy hx).mp z))]
  rw [e]
  exact k9 ok h1 h2 H locs la hR hl hz hv
theorem s_mmax {X : XT} {M : MT} {z : Nat × Nat × Nat} {pc : Nat} {ls : List (Option AV)} {st : List AV} {I : MI} {L : ML} {R : MR} {F : State → Prop} {idx : Nat} {x y : Int} (q : Nat) (hd : decode (mcc M) pc = .ok (.invokestatic idx, 3)) (hq : pc + 3 = q) (hw : Cond.methodLink (mown M) idx Lib.Math.max.name ∈ TB) (hr : 1 ≤ mrk M) (hst : asz st ≤ 8) (hx : -2147483648 ≤ x ∧ x ≤ 2147483647) (hy : -2147483648 ≤ y ∧ y ≤ 2147483647) (k9 : V X M z q ls (vi (if x < y then y else x) :: st) I L R F) : V X M z pc ls (vi y :: vi x :: st) I L R F := by
  subst hq
  intro ok h1 h2 H locs la hR hl hz hv
  have a1 := ok.2.2.2.2.2.2.2.2.2.1
  have a2 := ok.2.2.2.2.2.2.2.2.2.2.1
  have a3 := ok.2.2.2.2.2.2.2.2.2.2.2.1
  have a4 := ok.2.2.2.2.2.2.2.2.2.2.2.2.1
  refine va_mmax ok.1 ok.2.1 (ok.2.2.1.trans hv.1.symm) ok.2.2.2.1 (ok.2.2.2.2.1 _ hw) (ok.2.2.2.2.1 _ w_mx1) (ok.2.2.2.2.1 _ w_mm0) (ok.2.2.2.2.1 _ w_mx2) (by omega) (by rw [asz_sum]; omega) (Nat.le_trans h1 a3) (Nat.le_trans h2 a4) hd ?_
  have e : (if iI x < iI y then iI y else iI x) = iI (if x < y then y else x) := by
    by_cases h : x < y
    · rw [if_pos h, if_pos ((iI_lt hx hy).mpr h)]
    · rw [if_neg h, if_neg (fun z => h ((iI_lt hx hy).mp z))]
  rw [e]
  exact k9 ok h1 h2 H locs la hR hl hz hv
