def bt (x : Int32) (i : Nat) : Bool := x.toBitVec.getLsbD i
theorem b_ext {x y : Int32} (h : ∀ i, i < 32 → bt x i = bt y i) : x = y := Int32.toBitVec_inj.mp (BitVec.eq_of_getLsbD_eq (fun i hi => h i hi))
theorem b_or (x y : Int32) (i : Nat) : bt (x ||| y) i = (bt x i || bt y i) := by unfold bt; rw [Int32.toBitVec_or, BitVec.getLsbD_or]
theorem b_and (x y : Int32) (i : Nat) : bt (x &&& y) i = (bt x i && bt y i) := by unfold bt; rw [Int32.toBitVec_and, BitVec.getLsbD_and]
theorem b_xor (x y : Int32) (i : Nat) : bt (x ^^^ y) i = (bt x i ^^ bt y i) := by unfold bt; rw [Int32.toBitVec_xor, BitVec.getLsbD_xor]
theorem b_big {x : Int32} {i : Nat} (h : 32 ≤ i) : bt x i = false := BitVec.getLsbD_of_ge _ _ h
theorem b_m1 : ∀ i, i < 32 → bt (-1) i = true := by decide +kernel
theorem b_0 (i : Nat) : bt 0 i = false := BitVec.getLsbD_zero
theorem s_l : ∀ n, n < 32 → ((nI n &&& 31).toBitVec.smod 32).toNat = n := by decide +kernel
theorem b_shl (n : Nat) (hn : n < 32) (x : Int32) {i : Nat} (hi : i < 32) : bt (x <<< (nI n &&& 31)) i = (decide (n ≤ i) && bt x (i - n)) := by
  unfold bt
  rw [Int32.toBitVec_shiftLeft]
  show (x.toBitVec <<< ((nI n &&& 31).toBitVec.smod 32).toNat).getLsbD i = _
  rw [s_l n hn, BitVec.getLsbD_shiftLeft]
  rcases Nat.lt_or_ge i n with h | h
  · simp [h, Nat.not_le.mpr h]
  · simp [hi, h, Nat.not_lt.mpr h]
theorem b_sshr (n : Nat) (hn : n < 32) (x : Int32) {i : Nat} (hi : i < 32) : bt (x >>> (nI n &&& 31)) i = if n + i < 32 then bt x (n + i) else bt x 31 := by
  unfold bt
  rw [Int32.toBitVec_shiftRight]
  show (x.toBitVec.sshiftRight ((nI n &&& 31).toBitVec.smod 32).toNat).getLsbD i = _
  rw [s_l n hn, BitVec.getLsbD_sshiftRight, BitVec.msb_eq_getLsbD_last]
  simp [hi]
/-! bits of the abstract ints -/
theorem bt_nat (k : Int) (h : 0 ≤ k ∧ k < 32) : iI k &&& 31 = nI k.toNat &&& 31 := by
  rw [← iI_nat, show ((k.toNat : Nat) : Int) = k by omega]
theorem iI_i (x y : Int) : iI (iand x y) = iI x &&& iI y := iI_of _
theorem iI_o (x y : Int) : iI (ior x y) = iI x ||| iI y := iI_of _
theorem iI_x (x y : Int) : iI (ixor x y) = iI x ^^^ iI y := iI_of _
theorem iI_sl (x y : Int) : iI (ishl x y) = iI x <<< (iI y &&& 31) := iI_of _
theorem iI_sr (x y : Int) : iI (ishr x y) = iI x >>> (iI y &&& 31) := iI_of _
theorem bt_1 : ∀ i, i < 32 → bt 1 i = decide (i = 0) := by decide +kernel
theorem and1 (y : Int32) : y &&& 1 = if bt y 0 = true then 1 else 0 := by
  apply b_ext
  intro i hi
  rw [b_and, bt_1 i hi]
  by_cases h0 : i = 0
  · subst h0
    by_cases h : bt y 0 = true
    · rw [if_pos h, h]; decide
    · rw [if_neg h]; simp at h; rw [h]; decide
  · have : bt (if bt y 0 = true then (1 : Int32) else 0) i = false := by
      split
      · rw [bt_1 i hi]; simp [h0]
      · exact b_0 i
    rw [this]; simp [h0]
theorem has_bt {s k : Int} (h : 0 ≤ k ∧ k < 32) : hasI s k ↔ bt (iI s) k.toNat = true := by
  unfold hasI
  have e : iand (ishr s k) 1 = (iI (ishr s k) &&& 1).toInt := by unfold iand; rfl
  have h3 : bt (iI s >>> (nI k.toNat &&& 31)) 0 = bt (iI s) k.toNat := by
    rw [b_sshr k.toNat (by omega) (iI s) (i := 0) (by omega), if_pos (by omega : k.toNat + 0 < 32), Nat.add_zero]
  rw [e, iI_sr, bt_nat k h, and1, h3]
  by_cases hb : bt (iI s) k.toNat = true
  · simp [hb]
  · simp [hb]
theorem has_or {x y k : Int} (h : 0 ≤ k ∧ k < 32) : hasI (ior x y) k ↔ hasI x k ∨ hasI y k := by
  rw [has_bt h, has_bt h, has_bt h, iI_o, b_or, Bool.or_eq_true]
theorem has_and {x y k : Int} (h : 0 ≤ k ∧ k < 32) : hasI (iand x y) k ↔ hasI x k ∧ hasI y k := by
  rw [has_bt h, has_bt h, has_bt h, iI_i, b_and, Bool.and_eq_true]
theorem has_xor {x y k : Int} (h : 0 ≤ k ∧ k < 32) : hasI (ixor x y) k ↔ ¬ (hasI x k ↔ hasI y k) := by
  rw [has_bt h, has_bt h, has_bt h, iI_x, b_xor]
  cases bt (iI x) k.toNat <;> cases bt (iI y) k.toNat <;> simp
theorem has_not {x k : Int} (h : 0 ≤ k ∧ k < 32) : hasI (ixor x (-1)) k ↔ ¬ hasI x k := by
  have hm : hasI (-1) k := by
    rw [has_bt h, show iI (-1) = -1 by decide]
    exact b_m1 _ (by omega)
  rw [has_xor h]
  exact ⟨fun hne hx => hne ⟨fun _ => hm, fun _ => hx⟩, fun hx hiff => hx (hiff.mpr hm)⟩
theorem has_andn {x y k : Int} (h : 0 ≤ k ∧ k < 32) : hasI (iand x (ixor y (-1))) k ↔ hasI x k ∧ ¬ hasI y k := by
  rw [has_and h, has_not h]
theorem has_0 {k : Int} (h : 0 ≤ k ∧ k < 32) : ¬ hasI 0 k := by
  rw [has_bt h, show iI 0 = 0 by decide, b_0]
  decide
theorem has_shl {j k : Int} (hj : 0 ≤ j ∧ j < 32) (h : 0 ≤ k ∧ k < 32) : hasI (ishl 1 j) k ↔ k = j := by
  rw [has_bt h, iI_sl, bt_nat j hj, b_shl j.toNat (by omega) (iI 1) (by omega : k.toNat < 32), show iI 1 = 1 by decide]
  by_cases e : j.toNat ≤ k.toNat
  · rw [bt_1 _ (by omega)]
    simp only [e, decide_true, Bool.true_and, decide_eq_true_eq]
    omega
  · simp only [e, decide_false, Bool.false_and]
    constructor
    · intro h; cases h
    · intro h; omega
theorem set_ext {x y : Int} (hx : -2147483648 ≤ x ∧ x ≤ 2147483647) (hy : -2147483648 ≤ y ∧ y ≤ 2147483647) (h : ∀ k, 0 ≤ k → k < 32 → (hasI x k ↔ hasI y k)) : x = y := by
  rw [← iI_t hx, ← iI_t hy]
  congr 1
  apply b_ext
  intro i hi
  have h1 := h (i : Int) (by omega) (by omega)
  rw [has_bt ⟨by omega, by omega⟩, has_bt ⟨by omega, by omega⟩, Int.toNat_natCast] at h1
  cases h2 : bt (iI x) i <;> cases h3 : bt (iI y) i <;> simp_all
/-- a set of numbers below n is below 2^n -/
theorem set_lt {x : Int} {n : Nat} (hn : n ≤ 31) (hx : -2147483648 ≤ x ∧ x ≤ 2147483647) (h : ∀ k : Int, (n : Int) ≤ k → k < 32 → ¬ hasI x k) : 0 ≤ x ∧ x < 2 ^ n := by
  have hb : ∀ i, n ≤ i → (iI x).toBitVec.toNat.testBit i = false := by
    intro i hi
    by_cases h32 : i < 32
    · have h1 := h (i : Int) (by omega) (by omega)
      rw [has_bt ⟨by omega, by omega⟩, Int.toNat_natCast] at h1
      have : bt (iI x) i = false := by simpa using h1
      exact this
    · exact Nat.testBit_lt_two_pow (Nat.lt_of_lt_of_le (iI x).toBitVec.isLt (Nat.pow_le_pow_right (by omega) (by omega)))
  have hl : (iI x).toBitVec.toNat < 2 ^ n := Nat.lt_pow_two_of_testBit _ hb
  have hp : 2 ^ n ≤ 2 ^ 31 := Nat.pow_le_pow_right (by omega) hn
  have e : x = ((iI x).toBitVec.toNat : Int) := by
    have h1 : (iI x).toInt = x := iI_t hx
    have h2 : (iI x).toInt = (iI x).toBitVec.toInt := rfl
    have h3 := BitVec.toInt_eq_toNat_of_lt (x := (iI x).toBitVec) (by omega)
    rw [← h2, h1] at h3
    exact h3
  have hl' : ((iI x).toBitVec.toNat : Int) < ((2 ^ n : Nat) : Int) := by exact_mod_cast hl
  rw [e]
  constructor
  · omega
  · calc ((iI x).toBitVec.toNat : Int) < ((2 ^ n : Nat) : Int) := hl'
      _ = 2 ^ n := by simp
theorem has_lt {x : Int} {n : Nat} (hn : n ≤ 31) (hx : 0 ≤ x ∧ x < 2 ^ n) {k : Int} (hk : (n : Int) ≤ k ∧ k < 32) : ¬ hasI x k := by
  rw [has_bt (by omega)]
  intro hb
  have hp : (2 : Nat) ^ n ≤ 2 ^ 31 := Nat.pow_le_pow_right (by omega) hn
  have hx9 : x < ((2 ^ n : Nat) : Int) := by simpa using hx.2
  have e : (iI x).toBitVec.toNat = x.toNat := by
    have e1 : iI x = nI x.toNat := by rw [← iI_nat]; congr 1; omega
    rw [e1, pk_tn (by omega)]
  have h2 : (iI x).toBitVec.toNat.testBit k.toNat = true := hb
  rw [e, Nat.testBit_lt_two_pow (Nat.lt_of_lt_of_le (by omega : x.toNat < 2 ^ n) (Nat.pow_le_pow_right (by omega) (by omega)))] at h2
  cases h2
/-- the set of the numbers below n of which P holds, as the programs make it -/
noncomputable def setOf (P : Int → Prop) : Nat → Int
  | 0 => 0
  | n + 1 => ior (setOf P n) (@ite Int (P n) (Classical.propDecidable _) (ishl 1 n) 0)
theorem has_setOf {P : Int → Prop} : ∀ {n : Nat} (_ : n ≤ 32) {k : Int} (_ : 0 ≤ k ∧ k < 32), hasI (setOf P n) k ↔ k < n ∧ P k
  | 0, _, k, hk => ⟨fun h => absurd h (has_0 hk), fun h => by omega⟩
  | n + 1, hn, k, hk => by
    unfold setOf
    rw [has_or hk, has_setOf (by omega) hk]
    by_cases hp : P n
    · rw [if_pos hp, has_shl ⟨by omega, by omega⟩ hk]
      constructor
      · rintro (⟨h1, h2⟩ | rfl)
        · exact ⟨by omega, h2⟩
        · exact ⟨by omega, hp⟩
      · rintro ⟨h1, h2⟩
        by_cases e : k = n
        · exact Or.inr e
        · exact Or.inl ⟨by omega, h2⟩
    · rw [if_neg hp]
      constructor
      · rintro (⟨h1, h2⟩ | h)
        · exact ⟨by omega, h2⟩
        · exact absurd h (has_0 hk)
      · rintro ⟨h1, h2⟩
        by_cases e : k = n
        · subst e; exact absurd h2 hp
        · exact Or.inl ⟨by omega, h2⟩
theorem ior_r (x y : Int) : -2147483648 ≤ ior x y ∧ ior x y ≤ 2147483647 := iI_r _
theorem iand_r (x y : Int) : -2147483648 ≤ iand x y ∧ iand x y ≤ 2147483647 := iI_r _
theorem setOf_r (P : Int → Prop) (n : Nat) : -2147483648 ≤ setOf P n ∧ setOf P n ≤ 2147483647 := by
  cases n with
  | zero => unfold setOf; omega
  | succ n => unfold setOf; exact ior_r _ _
theorem setOf_lt (P : Int → Prop) {n : Nat} (hn : n ≤ 31) : 0 ≤ setOf P n ∧ setOf P n < 2 ^ n :=
  set_lt hn (setOf_r P n) (fun k h1 h2 h => by have := (has_setOf (by omega) ⟨by omega, h2⟩).mp h; omega)
/-! ===== nI under and, xor, >>>, one bit, 65535 ===== -/
theorem nx_and (a b : Nat) : nI a &&& nI b = nI (a &&& b) := by
  apply Int32.toBitVec_inj.1
  show BitVec.ofNat 32 a &&& BitVec.ofNat 32 b = BitVec.ofNat 32 (a &&& b)
  apply BitVec.eq_of_getLsbD_eq
  intro i hi
  simp [hi]
