/-! the class's tape and TOKENS -/
theorem s_wr {X : XT} {M : MT} {z : Nat × Nat × Nat} {pc : Nat} {ls : List (Option AV)} {st : List AV} {I : MI} {L : ML} {R : MR} {F : State → Prop} {x : Int} (k : V X M z pc ls (vi (iI x).toInt :: st) I L R F) : V X M z pc ls (vi x :: st) I L R F := by
  intro ok h1 h2 H locs la hR hl hz hv
  have e : cv (xG X) (vi (iI x).toInt) = cv (xG X) (vi x) := by
    show Value.int (iI (iI x).toInt) = Value.int (iI x)
    rw [iI_of]
  have g := k ok h1 h2 H locs la hR hl hz hv
  rw [List.map_cons, e] at g
  exact g
theorem cmp_0 {x y : Int64} : (lg_cmp x y).toInt = 0 ↔ x = y := by
  unfold lg_cmp
  by_cases h : x = y
  · subst h
    rw [if_neg (Int64.lt_irrefl), if_pos rfl]
    exact ⟨fun _ => rfl, fun _ => rfl⟩
  · refine ⟨fun z => ?_, fun z => absurd z h⟩
    split at z <;> first | exact absurd z (by decide) | (rw [if_neg h] at z; exact absurd z (by decide))
/-- letters, eight bits each -/
def pk (f : F1) : Nat → Int64
  | 0 => 0
  | m + 1 => (pk f m <<< ((iI 8).toInt64 &&& 63)) ||| (iI (f m)).toInt64
def pn (f : F1) : Nat → Nat
  | 0 => 0
  | m + 1 => 256 * pn f m + (f m).toNat
theorem pk_c {f g : F1} : ∀ {m : Nat} (_ : ∀ j : Int, 0 ≤ j → j < m → f j = g j), pk f m = pk g m
  | 0, _ => rfl
  | m + 1, h => by
    unfold pk
    rw [pk_c (m := m) (fun j a b => h j a (by omega)), h m (by omega) (by omega)]
theorem pn_lt {f : F1} : ∀ {m : Nat} (_ : ∀ j : Int, 0 ≤ j → j < m → 1 ≤ f j ∧ f j ≤ 255), pn f m < 256 ^ m
  | 0, _ => by simp [pn]
  | m + 1, h => by
    have h1 := pn_lt (f := f) (m := m) (fun j a b => h j a (by omega))
    have h2 := h m (by omega) (by omega)
    unfold pn
    rw [Nat.pow_succ]
    omega
theorem i64_of {c : Int} (h : 0 ≤ c ∧ c < 256) : (iI c).toInt64 = Int64.ofNat c.toNat := by
  have e : ∀ n : Nat, n < 256 → (nI n).toInt64 = Int64.ofNat n := by decide +kernel
  have e1 : iI c = nI c.toNat := by rw [← iI_nat]; congr 1; omega
  rw [e1]
  exact e c.toNat (by omega)
theorem i64_shl {x c : Nat} (hc : c < 256) (h : 256 * x + c < 2 ^ 64) : (Int64.ofNat x <<< ((iI 8).toInt64 &&& 63)) ||| Int64.ofNat c = Int64.ofNat (256 * x + c) := by
  apply Int64.toBitVec_inj.mp
  rw [Int64.toBitVec_or, Int64.toBitVec_shiftLeft]
  have e8 : ((iI 8).toInt64 &&& 63).toBitVec.smod 64 = 8#64 := by decide
  show (BitVec.ofNat 64 x <<< (((iI 8).toInt64 &&& 63).toBitVec.smod 64)) ||| BitVec.ofNat 64 c = BitVec.ofNat 64 (256 * x + c)
  rw [e8]
  apply BitVec.eq_of_toNat_eq
  rw [BitVec.toNat_or]
  show ((BitVec.ofNat 64 x <<< (8#64).toNat).toNat) ||| _ = _
  have t1 : (BitVec.ofNat 64 x).toNat = x := by rw [BitVec.toNat_ofNat]; omega
  have t2 : (BitVec.ofNat 64 c).toNat = c := by rw [BitVec.toNat_ofNat]; omega
  have t3 : (BitVec.ofNat 64 (256 * x + c)).toNat = 256 * x + c := by rw [BitVec.toNat_ofNat]; omega
  rw [BitVec.toNat_shiftLeft, t1, t2, t3]
  have e : x <<< (8#64).toNat = 2 ^ 8 * x := by
    show x <<< 8 = _
    rw [Nat.shiftLeft_eq]; omega
  rw [e, Nat.mod_eq_of_lt (by omega)]
  rw [← Nat.two_pow_add_eq_or_of_lt (i := 8) (b := c) (by omega)]
theorem pk_n {f : F1} : ∀ {m : Nat} (_ : m ≤ 8) (_ : ∀ j : Int, 0 ≤ j → j < m → 1 ≤ f j ∧ f j ≤ 255), pk f m = Int64.ofNat (pn f m)
  | 0, _, _ => rfl
  | m + 1, hm, h => by
    have h1 := pk_n (f := f) (m := m) (by omega) (fun j a b => h j a (by omega))
    have h2 := h m (by omega) (by omega)
    have h3 := pn_lt (f := f) (m := m + 1) h
    have h4 : 256 ^ (m + 1) ≤ 256 ^ 8 := Nat.pow_le_pow_right (by omega) hm
    unfold pk
    rw [h1, i64_of (c := f m) (by omega), i64_shl (by omega)]
    · rfl
    · show pn f (m + 1) < 2 ^ 64
      have : (256 : Nat) ^ 8 = 2 ^ 64 := by decide
      omega
theorem pn_inj {f g : F1} : ∀ {m k : Nat} (_ : ∀ j : Int, 0 ≤ j → j < m → 1 ≤ f j ∧ f j ≤ 255) (_ : ∀ j : Int, 0 ≤ j → j < k → 1 ≤ g j ∧ g j ≤ 255) (_ : pn f m = pn g k), m = k ∧ ∀ j : Int, 0 ≤ j → j < m → f j = g j
  | 0, 0, _, _, _ => ⟨rfl, fun j a b => by omega⟩
  | 0, k + 1, _, hg, h => by
    have := hg k (by omega) (by omega)
    unfold pn at h
    omega
  | m + 1, 0, hf, _, h => by
    have := hf m (by omega) (by omega)
    unfold pn at h
    omega
  | m + 1, k + 1, hf, hg, h => by
    have h1 := hf m (by omega) (by omega)
    have h2 := hg k (by omega) (by omega)
    unfold pn at h
    have h3 := pn_inj (f := f) (g := g) (m := m) (k := k) (fun j a b => hf j a (by omega)) (fun j a b => hg j a (by omega)) (by omega)
    obtain ⟨e1, e2⟩ := h3
    subst e1
    refine ⟨rfl, fun j a b => ?_⟩
    by_cases e : j = m
    · rw [e]; omega
    · exact e2 j a (by omega)
theorem pk_inj {f g : F1} {m k : Nat} (hm : m ≤ 8) (hk : k ≤ 8) (hf : ∀ j : Int, 0 ≤ j → j < m → 1 ≤ f j ∧ f j ≤ 255) (hg : ∀ j : Int, 0 ≤ j → j < k → 1 ≤ g j ∧ g j ≤ 255) (h : pk f m = pk g k) : m = k ∧ ∀ j : Int, 0 ≤ j → j < m → f j = g j := by
  rw [pk_n hm hf, pk_n hk hg] at h
  have h1 := pn_lt hf
  have h2 := pn_lt hg
  have h3 : 256 ^ m ≤ 256 ^ 8 := Nat.pow_le_pow_right (by omega) hm
  have h4 : 256 ^ k ≤ 256 ^ 8 := Nat.pow_le_pow_right (by omega) hk
  have h5 : (256 : Nat) ^ 8 = 2 ^ 64 := by decide
  have h6 := congrArg (fun x : Int64 => x.toBitVec.toNat) h
  have h7 : (BitVec.ofNat 64 (pn f m)).toNat = (BitVec.ofNat 64 (pn g k)).toNat := h6
  rw [BitVec.toNat_ofNat, BitVec.toNat_ofNat, Nat.mod_eq_of_lt (by omega), Nat.mod_eq_of_lt (by omega)] at h7
  exact pn_inj hf hg h7
/-- a WORD as a long -/
def pkW (w : List Int) : Int64 := pk (vL w) w.length
theorem pkW_inj {v w : List Int} (hv : v.length ≤ 8 ∧ ∀ j, 0 ≤ j → j < (v.length : Int) → 97 ≤ vL v j ∧ vL v j ≤ 122) (hw : w.length ≤ 8 ∧ ∀ j, 0 ≤ j → j < (w.length : Int) → 97 ≤ vL w j ∧ vL w j ≤ 122) : pkW v = pkW w ↔ v = w := by
  constructor
  · intro h
    obtain ⟨h1, h2⟩ := pk_inj hv.1 hw.1 (fun j a b => by have := hv.2 j a b; omega) (fun j a b => by have := hw.2 j a b; omega) h
    exact vL_ext (n := v.length) rfl h1.symm h2
  · intro h; rw [h]
set_option maxHeartbeats 4000000 in
theorem c_X9_hasRoom {E : ET} {I : MI} {L : ML} {R : MR} {Q : Option AV → MI → ML → MR → Prop} {n : Int} (e : I 1 1 = n) (hn : 0 ≤ n ∧ n ≤ 900) (h : Q (some (vi (bI (n + 20 ≤ 900)))) I L R) : CT E M_X9_hasRoom 161 yX9_hasRoom [(vr (1)), (vi (20))] I L R Q := by
  refine CT_of rfl rfl (fun h => by cases h) (Nat.le_of_ble_eq_true rfl) (fun X => ?_)
  show V X _ z0 0 [some (vr (1)), some (vi (20))] [] I L R _
  subst e
  refine s_aload_n 1 dX9_hasRoom_0 rfl rfl ?_
  refine s_getI 4 dX9_hasRoom_1 rfl fl_X9_15 (fun _ _ _ _ => rfl) sh_1 (Nat.le_of_ble_eq_true rfl) (fun r_1 => ?_)
  refine s_iload_n 5 dX9_hasRoom_4 rfl rfl ?_
  refine s_iadd 6 dX9_hasRoom_5 rfl ?_
  refine s_sipush 9 dX9_hasRoom_6 rfl (by decide) ?_
  refine s_icmp_gt 16 12 dX9_hasRoom_9 rfl rfl (by first | omega | exact bI_r _ | exact iI_r _) (by first | omega | exact bI_r _ | exact iI_r _) (fun h_9 => ?_) (fun h_9 => ?_)
  · skip
    refine s_iconst 17 dX9_hasRoom_16 rfl ?_
    refine s_zret dX9_hasRoom_17 rfl (by first | omega | exact bI_b _) rfl ?_
    first | exact ret_t (by omega) h | exact ret_f (by omega) h
  refine s_iconst 13 dX9_hasRoom_12 rfl ?_
  refine s_goto 17 dX9_hasRoom_13 rfl ?_
  refine s_zret dX9_hasRoom_17 rfl (by first | omega | exact bI_b _) rfl ?_
  first | exact ret_t (by omega) h | exact ret_f (by omega) h
def adB (x j : Int) : Int := iand (ishr x (24 - 8 * j)) 255
set_option maxHeartbeats 4000000 in
theorem c_X9_add {E : ET} {I : MI} {L : ML} {R : MR} {Q : Option AV → MI → ML → MR → Prop} {n x : Int} (hT : Topo R) (e : I 1 1 = n) (hn : 0 ≤ n ∧ n + 4 ≤ 900) (h : ∀ I', Eqo [1, 2] I I' → I' 1 1 = n + 4 → (∀ k, I' 2 k = if n ≤ k ∧ k < n + 4 then adB x (k - n) else I 2 k) → Q none I' L R) : CT E M_X9_add 161 yX9_add [(vr (1)), (vi (x))] I L R Q := by
  refine CT_of rfl rfl (fun h => by cases h) (Nat.le_of_ble_eq_true rfl) (fun X => ?_)
  show V X _ z0 0 [some (vr (1)), some (vi (x)), none] [] I L R _
  have loop : ∀ (f : Nat) (j : Int) (I1 : MI), 4 - j < (f : Int) → 0 ≤ j → j ≤ 4 → Eqo [1, 2] I I1 → I1 1 1 = n + j → (∀ k, I1 2 k = if n ≤ k ∧ k < n + j then adB x (k - n) else I 2 k) → V X M_X9_add z0 3 [some (vr (1)), some (vi (x)), some (vi (24 - 8 * j))] [] (I1) L R (RT X M_X9_add Q) := by
    intro f
    induction f with
    | zero => intro j I1 h1 h2 h3; omega
    | succ f ih =>
      intro j I1 h1 h2 h3 h4 h5 h6
      by_cases hj : j < 4
      · skip
        refine s_iload_n 4 dX9_add_3 rfl rfl ?_
        refine s_if_lt 49 7 dX9_add_4 rfl rfl (by first | omega | exact bI_r _ | exact iI_r _) (fun h_4 => by exfalso; omega) (fun h_4 => ?_)
        refine s_aload_n 8 dX9_add_7 rfl rfl ?_
        refine s_getI 11 dX9_add_8 rfl fl_X9_15 (fun _ _ _ _ => rfl) sh_1 (Nat.le_of_ble_eq_true rfl) (fun r_8 => ?_)
        rw [h5]
        refine s_sipush 14 dX9_add_11 rfl (by decide) ?_
        refine s_icmp_ge 43 17 dX9_add_14 rfl rfl (by first | omega | exact bI_r _ | exact iI_r _) (by first | omega | exact bI_r _ | exact iI_r _) (fun h_14 => by exfalso; omega) (fun h_14 => ?_)
        refine s_aload_n 18 dX9_add_17 rfl rfl ?_
        refine s_getR 21 dX9_add_18 rfl fl_X9_9 (fun _ _ _ _ => rfl) (T_X9_bytes hT) sh_1 (Nat.le_of_ble_eq_true rfl) ?_
        refine s_aload_n 22 dX9_add_21 rfl rfl ?_
        refine s_getI 25 dX9_add_22 rfl fl_X9_15 (fun _ _ _ _ => rfl) sh_1 (Nat.le_of_ble_eq_true rfl) (fun r_22 => ?_)
        rw [h5]
        refine s_iload_n 26 dX9_add_25 rfl rfl ?_
        refine s_iload_n 27 dX9_add_26 rfl rfl ?_
        refine s_ishr 28 dX9_add_27 rfl ?_
        refine s_sipush 31 dX9_add_28 rfl (by decide) ?_
        refine s_iand 32 dX9_add_31 rfl ?_
        refine s_iast 33 dX9_add_32 rfl sh_2 (Nat.le_of_ble_eq_true rfl) (by omega) (by omega) (by first | omega | exact iand_r _ _) ?_
        refine s_aload_n 34 dX9_add_33 rfl rfl ?_
        refine s_dup 35 dX9_add_34 rfl rfl ?_
        refine s_getI 38 dX9_add_35 rfl fl_X9_15 (fun _ _ _ _ => rfl) sh_1 (Nat.le_of_ble_eq_true rfl) (fun r_35 => ?_)
        rw [up_ne (by decide), h5]
        refine s_iconst 39 dX9_add_38 rfl ?_
        refine s_iadd 40 dX9_add_39 rfl ?_
        refine s_putI 43 dX9_add_40 rfl fl_X9_15 (fun _ => rfl) (fun _ => rfl) (fun _ _ _ _ => rfl) sh_1 (Nat.le_of_ble_eq_true rfl) (by first | omega | exact bI_r _ | exact iI_r _) ?_
        refine s_iinc (ls' := [_, _, _]) 46 dX9_add_43 rfl rfl (Nat.le_of_ble_eq_true rfl) rfl rfl ?_
        refine s_goto 3 dX9_add_46 rfl ?_
        have ih9 := ih (j + 1) (up (up I1 2 (n + j) (iand (ishr x (24 - 8 * j)) 255)) 1 1 (n + j + 1)) (by omega) (by omega) (by omega) ((h4.st (by decide)).st (by decide)) (by rw [ups]; omega) (fun k => ?_)
        · rw [show 24 - 8 * (j + 1) = 24 - 8 * j + -8 by omega] at ih9; exact ih9
        · rw [up_ne (by decide), upd9]
          by_cases ek : k = n + j
          · rw [if_pos ek, if_pos (by omega), ek, show n + j - n = j by omega]; rfl
          · rw [if_neg ek, h6 k]
            by_cases e2 : n ≤ k ∧ k < n + j
            · rw [if_pos e2, if_pos (by omega)]
            · rw [if_neg e2, if_neg (by omega)]
      · have ej : j = 4 := by omega
        subst ej
        refine s_iload_n 4 dX9_add_3 rfl rfl ?_
        refine s_if_lt 49 7 dX9_add_4 rfl rfl (by first | omega | exact bI_r _ | exact iI_r _) (fun h_4 => ?_) (fun h_4 => by exfalso; omega)
        refine s_vret dX9_add_49 rfl rfl ?_
        exact h I1 h4 h5 h6
  refine s_bipush 2 dX9_add_0 rfl (by decide) ?_
  refine s_istore_n (ls' := [_, _, _]) 3 dX9_add_2 rfl (Nat.le_of_ble_eq_true rfl) rfl rfl ?_
  have l9 := loop 5 0 I (by omega) (by omega) (by omega) Eqo.rf (by omega) (fun k => by rw [if_neg (by omega)])
  exact l9
set_option maxHeartbeats 4000000 in
theorem c_X9_at {E : ET} {I : MI} {L : ML} {R : MR} {Q : Option AV → MI → ML → MR → Prop} {bt : F1} {k : Int} (hT : Topo R) (e : I 2 = bt) (hk : 0 ≤ k ∧ k < 900) (h : Q (some (vi (bt k))) I L R) : CT E M_X9_at 161 yX9_at [(vr (1)), (vi (k))] I L R Q := by
  refine CT_of rfl rfl (fun h => by cases h) (Nat.le_of_ble_eq_true rfl) (fun X => ?_)
  show V X _ z0 0 [some (vr (1)), some (vi (k))] [] I L R _
  subst e
  refine s_iload_n 1 dX9_at_0 rfl rfl ?_
  refine s_if_lt 20 4 dX9_at_1 rfl rfl (by first | omega | exact bI_r _ | exact iI_r _) (fun h_1 => by exfalso; omega) (fun h_1 => ?_)
  refine s_iload_n 5 dX9_at_4 rfl rfl ?_
  refine s_sipush 8 dX9_at_5 rfl (by decide) ?_
  refine s_icmp_ge 20 11 dX9_at_8 rfl rfl (by first | omega | exact bI_r _ | exact iI_r _) (by first | omega | exact bI_r _ | exact iI_r _) (fun h_8 => by exfalso; omega) (fun h_8 => ?_)
  refine s_aload_n 12 dX9_at_11 rfl rfl ?_
  refine s_getR 15 dX9_at_12 rfl fl_X9_9 (fun _ _ _ _ => rfl) (T_X9_bytes hT) sh_1 (Nat.le_of_ble_eq_true rfl) ?_
  refine s_iload_n 16 dX9_at_15 rfl rfl ?_
  refine s_iald 17 dX9_at_16 rfl sh_2 (Nat.le_of_ble_eq_true rfl) (by omega) (by omega) (fun r_16 => ?_)
  refine s_goto 21 dX9_at_17 rfl ?_
  refine s_iret dX9_at_21 rfl rfl ?_
  exact h
set_option maxHeartbeats 4000000 in
theorem c_X10_isLetter {E : ET} {I : MI} {L : ML} {R : MR} {Q : Option AV → MI → ML → MR → Prop} {c : Int} (hc : -2147483648 ≤ c ∧ c ≤ 2147483647) (h : Q (some (vi (bI (smB c)))) I L R) : CT E M_X10_isLetter 161 yX10_isLetter [(vi (c))] I L R Q := by
  refine CT_of rfl rfl (fun h => by cases h) (Nat.le_of_ble_eq_true rfl) (fun X => ?_)
  show V X _ z0 0 [some (vi (c))] [] I L R _
  refine s_iload_n 1 dX10_isLetter_0 rfl rfl ?_
  refine s_bipush 3 dX10_isLetter_1 rfl (by decide) ?_
  refine s_icmp_lt 16 6 dX10_isLetter_3 rfl rfl (by first | omega | exact bI_r _ | exact iI_r _) (by first | omega | exact bI_r _ | exact iI_r _) (fun h_3 => ?_) (fun h_3 => ?_)
  · skip
    refine s_iconst 17 dX10_isLetter_16 rfl ?_
    refine s_zret dX10_isLetter_17 rfl (by first | omega | exact bI_b _) rfl ?_
    first | exact ret_t (by unfold smB; omega) h | exact ret_f (by unfold smB; omega) h
  refine s_iload_n 7 dX10_isLetter_6 rfl rfl ?_
  refine s_bipush 9 dX10_isLetter_7 rfl (by decide) ?_
  refine s_icmp_gt 16 12 dX10_isLetter_9 rfl rfl (by first | omega | exact bI_r _ | exact iI_r _) (by first | omega | exact bI_r _ | exact iI_r _) (fun h_9 => ?_) (fun h_9 => ?_)
  · skip
    refine s_iconst 17 dX10_isLetter_16 rfl ?_
    refine s_zret dX10_isLetter_17 rfl (by first | omega | exact bI_b _) rfl ?_
    first | exact ret_t (by unfold smB; omega) h | exact ret_f (by unfold smB; omega) h
  refine s_iconst 13 dX10_isLetter_12 rfl ?_
  refine s_goto 17 dX10_isLetter_13 rfl ?_
  refine s_zret dX10_isLetter_17 rfl (by first | omega | exact bI_b _) rfl ?_
  first | exact ret_t (by unfold smB; omega) h | exact ret_f (by unfold smB; omega) h
set_option maxHeartbeats 4000000 in
theorem c_X10_isDigit {E : ET} {I : MI} {L : ML} {R : MR} {Q : Option AV → MI → ML → MR → Prop} {c : Int} (hc : -2147483648 ≤ c ∧ c ≤ 2147483647) (h : Q (some (vi (bI (dgB c)))) I L R) : CT E M_X10_isDigit 161 yX10_isDigit [(vi (c))] I L R Q := by
  refine CT_of rfl rfl (fun h => by cases h) (Nat.le_of_ble_eq_true rfl) (fun X => ?_)
  show V X _ z0 0 [some (vi (c))] [] I L R _
  refine s_iload_n 1 dX10_isDigit_0 rfl rfl ?_
  refine s_bipush 3 dX10_isDigit_1 rfl (by decide) ?_
  refine s_icmp_lt 16 6 dX10_isDigit_3 rfl rfl (by first | omega | exact bI_r _ | exact iI_r _) (by first | omega | exact bI_r _ | exact iI_r _) (fun h_3 => ?_) (fun h_3 => ?_)
  · skip
    refine s_iconst 17 dX10_isDigit_16 rfl ?_
    refine s_zret dX10_isDigit_17 rfl (by first | omega | exact bI_b _) rfl ?_
    first | exact ret_t (by unfold dgB; omega) h | exact ret_f (by unfold dgB; omega) h
  refine s_iload_n 7 dX10_isDigit_6 rfl rfl ?_
  refine s_bipush 9 dX10_isDigit_7 rfl (by decide) ?_
  refine s_icmp_gt 16 12 dX10_isDigit_9 rfl rfl (by first | omega | exact bI_r _ | exact iI_r _) (by first | omega | exact bI_r _ | exact iI_r _) (fun h_9 => ?_) (fun h_9 => ?_)
  · skip
    refine s_iconst 17 dX10_isDigit_16 rfl ?_
    refine s_zret dX10_isDigit_17 rfl (by first | omega | exact bI_b _) rfl ?_
    first | exact ret_t (by unfold dgB; omega) h | exact ret_f (by unfold dgB; omega) h
  refine s_iconst 13 dX10_isDigit_12 rfl ?_
  refine s_goto 17 dX10_isDigit_13 rfl ?_
  refine s_zret dX10_isDigit_17 rfl (by first | omega | exact bI_b _) rfl ?_
  first | exact ret_t (by unfold dgB; omega) h | exact ret_f (by unfold dgB; omega) h
