/-! THE EVENING in one long; its digits -/
theorem i64_n {v : Int} (h : 0 ≤ v ∧ v < 2147483648) : (iI v).toInt64 = Int64.ofNat v.toNat := by
  apply Int64.toInt_inj.mp
  rw [Int32.toInt_toInt64, iI_t (by omega), Int64.toInt_ofNat_of_lt (by omega)]
  omega
theorem b64_tn {n : Nat} (h : n < 2 ^ 63) : (BitVec.ofNat 64 n).toNat = n := by
  rw [BitVec.toNat_ofNat]
  omega
theorem i64_sl48 {x : Nat} (h : x < 32768) : Int64.ofNat x <<< ((iI 48).toInt64 &&& 63) = Int64.ofNat (2 ^ 48 * x) := by
  apply Int64.toBitVec_inj.mp
  rw [Int64.toBitVec_shiftLeft]
  have e8 : ((iI 48).toInt64 &&& 63).toBitVec.smod 64 = 48#64 := by decide
  show BitVec.ofNat 64 x <<< (((iI 48).toInt64 &&& 63).toBitVec.smod 64) = BitVec.ofNat 64 (2 ^ 48 * x)
  rw [e8]
  apply BitVec.eq_of_toNat_eq
  show (BitVec.ofNat 64 x <<< (48#64).toNat).toNat = _
  rw [BitVec.toNat_shiftLeft, b64_tn (n := x) (by omega), b64_tn (n := 2 ^ 48 * x) (by omega)]
  have e : x <<< (48#64).toNat = 2 ^ 48 * x := by
    show x <<< 48 = _
    rw [Nat.shiftLeft_eq]; omega
  rw [e, Nat.mod_eq_of_lt (by omega)]
theorem i64_sl16 {x : Nat} (h : x < 2097152) : Int64.ofNat x <<< ((iI 16).toInt64 &&& 63) = Int64.ofNat (2 ^ 16 * x) := by
  apply Int64.toBitVec_inj.mp
  rw [Int64.toBitVec_shiftLeft]
  have e8 : ((iI 16).toInt64 &&& 63).toBitVec.smod 64 = 16#64 := by decide
  show BitVec.ofNat 64 x <<< (((iI 16).toInt64 &&& 63).toBitVec.smod 64) = BitVec.ofNat 64 (2 ^ 16 * x)
  rw [e8]
  apply BitVec.eq_of_toNat_eq
  show (BitVec.ofNat 64 x <<< (16#64).toNat).toNat = _
  rw [BitVec.toNat_shiftLeft, b64_tn (n := x) (by omega), b64_tn (n := 2 ^ 16 * x) (by omega)]
  have e : x <<< (16#64).toNat = 2 ^ 16 * x := by
    show x <<< 16 = _
    rw [Nat.shiftLeft_eq]; omega
  rw [e, Nat.mod_eq_of_lt (by omega)]
theorem i64_or {x c k : Nat} (hc : c < 2 ^ k) (h : 2 ^ k * x + c < 2 ^ 63) : Int64.ofNat (2 ^ k * x) ||| Int64.ofNat c = Int64.ofNat (2 ^ k * x + c) := by
  apply Int64.toBitVec_inj.mp
  rw [Int64.toBitVec_or]
  apply BitVec.eq_of_toNat_eq
  show (BitVec.ofNat 64 (2 ^ k * x) ||| BitVec.ofNat 64 c).toNat = (BitVec.ofNat 64 (2 ^ k * x + c)).toNat
  rw [BitVec.toNat_or, b64_tn (by omega), b64_tn (by omega), b64_tn h, ← Nat.two_pow_add_eq_or_of_lt hc]
theorem b64_sr {x k : Nat} (h : x < 2 ^ 63) : (BitVec.ofNat 64 x).sshiftRight k = BitVec.ofNat 64 (x / 2 ^ k) := by
  have hm : (BitVec.ofNat 64 x).msb = false := BitVec.msb_eq_false_iff_two_mul_lt.mpr (by rw [b64_tn h]; omega)
  rw [BitVec.sshiftRight_eq_of_msb_false hm]
  apply BitVec.eq_of_toNat_eq
  have hd : x / 2 ^ k ≤ x := Nat.div_le_self _ _
  rw [BitVec.toNat_ushiftRight, b64_tn h, b64_tn (by omega), Nat.shiftRight_eq_div_pow]
theorem i64_sr48 {x : Nat} (h : x < 2 ^ 63) : Int64.ofNat x >>> ((iI 48).toInt64 &&& 63) = Int64.ofNat (x / 2 ^ 48) := by
  apply Int64.toBitVec_inj.mp
  rw [Int64.toBitVec_shiftRight]
  have e8 : ((iI 48).toInt64 &&& 63).toBitVec.smod 64 = 48#64 := by decide
  show (BitVec.ofNat 64 x).sshiftRight (((iI 48).toInt64 &&& 63).toBitVec.smod 64).toNat = BitVec.ofNat 64 (x / 2 ^ 48)
  rw [e8]
  exact b64_sr h
theorem i64_sr16 {x : Nat} (h : x < 2 ^ 63) : Int64.ofNat x >>> ((iI 16).toInt64 &&& 63) = Int64.ofNat (x / 2 ^ 16) := by
  apply Int64.toBitVec_inj.mp
  rw [Int64.toBitVec_shiftRight]
  have e8 : ((iI 16).toInt64 &&& 63).toBitVec.smod 64 = 16#64 := by decide
  show (BitVec.ofNat 64 x).sshiftRight (((iI 16).toInt64 &&& 63).toBitVec.smod 64).toNat = BitVec.ofNat 64 (x / 2 ^ 16)
  rw [e8]
  exact b64_sr h
theorem i64_am {x k : Nat} (h : x < 2 ^ 63) (hk : k ≤ 62) : Int64.ofNat x &&& Int64.ofNat (2 ^ k - 1) = Int64.ofNat (x % 2 ^ k) := by
  apply Int64.toBitVec_inj.mp
  rw [Int64.toBitVec_and]
  apply BitVec.eq_of_toNat_eq
  have hp : 2 ^ k ≤ 2 ^ 62 := Nat.pow_le_pow_right (by omega) hk
  have hm : x % 2 ^ k ≤ x := Nat.mod_le _ _
  show (BitVec.ofNat 64 x &&& BitVec.ofNat 64 (2 ^ k - 1)).toNat = (BitVec.ofNat 64 (x % 2 ^ k)).toNat
  rw [BitVec.toNat_and, b64_tn h, b64_tn (by omega), b64_tn (by omega), Nat.and_two_pow_sub_one_eq_mod]
theorem i64_i {n : Nat} (h : n < 2147483648) : (Int64.ofNat n).toInt32.toInt = (n : Int) := by
  rw [Int64.toInt_toInt32, Int64.toInt_ofNat_of_lt (by omega)]
  unfold Int.bmod
  have e : ((n : Int) % ((2 ^ 32 : Nat) : Int)) = n := by omega
  simp only [e]
  rw [if_pos (by omega)]
def pkE (o g c : Int) : Int64 := Int64.ofNat (2 ^ 16 * (2 ^ 32 * o.toNat + g.toNat) + c.toNat)
theorem pkE_of {o g c : Int} (ho : 0 ≤ o ∧ o < 32768) (hg : 0 ≤ g ∧ g < 2097152) (hc : 0 ≤ c ∧ c < 16384) : ((iI o).toInt64 <<< ((iI 48).toInt64 &&& 63) ||| (iI g).toInt64 <<< ((iI 16).toInt64 &&& 63)) ||| (iI c).toInt64 = pkE o g c := by
  rw [i64_n (v := o) (by omega), i64_n (v := g) (by omega), i64_n (v := c) (by omega), i64_sl48 (by omega), i64_sl16 (by omega), i64_or (k := 48) (by omega) (by omega)]
  rw [show 2 ^ 48 * o.toNat + 2 ^ 16 * g.toNat = 2 ^ 16 * (2 ^ 32 * o.toNat + g.toNat) by omega, i64_or (k := 16) (by omega) (by omega)]
  rfl
theorem pkE_o {o g c : Int} (ho : 0 ≤ o ∧ o < 32768) (hg : 0 ≤ g ∧ g < 2097152) (hc : 0 ≤ c ∧ c < 16384) : (pkE o g c >>> ((iI 48).toInt64 &&& 63) &&& 32767).toInt32.toInt = o := by
  unfold pkE
  rw [i64_sr48 (by omega)]
  have e := i64_am (x := (2 ^ 16 * (2 ^ 32 * o.toNat + g.toNat) + c.toNat) / 2 ^ 48) (k := 15) (by omega) (by omega)
  have e3 : (32767 : Int64) = Int64.ofNat (2 ^ 15 - 1) := by decide
  rw [e3, e, i64_i (by omega)]
  omega
theorem pkE_g {o g c : Int} (ho : 0 ≤ o ∧ o < 32768) (hg : 0 ≤ g ∧ g < 2097152) (hc : 0 ≤ c ∧ c < 16384) : (pkE o g c >>> ((iI 16).toInt64 &&& 63) &&& 2097151).toInt32.toInt = g := by
  unfold pkE
  rw [i64_sr16 (by omega)]
  have e := i64_am (x := (2 ^ 16 * (2 ^ 32 * o.toNat + g.toNat) + c.toNat) / 2 ^ 16) (k := 21) (by omega) (by omega)
  have e3 : (2097151 : Int64) = Int64.ofNat (2 ^ 21 - 1) := by decide
  rw [e3, e, i64_i (by omega)]
  omega
theorem pkE_c {o g c : Int} (ho : 0 ≤ o ∧ o < 32768) (hg : 0 ≤ g ∧ g < 2097152) (hc : 0 ≤ c ∧ c < 16384) : (pkE o g c &&& 16383).toInt32.toInt = c := by
  unfold pkE
  have e := i64_am (x := 2 ^ 16 * (2 ^ 32 * o.toNat + g.toNat) + c.toNat) (k := 14) (by omega) (by omega)
  have e3 : (16383 : Int64) = Int64.ofNat (2 ^ 14 - 1) := by decide
  rw [e3, e, i64_i (by omega)]
  omega
set_option maxHeartbeats 4000000 in
theorem c_X2_packed {E : ET} {I : MI} {L : ML} {R : MR} {Q : Option AV → MI → ML → MR → Prop} {o g c : Int} (e0 : I 80 0 = o) (e1 : I 80 1 = g) (e2 : I 80 2 = c) (ho : 0 ≤ o ∧ o < 32768) (hg : 0 ≤ g ∧ g < 2097152) (hc : 0 ≤ c ∧ c < 16384) (h : Q (some (vl (pkE o g c))) I L R) : CT E M_X2_packed 161 yX2_packed [(vr (80))] I L R Q := by
  refine CT_of rfl rfl (fun h => by cases h) (Nat.le_of_ble_eq_true rfl) (fun X => ?_)
  show V X _ z0 0 [some (vr (80))] [] I L R _
  rw [← pkE_of ho hg hc, ← e0, ← e1, ← e2] at h
  refine s_aload_n 1 dX2_packed_0 rfl rfl ?_
  refine s_getI 4 dX2_packed_1 rfl fl_X2_7 (fun _ _ _ _ => rfl) sh_80 (Nat.le_of_ble_eq_true rfl) (fun r_1 => ?_)
  refine s_i2l 5 dX2_packed_4 rfl ?_
  refine s_bipush 7 dX2_packed_5 rfl (by decide) ?_
  refine s_lshl 8 dX2_packed_7 rfl ?_
  refine s_aload_n 9 dX2_packed_8 rfl rfl ?_
  refine s_getI 12 dX2_packed_9 rfl fl_X2_13 (fun _ _ _ _ => rfl) sh_80 (Nat.le_of_ble_eq_true rfl) (fun r_9 => ?_)
  refine s_i2l 13 dX2_packed_12 rfl ?_
  refine s_bipush 15 dX2_packed_13 rfl (by decide) ?_
  refine s_lshl 16 dX2_packed_15 rfl ?_
  refine s_lor 17 dX2_packed_16 rfl ?_
  refine s_aload_n 18 dX2_packed_17 rfl rfl ?_
  refine s_getI 21 dX2_packed_18 rfl fl_X2_16 (fun _ _ _ _ => rfl) sh_80 (Nat.le_of_ble_eq_true rfl) (fun r_18 => ?_)
  refine s_i2l 22 dX2_packed_21 rfl ?_
  refine s_lor 23 dX2_packed_22 rfl ?_
  refine s_lret dX2_packed_23 rfl rfl ?_
  exact h
set_option maxHeartbeats 4000000 in
theorem c_X2_unpack {E : ET} {I : MI} {L : ML} {R : MR} {Q : Option AV → MI → ML → MR → Prop} {o g c : Int} (ho : 0 ≤ o ∧ o < 32768) (hg : 0 ≤ g ∧ g < 2097152) (hc : 0 ≤ c ∧ c < 16384) (h : Q none (up (up (up I 80 0 o) 80 1 g) 80 2 c) L R) : CT E M_X2_unpack 161 yX2_unpack [(vr (80)), (vl (pkE o g c))] I L R Q := by
  refine CT_of rfl rfl (fun h => by cases h) (Nat.le_of_ble_eq_true rfl) (fun X => ?_)
  show V X _ z0 0 [some (vr (80)), some (vl (pkE o g c)), none] [] I L R _
  refine s_aload_n 1 dX2_unpack_0 rfl rfl ?_
  refine s_lload_n 2 dX2_unpack_1 rfl rfl ?_
  refine s_bipush 4 dX2_unpack_2 rfl (by decide) ?_
  refine s_lshr 5 dX2_unpack_4 rfl ?_
  refine s_ldc2 8 dX2_unpack_5 rfl ck_X2_23 ?_
  refine s_land 9 dX2_unpack_8 rfl ?_
  refine s_l2i 10 dX2_unpack_9 rfl ?_
  rw [pkE_o ho hg hc]
  refine s_putI 13 dX2_unpack_10 rfl fl_X2_7 (fun _ => rfl) (fun _ => rfl) (fun _ _ _ _ => rfl) sh_80 (Nat.le_of_ble_eq_true rfl) (by first | omega | exact bI_r _ | exact iI_r _) ?_
  refine s_aload_n 14 dX2_unpack_13 rfl rfl ?_
  refine s_lload_n 15 dX2_unpack_14 rfl rfl ?_
  refine s_bipush 17 dX2_unpack_15 rfl (by decide) ?_
  refine s_lshr 18 dX2_unpack_17 rfl ?_
  refine s_ldc2 21 dX2_unpack_18 rfl ck_X2_25 ?_
  refine s_land 22 dX2_unpack_21 rfl ?_
  refine s_l2i 23 dX2_unpack_22 rfl ?_
  rw [pkE_g ho hg hc]
  refine s_putI 26 dX2_unpack_23 rfl fl_X2_13 (fun _ => rfl) (fun _ => rfl) (fun _ _ _ _ => rfl) sh_80 (Nat.le_of_ble_eq_true rfl) (by first | omega | exact bI_r _ | exact iI_r _) ?_
  refine s_aload_n 27 dX2_unpack_26 rfl rfl ?_
  refine s_lload_n 28 dX2_unpack_27 rfl rfl ?_
  refine s_ldc2 31 dX2_unpack_28 rfl ck_X2_27 ?_
  refine s_land 32 dX2_unpack_31 rfl ?_
  refine s_l2i 33 dX2_unpack_32 rfl ?_
  rw [pkE_c ho hg hc]
  refine s_putI 36 dX2_unpack_33 rfl fl_X2_16 (fun _ => rfl) (fun _ => rfl) (fun _ _ _ _ => rfl) sh_80 (Nat.le_of_ble_eq_true rfl) (by first | omega | exact bI_r _ | exact iI_r _) ?_
  refine s_vret dX2_unpack_36 rfl rfl ?_
  exact h
set_option maxHeartbeats 4000000 in
theorem c_X2_start {E : ET} {I : MI} {L : ML} {R : MR} {Q : Option AV → MI → ML → MR → Prop} {o : Int} (ho : -2147483648 ≤ o ∧ o ≤ 2147483647) (h : Q none (up (up (up I 80 0 o) 80 1 0) 80 2 0) L R) : CT E M_X2_start 161 yX2_start [(vr (80)), (vi (o))] I L R Q := by
  refine CT_of rfl rfl (fun h => by cases h) (Nat.le_of_ble_eq_true rfl) (fun X => ?_)
  show V X _ z0 0 [some (vr (80)), some (vi (o))] [] I L R _
  refine s_aload_n 1 dX2_start_0 rfl rfl ?_
  refine s_iload_n 2 dX2_start_1 rfl rfl ?_
  refine s_putI 5 dX2_start_2 rfl fl_X2_7 (fun _ => rfl) (fun _ => rfl) (fun _ _ _ _ => rfl) sh_80 (Nat.le_of_ble_eq_true rfl) (by first | omega | exact bI_r _ | exact iI_r _) ?_
  refine s_aload_n 6 dX2_start_5 rfl rfl ?_
  refine s_iconst 7 dX2_start_6 rfl ?_
  refine s_putI 10 dX2_start_7 rfl fl_X2_13 (fun _ => rfl) (fun _ => rfl) (fun _ _ _ _ => rfl) sh_80 (Nat.le_of_ble_eq_true rfl) (by first | omega | exact bI_r _ | exact iI_r _) ?_
  refine s_aload_n 11 dX2_start_10 rfl rfl ?_
  refine s_iconst 12 dX2_start_11 rfl ?_
  refine s_putI 15 dX2_start_12 rfl fl_X2_16 (fun _ => rfl) (fun _ => rfl) (fun _ _ _ _ => rfl) sh_80 (Nat.le_of_ble_eq_true rfl) (by first | omega | exact bI_r _ | exact iI_r _) ?_
  refine s_vret dX2_start_15 rfl rfl ?_
  exact h
/-- three bits at a place -/
def gi (g p : Int) : Int := iand (ishr g (3 * p)) 7
theorem gi_b (g p : Int) : 0 ≤ gi g p ∧ gi g p < 8 := by
  unfold gi
  exact set_lt (n := 3) (by omega) (iand_r _ _) (fun k h1 h2 h => by
    have := ((has_and ⟨by omega, h2⟩).mp h).2
    exact absurd ((has_7 ⟨by omega, h2⟩).mp this) (by omega))
theorem has_gi {g p t : Int} (hg : 0 ≤ g ∧ g < 2097152) (hp : 0 ≤ p ∧ p < 7) (ht : 0 ≤ t ∧ t < 32) : hasI (gi g p) t ↔ t < 3 ∧ hasI g (3 * p + t) := by
  unfold gi
  rw [has_and ht, has_7 ht]
  constructor
  · rintro ⟨a, b⟩
    rw [has_ishr (by omega) (by omega) ht] at a
    exact ⟨b, a.2⟩
  · rintro ⟨a, b⟩
    refine ⟨?_, a⟩
    rw [has_ishr (by omega) (by omega) ht]
    exact ⟨by omega, b⟩
def GvO (g : Int) (s : F1) : Prop := (0 ≤ g ∧ g < 2097152) ∧ ∀ p, 0 ≤ p → p < 7 → gi g p = s p
theorem GvO.c {g : Int} {s s' : F1} (h : GvO g s) (e : ∀ p, 0 ≤ p → p < 7 → s p = s' p) : GvO g s' := ⟨h.1, fun p a b => (h.2 p a b).trans (e p a b)⟩
theorem GvO.z {s : F1} (h : ∀ p, 0 ≤ p → p < 7 → s p = 0) : GvO 0 s := ⟨by omega, fun p a b => by
  rw [h p a b]
  exact set_ext (by have := gi_b 0 p; omega) (by omega) (fun k k1 k2 => by
    rw [has_gi (by omega) ⟨a, b⟩ ⟨k1, k2⟩]
    exact ⟨fun z => absurd z.2 (by
      by_cases e : 3 * p + k < 32
      · exact has_0 ⟨by omega, e⟩
      · omega), fun z => absurd z (has_0 ⟨k1, k2⟩)⟩)⟩
theorem GvO.put {g p v : Int} {s : F1} (h : GvO g s) (hp : 0 ≤ p ∧ p < 7) (hv : 0 ≤ v ∧ v < 8) : GvO (ixor g (ishl (ixor (gi g p) v) (3 * p))) (fun j => if j = p then v else s j) := by
  have hg := h.1
  have bx : ∀ k, 3 ≤ k → k < 32 → ¬ hasI (ixor (gi g p) v) k := fun k k1 k2 => by
    rw [has_xor ⟨by omega, k2⟩]
    have a := v8_has (gi_b g p) ⟨k1, k2⟩
    have b := v8_has hv ⟨k1, k2⟩
    exact fun z => z ⟨fun y => absurd y a, fun y => absurd y b⟩
  have hx : ∀ k, 0 ≤ k → k < 32 → (hasI (ixor g (ishl (ixor (gi g p) v) (3 * p))) k ↔ ¬ (hasI g k ↔ (3 * p ≤ k ∧ hasI (ixor (gi g p) v) (k - 3 * p)))) := fun k k1 k2 => by
    rw [has_xor ⟨k1, k2⟩, has_ishl (by omega) ⟨k1, k2⟩]
  have hb : 0 ≤ ixor g (ishl (ixor (gi g p) v) (3 * p)) ∧ ixor g (ishl (ixor (gi g p) v) (3 * p)) < 2 ^ 21 := set_lt (n := 21) (by omega) (iI_r _) (fun k k1 k2 y => by
    have k3 : (21 : Int) ≤ k := by omega
    have := (hx k (by omega) k2).mp y
    exact this ⟨fun z => absurd z (has_lt (n := 21) (by omega) ⟨hg.1, by omega⟩ ⟨by omega, k2⟩), fun z => absurd z.2 (bx _ (by omega) (by omega))⟩)
  have hb2 : 0 ≤ ixor g (ishl (ixor (gi g p) v) (3 * p)) ∧ ixor g (ishl (ixor (gi g p) v) (3 * p)) < 2097152 := ⟨hb.1, by have := hb.2; omega⟩
  refine ⟨hb2, fun m a b => ?_⟩
  refine set_ext (by have := gi_b (ixor g (ishl (ixor (gi g p) v) (3 * p))) m; omega) ?_ (fun t t1 t2 => ?_)
  · show -2147483648 ≤ (if m = p then v else s m) ∧ (if m = p then v else s m) ≤ 2147483647
    have := h.2 m a b
    have := gi_b g m
    split <;> omega
  · rw [has_gi hb2 ⟨a, b⟩ ⟨t1, t2⟩]
    show t < 3 ∧ _ ↔ hasI (if m = p then v else s m) t
    by_cases t3 : t < 3
    · rw [hx _ (by omega) (by omega)]
      by_cases e : m = p
      · subst e
        rw [if_pos rfl, show 3 * m + t - 3 * m = t by omega, has_xor ⟨t1, t2⟩, has_gi hg ⟨a, b⟩ ⟨t1, t2⟩]
        generalize hasI g (3 * m + t) = A
        generalize hasI v t = B
        by_cases x : A <;> by_cases y : B <;> simp [x, y, t3] <;> omega
      · rw [if_neg e, ← h.2 m a b, has_gi hg ⟨a, b⟩ ⟨t1, t2⟩]
        have n : ¬ (3 * p ≤ 3 * m + t ∧ hasI (ixor (gi g p) v) (3 * m + t - 3 * p)) := fun ⟨z, w⟩ => absurd w (bx _ (by omega) (by omega))
        generalize hasI g (3 * m + t) = A
        by_cases x : A <;> simp [x, n, t3]
    · refine ⟨fun z => absurd z.1 t3, fun z => ?_⟩
      by_cases e : m = p
      · rw [if_pos e] at z; exact absurd z (v8_has hv ⟨by omega, t2⟩)
      · rw [if_neg e, ← h.2 m a b] at z; exact absurd z (v8_has (gi_b g m) ⟨by omega, t2⟩)
set_option maxHeartbeats 4000000 in
theorem c_X2_playerOf {E : ET} {I : MI} {L : ML} {R : MR} {Q : Option AV → MI → ML → MR → Prop} {s : F1} {p : Int} (hg : GvO (I 80 1) s) (hp : 0 ≤ p ∧ p < 7) (h : Q (some (vi (s p))) I L R) : CT E M_X2_playerOf 161 yX2_playerOf [(vr (80)), (vi (p))] I L R Q := by
  refine CT_of rfl rfl (fun h => by cases h) (Nat.le_of_ble_eq_true rfl) (fun X => ?_)
  show V X _ z0 0 [some (vr (80)), some (vi (p))] [] I L R _
  rw [← hg.2 p hp.1 hp.2] at h
  refine s_aload_n 1 dX2_playerOf_0 rfl rfl ?_
  refine s_getI 4 dX2_playerOf_1 rfl fl_X2_13 (fun _ _ _ _ => rfl) sh_80 (Nat.le_of_ble_eq_true rfl) (fun r_1 => ?_)
  refine s_iconst 5 dX2_playerOf_4 rfl ?_
  refine s_iload_n 6 dX2_playerOf_5 rfl rfl ?_
  refine s_imul 7 dX2_playerOf_6 rfl ?_
  refine s_ishr 8 dX2_playerOf_7 rfl ?_
  refine s_bipush 10 dX2_playerOf_8 rfl (by decide) ?_
  refine s_iand 11 dX2_playerOf_10 rfl ?_
  refine s_iret dX2_playerOf_11 rfl rfl ?_
  exact h
set_option maxHeartbeats 4000000 in
theorem c_X2_give {E : ET} {I : MI} {L : ML} {R : MR} {Q : Option AV → MI → ML → MR → Prop} {s : F1} {p v : Int} (hg : GvO (I 80 1) s) (hp : 0 ≤ p ∧ p < 7) (hv : 0 ≤ v ∧ v < 7) (h : ∀ g', GvO g' (fun j => if j = p then v else s j) → Q none (up I 80 1 g') L R) : CT E M_X2_give 161 yX2_give [(vr (80)), (vi (p)), (vi (v))] I L R Q := by
  refine CT_of rfl rfl (fun h => by cases h) (Nat.le_of_ble_eq_true rfl) (fun X => ?_)
  show V X _ z0 0 [some (vr (80)), some (vi (p)), some (vi (v))] [] I L R _
  have g2 := hg.put hp (v := v) (by omega)
  refine s_aload_n 1 dX2_give_0 rfl rfl ?_
  refine s_dup 2 dX2_give_1 rfl rfl ?_
  refine s_getI 5 dX2_give_2 rfl fl_X2_13 (fun _ _ _ _ => rfl) sh_80 (Nat.le_of_ble_eq_true rfl) (fun r_2 => ?_)
  refine s_aload_n 6 dX2_give_5 rfl rfl ?_
  refine s_iload_n 7 dX2_give_6 rfl rfl ?_
  refine s_callV0 (M' := M_X2_playerOf) (as := [_]) 10 dX2_give_7 rfl cw_X2_19 rfl rfl sh_80 rfl (by decide) (Nat.le_of_ble_eq_true rfl) (Nat.le_of_ble_eq_true rfl) (Nat.le_of_ble_eq_true rfl) (Nat.le_of_ble_eq_true rfl) ⟨rfl, rfl, rfl⟩ ?_
  refine c_X2_playerOf hg hp ?_
  refine s_iload_n 11 dX2_give_10 rfl rfl ?_
  refine s_ixor 12 dX2_give_11 rfl ?_
  refine s_iconst 13 dX2_give_12 rfl ?_
  refine s_iload_n 14 dX2_give_13 rfl rfl ?_
  refine s_imul 15 dX2_give_14 rfl ?_
  refine s_ishl 16 dX2_give_15 rfl ?_
  refine s_ixor 17 dX2_give_16 rfl ?_
  rw [← hg.2 p hp.1 hp.2]
  refine s_putI 20 dX2_give_17 rfl fl_X2_13 (fun _ => rfl) (fun _ => rfl) (fun _ _ _ _ => rfl) sh_80 (Nat.le_of_ble_eq_true rfl) (by have := g2.1; omega) ?_
  refine s_vret dX2_give_20 rfl rfl ?_
  exact h _ g2
set_option maxHeartbeats 4000000 in
theorem c_X2_partsOf {E : ET} {I : MI} {L : ML} {R : MR} {Q : Option AV → MI → ML → MR → Prop} {s : F1} {q n : Int} (hg : GvO (I 80 1) s) (hq : -2147483648 ≤ q ∧ q ≤ 2147483647) (hn : 0 ≤ n ∧ n ≤ 7) (h : Q (some (vi (setOf (fun p => s p = q) n.toNat))) I L R) : CT E M_X2_partsOf 161 yX2_partsOf [(vr (80)), (vi (q)), (vi (n))] I L R Q := by
  refine CT_of rfl rfl (fun h => by cases h) (Nat.le_of_ble_eq_true rfl) (fun X => ?_)
  show V X _ z0 0 [some (vr (80)), some (vi (q)), some (vi (n)), none, none] [] I L R _
  have hb : ∀ p, 0 ≤ p → p < 7 → 0 ≤ s p ∧ s p < 8 := fun p a b => by rw [← hg.2 p a b]; exact gi_b _ _
  have loop : ∀ (f : Nat) (k : Int), n - k < (f : Int) → 0 ≤ k → k ≤ n → V X M_X2_partsOf z0 5 [some (vr (80)), some (vi (q)), some (vi (n)), some (vi (setOf (fun p => s p = q) k.toNat)), some (vi (k))] [] (I) L R (RT X M_X2_partsOf Q) := by
    intro f
    induction f with
    | zero => intro k h1 h2 h3; omega
    | succ f ih =>
      intro k h1 h2 h3
      by_cases hk : k < n
      · have hs := hb k h2 (by omega)
        by_cases e : s k = q
        · have st := ih (k + 1) (by omega) (by omega) (by omega)
          rw [← setOf_t h2 e] at st
          refine s_iload 7 dX2_partsOf_5 rfl rfl ?_
          refine s_iload_n 8 dX2_partsOf_7 rfl rfl ?_
          refine s_icmp_ge 34 11 dX2_partsOf_8 rfl rfl (by first | omega | exact bI_r _ | exact iI_r _) (by first | omega | exact bI_r _ | exact iI_r _) (fun h_8 => by exfalso; omega) (fun h_8 => ?_)
          refine s_aload_n 12 dX2_partsOf_11 rfl rfl ?_
          refine s_iload 14 dX2_partsOf_12 rfl rfl ?_
          refine s_callV0 (M' := M_X2_playerOf) (as := [_]) 17 dX2_partsOf_14 rfl cw_X2_19 rfl rfl sh_80 rfl (by decide) (Nat.le_of_ble_eq_true rfl) (Nat.le_of_ble_eq_true rfl) (Nat.le_of_ble_eq_true rfl) (Nat.le_of_ble_eq_true rfl) ⟨rfl, rfl, rfl⟩ ?_
          refine c_X2_playerOf hg (by omega) ?_
          refine s_iload_n 18 dX2_partsOf_17 rfl rfl ?_
          refine s_icmp_ne 28 21 dX2_partsOf_18 rfl rfl (by first | omega | exact bI_r _ | exact iI_r _) (by first | omega | exact bI_r _ | exact iI_r _) (fun h_18 => by exfalso; omega) (fun h_18 => ?_)
          refine s_iload_n 22 dX2_partsOf_21 rfl rfl ?_
          refine s_iconst 23 dX2_partsOf_22 rfl ?_
          refine s_iload 25 dX2_partsOf_23 rfl rfl ?_
          refine s_ishl 26 dX2_partsOf_25 rfl ?_
          refine s_ior 27 dX2_partsOf_26 rfl ?_
          refine s_istore_n (ls' := [_, _, _, _, _]) 28 dX2_partsOf_27 rfl (Nat.le_of_ble_eq_true rfl) rfl rfl ?_
          refine s_iinc (ls' := [_, _, _, _, _]) 31 dX2_partsOf_28 rfl rfl (Nat.le_of_ble_eq_true rfl) rfl rfl ?_
          refine s_goto 5 dX2_partsOf_31 rfl ?_
          exact st
        · have st := ih (k + 1) (by omega) (by omega) (by omega)
          rw [setOf_n h2 e] at st
          refine s_iload 7 dX2_partsOf_5 rfl rfl ?_
          refine s_iload_n 8 dX2_partsOf_7 rfl rfl ?_
          refine s_icmp_ge 34 11 dX2_partsOf_8 rfl rfl (by first | omega | exact bI_r _ | exact iI_r _) (by first | omega | exact bI_r _ | exact iI_r _) (fun h_8 => by exfalso; omega) (fun h_8 => ?_)
          refine s_aload_n 12 dX2_partsOf_11 rfl rfl ?_
          refine s_iload 14 dX2_partsOf_12 rfl rfl ?_
          refine s_callV0 (M' := M_X2_playerOf) (as := [_]) 17 dX2_partsOf_14 rfl cw_X2_19 rfl rfl sh_80 rfl (by decide) (Nat.le_of_ble_eq_true rfl) (Nat.le_of_ble_eq_true rfl) (Nat.le_of_ble_eq_true rfl) (Nat.le_of_ble_eq_true rfl) ⟨rfl, rfl, rfl⟩ ?_
          refine c_X2_playerOf hg (by omega) ?_
          refine s_iload_n 18 dX2_partsOf_17 rfl rfl ?_
          refine s_icmp_ne 28 21 dX2_partsOf_18 rfl rfl (by first | omega | exact bI_r _ | exact iI_r _) (by first | omega | exact bI_r _ | exact iI_r _) (fun h_18 => ?_) (fun h_18 => by exfalso; omega)
          refine s_iinc (ls' := [_, _, _, _, _]) 31 dX2_partsOf_28 rfl rfl (Nat.le_of_ble_eq_true rfl) rfl rfl ?_
          refine s_goto 5 dX2_partsOf_31 rfl ?_
          exact st
      · have ek : k = n := by omega
        subst ek
        refine s_iload 7 dX2_partsOf_5 rfl rfl ?_
        refine s_iload_n 8 dX2_partsOf_7 rfl rfl ?_
        refine s_icmp_ge 34 11 dX2_partsOf_8 rfl rfl (by first | omega | exact bI_r _ | exact iI_r _) (by first | omega | exact bI_r _ | exact iI_r _) (fun h_8 => ?_) (fun h_8 => by exfalso; omega)
        refine s_iload_n 35 dX2_partsOf_34 rfl rfl ?_
        refine s_iret dX2_partsOf_35 rfl rfl ?_
        exact h
  refine s_iconst 1 dX2_partsOf_0 rfl ?_
  refine s_istore_n (ls' := [_, _, _, _, _]) 2 dX2_partsOf_1 rfl (Nat.le_of_ble_eq_true rfl) rfl rfl ?_
  refine s_iconst 3 dX2_partsOf_2 rfl ?_
  refine s_istore (ls' := [_, _, _, _, _]) 5 dX2_partsOf_3 rfl (Nat.le_of_ble_eq_true rfl) rfl rfl ?_
  exact loop 8 0 (by omega) (by omega) (by omega)
set_option maxHeartbeats 4000000 in
theorem c_X2_isCut {E : ET} {I : MI} {L : ML} {R : MR} {Q : Option AV → MI → ML → MR → Prop} {c k : Int} (e : I 80 2 = c) (h : Q (some (vi (bI (hasI c k)))) I L R) : CT E M_X2_isCut 161 yX2_isCut [(vr (80)), (vi (k))] I L R Q := by
  refine CT_of rfl rfl (fun h => by cases h) (Nat.le_of_ble_eq_true rfl) (fun X => ?_)
  show V X _ z0 0 [some (vr (80)), some (vi (k))] [] I L R _
  subst e
  refine s_aload_n 1 dX2_isCut_0 rfl rfl ?_
  refine s_getI 4 dX2_isCut_1 rfl fl_X2_16 (fun _ _ _ _ => rfl) sh_80 (Nat.le_of_ble_eq_true rfl) (fun r_1 => ?_)
  refine s_iload_n 5 dX2_isCut_4 rfl rfl ?_
  refine s_ishr 6 dX2_isCut_5 rfl ?_
  refine s_iconst 7 dX2_isCut_6 rfl ?_
  refine s_iand 8 dX2_isCut_7 rfl ?_
  refine s_iconst 9 dX2_isCut_8 rfl ?_
  refine s_icmp_ne 16 12 dX2_isCut_9 rfl rfl (by first | omega | exact iand_r _ _) (by first | omega | exact iand_r _ _) (fun h_9 => ?_) (fun h_9 => ?_)
  · skip
    refine s_iconst 17 dX2_isCut_16 rfl ?_
    refine s_zret dX2_isCut_17 rfl (by first | omega | exact bI_b _) rfl ?_
    first | exact ret_t (by assumption) h | exact ret_f (by assumption) h
  refine s_iconst 13 dX2_isCut_12 rfl ?_
  refine s_goto 17 dX2_isCut_13 rfl ?_
  refine s_zret dX2_isCut_17 rfl (by first | omega | exact bI_b _) rfl ?_
  first | exact ret_t (by assumption) h | exact ret_f (by assumption) h
