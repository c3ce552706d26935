/-! the class's Piece grows: after, on, saw -/
theorem ior_0 {x : Int} (h : -2147483648 ≤ x ∧ x ≤ 2147483647) : ior x 0 = x := by
  unfold ior
  rw [show iI 0 = 0 by decide]
  have e : iI x ||| 0 = iI x := by
    apply b_ext
    intro i hi
    rw [b_or, b_0, Bool.or_false]
  rw [e, iI_t h]
theorem setOf_n {P : Int → Prop} {k : Int} (hk : 0 ≤ k) (h : ¬ P k) : setOf P (k + 1).toNat = setOf P k.toNat := by
  rw [← setOf_f hk h, ior_0 (setOf_r _ _)]
def AfX (r r' : F1) (one two : Int) : Prop := r' 6 = r 6 + 1 ∧ r' (49 + two) = ior (r (49 + two)) (ishl 1 one) ∧ ∀ j, j < 173 → j ≠ 6 → j ≠ 49 + two → r' j = r j
set_option maxHeartbeats 4000000 in
theorem c_X5_addAfter {E : ET} {I : MI} {L : ML} {R : MR} {Q : Option AV → MI → ML → MR → Prop} {P : Nat} {r r' : F1} {one two : Int} (hT : Topo R) (hP : isP P) (hW : WFp r) (h1 : 0 ≤ one ∧ one < 5) (h2 : 0 ≤ two ∧ two < 5) (hR : PR I P r) (hX : AfX r r' one two) (h : ∀ I', FrP P I I' → PR I' P r' → Q none I' L R) : CT E M_X5_addAfter 161 yX5_addAfter [(vr (P)), (vi (one)), (vi (two))] I L R Q := by
  refine CT_of rfl rfl (fun h => by cases h) (Nat.le_of_ble_eq_true rfl) (fun X => ?_)
  show V X _ z0 0 [some (vr (P)), some (vi (one)), some (vi (two))] [] I L R _
  have hp : P = 3 ∨ P = 39 := hP
  have hd := hW.1
  unfold wHd at hd
  have hOn := hW.2.2.2.1
  obtain ⟨⟨a1, a2, a3, a4, a5, a6, a7, a8⟩, ⟨b1, b2, b3⟩, c1, c2, c3, c4, c5, c6⟩ := hR
  obtain ⟨x6, x2, xe⟩ := hX
  have e : ∀ j, j < 173 → j ≠ 6 → (j < 49 ∨ 54 ≤ j) → r' j = r j := fun j j1 j2 j3 => xe j j1 j2 (by omega)
  obtain ⟨s1, s2, s3, s4⟩ := sets_c (r := r) (r' := r') (e 7 (by omega) (by omega) (by omega)) (fun k k1 k2 => e _ (by omega) (by omega) (by omega)) (fun k k1 k2 => e _ (by omega) (by omega) (by omega)) (fun k k1 k2 => by
    have := hOn k k1 k2
    exact e _ (by omega) (by omega) (by omega))
  refine s_aload_n 1 dX5_addAfter_0 rfl rfl ?_
  refine s_getR 4 dX5_addAfter_1 rfl fl_X5_26 (fun _ _ _ _ => rfl) (T_X5_ahead hT hP) (isP_sh hP) (isP_lt hP) ?_
  refine s_iload_n 5 dX5_addAfter_4 rfl rfl ?_
  refine s_dup2 6 dX5_addAfter_5 rfl rfl rfl ?_
  refine s_iald 7 dX5_addAfter_6 rfl (shP_ahead hP) (ltP_ahead hP) (by omega) (by omega) (fun r_6 => ?_)
  rw [c5 two h2.1 h2.2] at r_6 ⊢
  refine s_iconst 8 dX5_addAfter_7 rfl ?_
  refine s_iload_n 9 dX5_addAfter_8 rfl rfl ?_
  refine s_ishl 10 dX5_addAfter_9 rfl ?_
  refine s_ior 11 dX5_addAfter_10 rfl ?_
  refine s_iast 12 dX5_addAfter_11 rfl (shP_ahead hP) (ltP_ahead hP) (by omega) (by omega) (by first | omega | exact ior_r _ _) ?_
  refine s_aload_n 13 dX5_addAfter_12 rfl rfl ?_
  refine s_dup 14 dX5_addAfter_13 rfl rfl ?_
  refine s_getI 17 dX5_addAfter_14 rfl fl_X5_51 (fun _ _ _ _ => rfl) (isP_sh hP) (isP_lt hP) (fun r_14 => ?_)
  rw [up_ne (by omega), a6]
  refine s_iconst 18 dX5_addAfter_17 rfl ?_
  refine s_iadd 19 dX5_addAfter_18 rfl ?_
  refine s_putI 22 dX5_addAfter_19 rfl fl_X5_51 (fun _ => rfl) (fun _ => rfl) (fun _ _ _ _ => rfl) (isP_sh hP) (isP_lt hP) (by first | omega | exact bI_r _ | exact iI_r _) ?_
  refine s_vret dX5_addAfter_22 rfl rfl ?_
  have hf : ∀ k, k ≠ 5 → up (up I (P + 33) two (ior (r (49 + two)) (ishl 1 one))) P 5 (r 6 + 1) P k = I P k := fun k hk => by rw [upn hk, up_ne (by omega)]
  have ho : ∀ c, c ≠ P + 33 → c ≠ P → up (up I (P + 33) two (ior (r (49 + two)) (ishl 1 one))) P 5 (r 6 + 1) c = I c := fun c z1 z2 => by rw [up_ne z2, up_ne z1]
  refine h _ ((FrP.rf.st (by omega)).st (by omega)) ⟨⟨?_, ?_, ?_, ?_, ?_, ?_, ?_, ?_⟩, ⟨?_, ?_, ?_⟩, fun p p1 p2 => ?_, fun k k1 k2 => ?_, fun w w1 w2 => ?_, fun s q1 q2 => ?_, fun s q1 q2 => ?_, fun p p1 p2 => ?_⟩
  · rw [hf _ (by decide), e 1 (by omega) (by omega) (by omega)]; exact a1
  · rw [hf _ (by decide), e 2 (by omega) (by omega) (by omega)]; exact a2
  · rw [hf _ (by decide), e 3 (by omega) (by omega) (by omega)]; exact a3
  · rw [hf _ (by decide), e 4 (by omega) (by omega) (by omega)]; exact a4
  · rw [hf _ (by decide), e 5 (by omega) (by omega) (by omega)]; exact a5
  · rw [ups, x6]
  · rw [hf _ (by decide), e 7 (by omega) (by omega) (by omega)]; exact a7
  · rw [hf _ (by decide), e 8 (by omega) (by omega) (by omega)]; exact a8
  · rw [hf _ (by decide), s1]; exact b1
  · rw [hf _ (by decide), s2]; exact b2
  · rw [hf _ (by decide), s3]; exact b3
  · rw [e 4 (by omega) (by omega) (by omega)] at p2
    unfold rowP
    rw [ho _ (by omega) (by omega), e (9 + p) (by omega) (by omega) (by omega), e (16 + p) (by omega) (by omega) (by omega), e (23 + p) (by omega) (by omega) (by omega), e (30 + p) (by omega) (by omega) (by omega), e (37 + p) (by omega) (by omega) (by omega)]
    exact c1 p p1 p2
  · rw [e 7 (by omega) (by omega) (by omega)] at k2
    unfold rowO
    rw [ho _ (by omega) (by omega), e (54 + 7 * k + 0) (by omega) (by omega) (by omega), e (54 + 7 * k + 1) (by omega) (by omega) (by omega), e (54 + 7 * k + 2) (by omega) (by omega) (by omega), e (54 + 7 * k + 3) (by omega) (by omega) (by omega), e (54 + 7 * k + 4) (by omega) (by omega) (by omega), e (54 + 7 * k + 5) (by omega) (by omega) (by omega), e (54 + 7 * k + 6) (by omega) (by omega) (by omega)]
    exact c2 k k1 k2
  · rw [e 8 (by omega) (by omega) (by omega)] at w2
    unfold rowS
    rw [ho _ (by omega) (by omega), e (152 + 3 * w + 0) (by omega) (by omega) (by omega), e (152 + 3 * w + 1) (by omega) (by omega) (by omega), e (152 + 3 * w + 2) (by omega) (by omega) (by omega)]
    exact c3 w w1 w2
  · rw [e 5 (by omega) (by omega) (by omega)] at q2
    rw [ho _ (by omega) (by omega), e _ (by omega) (by omega) (by omega)]; exact c4 s q1 q2
  · rw [up_ne (by omega), upd9]
    by_cases z : s = two
    · rw [if_pos z, z, x2]
    · rw [if_neg z, xe _ (by omega) (by omega) (by omega)]; exact c5 s q1 q2
  · rw [ho _ (by omega) (by omega), s4]; exact c6 p p1 p2
def SwX (r r' v : F1) : Prop := r' 8 = r 8 + 1 ∧ (r' (152 + 3 * r 8 + 0) = v 0 ∧ r' (152 + 3 * r 8 + 1) = v 1 ∧ r' (152 + 3 * r 8 + 2) = v 2) ∧ ∀ j, j < 173 → j ≠ 8 → (j < 152 + 3 * r 8 ∨ 152 + 3 * r 8 + 3 ≤ j) → r' j = r j
set_option maxHeartbeats 4000000 in
theorem c_X5_addSaw {E : ET} {I : MI} {L : ML} {R : MR} {Q : Option AV → MI → ML → MR → Prop} {P : Nat} {r r' v : F1} (hT : Topo R) (hP : isP P) (hW : WFp r) (h6 : r 8 ≤ 6) (hR : PR I P r) (hv : I 78 = v) (hX : SwX r r' v) (h : ∀ I', FrP P I I' → PR I' P r' → Q none I' L R) : CT E M_X5_addSaw 161 yX5_addSaw [(vr (P)), (vr (78))] I L R Q := by
  refine CT_of rfl rfl (fun h => by cases h) (Nat.le_of_ble_eq_true rfl) (fun X => ?_)
  show V X _ z0 0 [some (vr (P)), some (vr (78)), none] [] I L R _
  have hp : P = 3 ∨ P = 39 := hP
  have hd := hW.1
  unfold wHd at hd
  have hOn := hW.2.2.2.1
  obtain ⟨⟨a1, a2, a3, a4, a5, a6, a7, a8⟩, ⟨b1, b2, b3⟩, c1, c2, c3, c4, c5, c6⟩ := hR
  obtain ⟨x6, ⟨x0, x1, x2⟩, xe⟩ := hX
  have e : ∀ j, j < 152 → j ≠ 8 → r' j = r j := fun j j1 j2 => xe j (by omega) j2 (by omega)
  obtain ⟨s1, s2, s3, s4⟩ := sets_c (r := r) (r' := r') (e 7 (by omega) (by omega)) (fun k k1 k2 => e _ (by omega) (by omega)) (fun k k1 k2 => e _ (by omega) (by omega)) (fun k k1 k2 => by
    have := hOn k k1 k2
    exact e _ (by omega) (by omega))
  subst hv
  refine s_aload_n 1 dX5_addSaw_0 rfl rfl ?_
  refine s_getR 4 dX5_addSaw_1 rfl fl_X5_19 (fun _ _ _ _ => rfl) (T_X5_saws hT hP) (isP_sh hP) (isP_lt hP) ?_
  refine s_aload_n 5 dX5_addSaw_4 rfl rfl ?_
  refine s_getI 8 dX5_addSaw_5 rfl fl_X5_57 (fun _ _ _ _ => rfl) (isP_sh hP) (isP_lt hP) (fun r_5 => ?_)
  rw [a8]
  refine s_aald 9 dX5_addSaw_8 rfl (shP_saws hP) (ltP_saws hP) (by omega) (by decide) (T_X5_saws_row hT hP (by omega)) ?_
  refine s_astore_n (ls' := [_, _, _]) 10 dX5_addSaw_9 rfl (Nat.le_of_ble_eq_true rfl) rfl rfl ?_
  refine s_aload_n 11 dX5_addSaw_10 rfl rfl ?_
  refine s_iconst 12 dX5_addSaw_11 rfl ?_
  refine s_aload_n 13 dX5_addSaw_12 rfl rfl ?_
  refine s_iconst 14 dX5_addSaw_13 rfl ?_
  refine s_iald 15 dX5_addSaw_14 rfl sh_78 (Nat.le_of_ble_eq_true rfl) (by omega) (by omega) (fun r_14 => ?_)
  refine s_iast 16 dX5_addSaw_15 rfl (shP_saws_row hP (by omega)) (ltP_saws_row hP (by omega)) (by omega) (by omega) (by first | omega | exact bI_r _ | exact iI_r _) ?_
  refine s_aload_n 17 dX5_addSaw_16 rfl rfl ?_
  refine s_iconst 18 dX5_addSaw_17 rfl ?_
  refine s_aload_n 19 dX5_addSaw_18 rfl rfl ?_
  refine s_iconst 20 dX5_addSaw_19 rfl ?_
  refine s_iald 21 dX5_addSaw_20 rfl sh_78 (Nat.le_of_ble_eq_true rfl) (by omega) (by omega) (fun r_20 => ?_)
  rw [up_ne (by omega)] at r_20 ⊢
  refine s_iast 22 dX5_addSaw_21 rfl (shP_saws_row hP (by omega)) (ltP_saws_row hP (by omega)) (by omega) (by omega) (by first | omega | exact bI_r _ | exact iI_r _) ?_
  refine s_aload_n 23 dX5_addSaw_22 rfl rfl ?_
  refine s_iconst 24 dX5_addSaw_23 rfl ?_
  refine s_aload_n 25 dX5_addSaw_24 rfl rfl ?_
  refine s_iconst 26 dX5_addSaw_25 rfl ?_
  refine s_iald 27 dX5_addSaw_26 rfl sh_78 (Nat.le_of_ble_eq_true rfl) (by omega) (by omega) (fun r_26 => ?_)
  rw [up_ne (by omega), up_ne (by omega)] at r_26 ⊢
  refine s_iast 28 dX5_addSaw_27 rfl (shP_saws_row hP (by omega)) (ltP_saws_row hP (by omega)) (by omega) (by omega) (by first | omega | exact bI_r _ | exact iI_r _) ?_
  refine s_aload_n 29 dX5_addSaw_28 rfl rfl ?_
  refine s_dup 30 dX5_addSaw_29 rfl rfl ?_
  refine s_getI 33 dX5_addSaw_30 rfl fl_X5_57 (fun _ _ _ _ => rfl) (isP_sh hP) (isP_lt hP) (fun r_30 => ?_)
  rw [up_ne (by omega), up_ne (by omega), up_ne (by omega), a8]
  refine s_iconst 34 dX5_addSaw_33 rfl ?_
  refine s_iadd 35 dX5_addSaw_34 rfl ?_
  refine s_putI 38 dX5_addSaw_35 rfl fl_X5_57 (fun _ => rfl) (fun _ => rfl) (fun _ _ _ _ => rfl) (isP_sh hP) (isP_lt hP) (by first | omega | exact bI_r _ | exact iI_r _) ?_
  refine s_vret dX5_addSaw_38 rfl rfl ?_
  have ho : ∀ c, c ≠ P + 25 + (r 8).toNat → c ≠ P → up (up (up (up I (P + 25 + (r 8).toNat) 0 (I 78 0)) (P + 25 + (r 8).toNat) 1 (I 78 1)) (P + 25 + (r 8).toNat) 2 (I 78 2)) P 7 (r 8 + 1) c = I c := fun c z1 z2 => by rw [up_ne z2, up_ne z1, up_ne z1, up_ne z1]
  have hf : ∀ k, k ≠ 7 → up (up (up (up I (P + 25 + (r 8).toNat) 0 (I 78 0)) (P + 25 + (r 8).toNat) 1 (I 78 1)) (P + 25 + (r 8).toNat) 2 (I 78 2)) P 7 (r 8 + 1) P k = I P k := fun k hk => by rw [upn hk, up_ne (by omega), up_ne (by omega), up_ne (by omega)]
  refine h _ ((((FrP.rf.st (by omega)).st (by omega)).st (by omega)).st (by omega)) ⟨⟨?_, ?_, ?_, ?_, ?_, ?_, ?_, ?_⟩, ⟨?_, ?_, ?_⟩, fun p p1 p2 => ?_, fun k k1 k2 => ?_, fun w w1 w2 => ?_, fun s q1 q2 => ?_, fun s q1 q2 => ?_, fun p p1 p2 => ?_⟩
  · rw [hf _ (by decide), e 1 (by omega) (by omega)]; exact a1
  · rw [hf _ (by decide), e 2 (by omega) (by omega)]; exact a2
  · rw [hf _ (by decide), e 3 (by omega) (by omega)]; exact a3
  · rw [hf _ (by decide), e 4 (by omega) (by omega)]; exact a4
  · rw [hf _ (by decide), e 5 (by omega) (by omega)]; exact a5
  · rw [hf _ (by decide), e 6 (by omega) (by omega)]; exact a6
  · rw [hf _ (by decide), e 7 (by omega) (by omega)]; exact a7
  · rw [ups, x6]
  · rw [hf _ (by decide), s1]; exact b1
  · rw [hf _ (by decide), s2]; exact b2
  · rw [hf _ (by decide), s3]; exact b3
  · rw [e 4 (by omega) (by omega)] at p2
    unfold rowP
    rw [ho _ (by omega) (by omega), e (9 + p) (by omega) (by omega), e (16 + p) (by omega) (by omega), e (23 + p) (by omega) (by omega), e (30 + p) (by omega) (by omega), e (37 + p) (by omega) (by omega)]
    exact c1 p p1 p2
  · rw [e 7 (by omega) (by omega)] at k2
    unfold rowO
    rw [ho _ (by omega) (by omega), e (54 + 7 * k + 0) (by omega) (by omega), e (54 + 7 * k + 1) (by omega) (by omega), e (54 + 7 * k + 2) (by omega) (by omega), e (54 + 7 * k + 3) (by omega) (by omega), e (54 + 7 * k + 4) (by omega) (by omega), e (54 + 7 * k + 5) (by omega) (by omega), e (54 + 7 * k + 6) (by omega) (by omega)]
    exact c2 k k1 k2
  · rw [x6] at w2
    by_cases z : w = r 8
    · subst z
      refine ⟨?_, ?_, ?_⟩
      · rw [x0, up_ne (by omega), upn (by decide), upn (by decide), ups]
      · rw [x1, up_ne (by omega), upn (by decide), ups]
      · rw [x2, up_ne (by omega), ups]
    · unfold rowS
      rw [ho _ (by omega) (by omega), xe (152 + 3 * w + 0) (by omega) (by omega) (by omega), xe (152 + 3 * w + 1) (by omega) (by omega) (by omega), xe (152 + 3 * w + 2) (by omega) (by omega) (by omega)]
      exact c3 w w1 (by omega)
  · rw [e 5 (by omega) (by omega)] at q2
    rw [ho _ (by omega) (by omega), e _ (by omega) (by omega)]; exact c4 s q1 q2
  · rw [ho _ (by omega) (by omega), e _ (by omega) (by omega)]; exact c5 s q1 q2
  · rw [ho _ (by omega) (by omega), s4]; exact c6 p p1 p2
def OnX (r r' v : F1) (q : Int) : Prop := r' 7 = r 7 + 1 ∧ (r' (54 + 7 * r 7 + 0) = v 0 ∧ r' (54 + 7 * r 7 + 1) = v 1 ∧ r' (54 + 7 * r 7 + 2) = v 2 ∧ r' (54 + 7 * r 7 + 3) = v 3 ∧ r' (54 + 7 * r 7 + 4) = v 4 ∧ r' (54 + 7 * r 7 + 5) = v 5 ∧ r' (54 + 7 * r 7 + 6) = q) ∧ ∀ j, j < 173 → j ≠ 7 → (j < 54 + 7 * r 7 ∨ 54 + 7 * r 7 + 7 ≤ j) → r' j = r j
theorem OnX.pr {I J : MI} {P : Nat} {r r' v : F1} {q : Int} (hW : WFp r) (h6 : r 7 ≤ 13) (hq : q = 0 ∨ q = 1) (hv0 : 0 ≤ v 0 ∧ v 0 < r 4) (hR : PR I P r) (hX : OnX r r' v q) (ho : ∀ c, c ≠ P + 10 + (r 7).toNat → c ≠ P → c ≠ P + 34 → J c = I c) (h3 : J P 6 = r 7 + 1) (hf : ∀ k, k ≠ 6 → k ≠ 9 → k ≠ 10 → k ≠ 11 → J P k = I P k)
    (h9 : J P 9 = if q = 1 then ior (I P 9) (ishl 1 (r 7)) else I P 9) (h10 : J P 10 = if q = 0 ∧ r (9 + v 0) = 2 then ior (I P 10) (ishl 1 (r 7)) else I P 10) (h11 : J P 11 = if q = 0 ∧ r (9 + v 0) = 3 then ior (I P 11) (ishl 1 (r 7)) else I P 11) (h34 : ∀ j, J (P + 34) j = if j = v 0 then ior (I (P + 34) (v 0)) (ishl 1 (r 7)) else I (P + 34) j)
    (h0 : J (P + 10 + (r 7).toNat) 0 = v 0 ∧ J (P + 10 + (r 7).toNat) 1 = v 1 ∧ J (P + 10 + (r 7).toNat) 2 = q ∧ J (P + 10 + (r 7).toNat) 3 = v 4 ∧ J (P + 10 + (r 7).toNat) 4 = v 5 ∧ J (P + 10 + (r 7).toNat) 5 = v 2 ∧ J (P + 10 + (r 7).toNat) 6 = v 3) : PR J P r' := by
  have hd := hW.1
  unfold wHd at hd
  have hOn := hW.2.2.2.1
  obtain ⟨⟨a1, a2, a3, a4, a5, a6, a7, a8⟩, ⟨b1, b2, b3⟩, c1, c2, c3, c4, c5, c6⟩ := hR
  obtain ⟨x7, ⟨x0, x1, x2, x3, x4, x5, x6⟩, xe⟩ := hX
  have e : ∀ j, j < 54 → j ≠ 7 → r' j = r j := fun j j1 j2 => xe j (by omega) j2 (by omega)
  have eo : ∀ k, 0 ≤ k → k < r 7 → ∀ w, 0 ≤ w → w < 7 → r' (54 + 7 * k + w) = r (54 + 7 * k + w) := fun k k1 k2 w w1 w2 => xe _ (by omega) (by omega) (by omega)
  have ek : ∀ k, 0 ≤ k → k < r 7 → r' (9 + r (54 + 7 * k + 0)) = r (9 + r (54 + 7 * k + 0)) := fun k k1 k2 => by
    have := hOn k k1 k2
    exact e _ (by omega) (by omega)
  have sB : setOf (behP r') (r 7).toNat = setOf (behP r) (r 7).toNat := setOf_c (fun k k1 k2 => by unfold behP; rw [eo k k1 (by omega) 6 (by omega) (by omega)])
  have sP : setOf (pupP r') (r 7).toNat = setOf (pupP r) (r 7).toNat := setOf_c (fun k k1 k2 => by unfold pupP; rw [eo k k1 (by omega) 6 (by omega) (by omega), eo k k1 (by omega) 0 (by omega) (by omega), ek k k1 (by omega)])
  have sD : setOf (dedP r') (r 7).toNat = setOf (dedP r) (r 7).toNat := setOf_c (fun k k1 k2 => by unfold dedP; rw [eo k k1 (by omega) 6 (by omega) (by omega), eo k k1 (by omega) 0 (by omega) (by omega), ek k k1 (by omega)])
  have sO : ∀ p, setOf (fun k => r' (54 + 7 * k + 0) = p) (r 7).toNat = setOf (fun k => r (54 + 7 * k + 0) = p) (r 7).toNat := fun p => setOf_c (fun k k1 k2 => by rw [eo k k1 (by omega) 0 (by omega) (by omega)])
  have k9 : r' (9 + v 0) = r (9 + v 0) := e _ (by omega) (by omega)
  refine ⟨⟨?_, ?_, ?_, ?_, ?_, ?_, ?_, ?_⟩, ⟨?_, ?_, ?_⟩, fun p p1 p2 => ?_, fun k k1 k2 => ?_, fun w w1 w2 => ?_, fun s q1 q2 => ?_, fun s q1 q2 => ?_, fun p p1 p2 => ?_⟩
  · rw [hf _ (by decide) (by decide) (by decide) (by decide), e 1 (by omega) (by omega)]; exact a1
  · rw [hf _ (by decide) (by decide) (by decide) (by decide), e 2 (by omega) (by omega)]; exact a2
  · rw [hf _ (by decide) (by decide) (by decide) (by decide), e 3 (by omega) (by omega)]; exact a3
  · rw [hf _ (by decide) (by decide) (by decide) (by decide), e 4 (by omega) (by omega)]; exact a4
  · rw [hf _ (by decide) (by decide) (by decide) (by decide), e 5 (by omega) (by omega)]; exact a5
  · rw [hf _ (by decide) (by decide) (by decide) (by decide), e 6 (by omega) (by omega)]; exact a6
  · rw [h3, x7]
  · rw [hf _ (by decide) (by decide) (by decide) (by decide), e 8 (by omega) (by omega)]; exact a8
  · rw [h9, x7, b1, ← sB]
    by_cases z : q = 1
    · rw [if_pos z]; exact setOf_t hd.2.2.2.2.2.2.1 (show behP r' (r 7) by unfold behP; rw [x6]; exact z)
    · rw [if_neg z]; exact (setOf_n hd.2.2.2.2.2.2.1 (show ¬ behP r' (r 7) by unfold behP; rw [x6]; exact z)).symm
  · rw [h10, x7, b2, ← sP]
    by_cases z : q = 0 ∧ r (9 + v 0) = 2
    · rw [if_pos z]; exact setOf_t hd.2.2.2.2.2.2.1 (show pupP r' (r 7) by unfold pupP; rw [x6, x0, k9]; exact z)
    · rw [if_neg z]; exact (setOf_n hd.2.2.2.2.2.2.1 (show ¬ pupP r' (r 7) by unfold pupP; rw [x6, x0, k9]; exact z)).symm
  · rw [h11, x7, b3, ← sD]
    by_cases z : q = 0 ∧ r (9 + v 0) = 3
    · rw [if_pos z]; exact setOf_t hd.2.2.2.2.2.2.1 (show dedP r' (r 7) by unfold dedP; rw [x6, x0, k9]; exact z)
    · rw [if_neg z]; exact (setOf_n hd.2.2.2.2.2.2.1 (show ¬ dedP r' (r 7) by unfold dedP; rw [x6, x0, k9]; exact z)).symm
  · rw [e 4 (by omega) (by omega)] at p2
    unfold rowP
    rw [ho _ (by omega) (by omega) (by omega), e (9 + p) (by omega) (by omega), e (16 + p) (by omega) (by omega), e (23 + p) (by omega) (by omega), e (30 + p) (by omega) (by omega), e (37 + p) (by omega) (by omega)]
    exact c1 p p1 p2
  · rw [x7] at k2
    by_cases z : k = r 7
    · subst z
      exact ⟨h0.1.trans x0.symm, h0.2.1.trans x1.symm, h0.2.2.1.trans x6.symm, h0.2.2.2.1.trans x4.symm, h0.2.2.2.2.1.trans x5.symm, h0.2.2.2.2.2.1.trans x2.symm, h0.2.2.2.2.2.2.trans x3.symm⟩
    · unfold rowO
      rw [ho _ (by omega) (by omega) (by omega), eo k k1 (by omega) 0 (by omega) (by omega), eo k k1 (by omega) 1 (by omega) (by omega), eo k k1 (by omega) 2 (by omega) (by omega), eo k k1 (by omega) 3 (by omega) (by omega), eo k k1 (by omega) 4 (by omega) (by omega), eo k k1 (by omega) 5 (by omega) (by omega), eo k k1 (by omega) 6 (by omega) (by omega)]
      exact c2 k k1 (by omega)
  · rw [e 8 (by omega) (by omega)] at w2
    unfold rowS
    rw [ho _ (by omega) (by omega) (by omega), xe (152 + 3 * w + 0) (by omega) (by omega) (by omega), xe (152 + 3 * w + 1) (by omega) (by omega) (by omega), xe (152 + 3 * w + 2) (by omega) (by omega) (by omega)]
    exact c3 w w1 w2
  · rw [e 5 (by omega) (by omega)] at q2
    rw [ho _ (by omega) (by omega) (by omega), e _ (by omega) (by omega)]; exact c4 s q1 q2
  · rw [ho _ (by omega) (by omega) (by omega), e _ (by omega) (by omega)]; exact c5 s q1 q2
  · rw [h34, x7]
    by_cases z : p = v 0
    · rw [if_pos z, ← z, c6 p p1 p2, ← sO p]
      exact setOf_t (P := fun k => r' (54 + 7 * k + 0) = p) hd.2.2.2.2.2.2.1 (by rw [x0, z])
    · rw [if_neg z, c6 p p1 p2, ← sO p]
      exact (setOf_n (P := fun k => r' (54 + 7 * k + 0) = p) hd.2.2.2.2.2.2.1 (by rw [x0]; exact fun y => z y.symm)).symm
set_option maxHeartbeats 4000000 in
theorem c_X5_addOn {E : ET} {I : MI} {L : ML} {R : MR} {Q : Option AV → MI → ML → MR → Prop} {P : Nat} {r r' v : F1} {B : Prop} (hT : Topo R) (hP : isP P) (hW : WFp r) (h6 : r 7 ≤ 13) (hR : PR I P r) (hv : I 78 = v) (hv0 : 0 ≤ v 0 ∧ v 0 < r 4) (hX : OnX r r' v (bI B)) (h : ∀ I', FrP P I I' → PR I' P r' → Q none I' L R) : CT E M_X5_addOn 161 yX5_addOn [(vr (P)), (vr (78)), (vi (bI B))] I L R Q := by
  refine CT_of rfl rfl (fun h => by cases h) (Nat.le_of_ble_eq_true rfl) (fun X => ?_)
  show V X _ z0 0 [some (vr (P)), some (vr (78)), some (vi (bI B)), none, none, none] [] I L R _
  have hp : P = 3 ∨ P = 39 := hP
  have hd := hW.1
  unfold wHd at hd
  have a7 := hR.1.2.2.2.2.2.2.1
  have hk := (hR.2.2.1 (v 0) hv0.1 hv0.2).1
  have hB : bI B = 0 ∨ bI B = 1 := (Classical.em B).elim (fun z => Or.inr (bI_t z)) (fun z => Or.inl (bI_f z))
  have tail : ∀ J : MI, J = up (up (up (up (up (up (up I (P + 10 + (r 7).toNat) 0 (v 0)) (P + 10 + (r 7).toNat) 1 (v 1)) (P + 10 + (r 7).toNat) 2 (bI B)) (P + 10 + (r 7).toNat) 3 (v 4)) (P + 10 + (r 7).toNat) 4 (v 5)) (P + 10 + (r 7).toNat) 5 (v 2)) (P + 10 + (r 7).toNat) 6 (v 3) → V X M_X5_addOn z0 59 [some (vr P), some (vr 78), some (vi (bI B)), some (vr (P + 10 + (r 7).toNat)), none, none] [] J L R (RT X M_X5_addOn Q) := by
    intro J hJ
    have jo : ∀ c, c ≠ P + 10 + (r 7).toNat → J c = I c := fun c z => by rw [hJ, up_ne z, up_ne z, up_ne z, up_ne z, up_ne z, up_ne z, up_ne z]
    have j0 : J (P + 10 + (r 7).toNat) 0 = v 0 ∧ J (P + 10 + (r 7).toNat) 1 = v 1 ∧ J (P + 10 + (r 7).toNat) 2 = bI B ∧ J (P + 10 + (r 7).toNat) 3 = v 4 ∧ J (P + 10 + (r 7).toNat) 4 = v 5 ∧ J (P + 10 + (r 7).toNat) 5 = v 2 ∧ J (P + 10 + (r 7).toNat) 6 = v 3 := by
      rw [hJ]
      refine ⟨?_, ?_, ?_, ?_, ?_, ?_, ups⟩
      · rw [upn (by decide), upn (by decide), upn (by decide), upn (by decide), upn (by decide), upn (by decide), ups]
      · rw [upn (by decide), upn (by decide), upn (by decide), upn (by decide), upn (by decide), ups]
      · rw [upn (by decide), upn (by decide), upn (by decide), upn (by decide), ups]
      · rw [upn (by decide), upn (by decide), upn (by decide), ups]
      · rw [upn (by decide), upn (by decide), ups]
      · rw [upn (by decide), ups]
    have fr : FrP P I J := by
      rw [hJ]
      exact ((((((FrP.rf.st (by omega)).st (by omega)).st (by omega)).st (by omega)).st (by omega)).st (by omega)).st (by omega)
    have j7 : J P 6 = r 7 := by rw [jo P (by omega)]; exact a7
    have j78 : ∀ k, J 78 k = v k := fun k => by rw [jo 78 (by omega), hv]
    have jk : J (P + 2 + (v 0).toNat) 0 = r (9 + v 0) := by rw [jo _ (by omega)]; exact hk
    have last : ∀ J2 : MI, (∀ c, c ≠ P → J2 c = J c) → (∀ k, k ≠ 9 → k ≠ 10 → k ≠ 11 → J2 P k = J P k) → J2 P 9 = (if bI B = 1 then ior (I P 9) (ishl 1 (r 7)) else I P 9) → J2 P 10 = (if bI B = 0 ∧ r (9 + v 0) = 2 then ior (I P 10) (ishl 1 (r 7)) else I P 10) → J2 P 11 = (if bI B = 0 ∧ r (9 + v 0) = 3 then ior (I P 11) (ishl 1 (r 7)) else I P 11) → ∀ w5, V X M_X5_addOn z0 134 [some (vr P), some (vr 78), some (vi (bI B)), some (vr (P + 10 + (r 7).toNat)), some (vi (ishl 1 (r 7))), w5] [] J2 L R (RT X M_X5_addOn Q) := by
      intro J2 k1 k2 k9 k10 k11 w5
      have m0 : J2 78 0 = v 0 := by rw [k1 78 (by omega)]; exact j78 0
      have f2 : FrP P J J2 := fun c hc => k1 c (by omega)
      refine s_aload_n 135 dX5_addOn_134 rfl rfl ?_
      refine s_getR 138 dX5_addOn_135 rfl fl_X5_29 (fun _ _ _ _ => rfl) (T_X5_onsOfPart hT hP) (isP_sh hP) (isP_lt hP) ?_
      refine s_aload_n 139 dX5_addOn_138 rfl rfl ?_
      refine s_iconst 140 dX5_addOn_139 rfl ?_
      refine s_iald 141 dX5_addOn_140 rfl sh_78 (Nat.le_of_ble_eq_true rfl) (by omega) (by omega) (fun r_140 => ?_)
      rw [m0] at r_140 ⊢
      refine s_dup2 142 dX5_addOn_141 rfl rfl rfl ?_
      refine s_iald 143 dX5_addOn_142 rfl (shP_onsOfPart hP) (ltP_onsOfPart hP) (by omega) (by omega) (fun r_142 => ?_)
      refine s_iload 145 dX5_addOn_143 rfl rfl ?_
      refine s_ior 146 dX5_addOn_145 rfl ?_
      refine s_iast 147 dX5_addOn_146 rfl (shP_onsOfPart hP) (ltP_onsOfPart hP) (by omega) (by omega) (by first | omega | exact ior_r _ _) ?_
      refine s_aload_n 148 dX5_addOn_147 rfl rfl ?_
      refine s_dup 149 dX5_addOn_148 rfl rfl ?_
      refine s_getI 152 dX5_addOn_149 rfl fl_X5_54 (fun _ _ _ _ => rfl) (isP_sh hP) (isP_lt hP) (fun r_149 => ?_)
      rw [up_ne (by omega), k2 6 (by decide) (by decide) (by decide), j7]
      refine s_iconst 153 dX5_addOn_152 rfl ?_
      refine s_iadd 154 dX5_addOn_153 rfl ?_
      refine s_putI 157 dX5_addOn_154 rfl fl_X5_54 (fun _ => rfl) (fun _ => rfl) (fun _ _ _ _ => rfl) (isP_sh hP) (isP_lt hP) (by first | omega | exact bI_r _ | exact iI_r _) ?_
      refine s_vret dX5_addOn_157 rfl rfl ?_
      refine h _ ((((fr.tr f2).st (by omega)).st (by omega))) (hX.pr (J := up (up J2 (P + 34) (v 0) (ior (J2 (P + 34) (v 0)) (ishl 1 (r 7)))) P 6 (r 7 + 1)) hW h6 hB hv0 hR (fun c c1 c2 c3 => ?_) ups (fun k y1 y2 y3 y4 => ?_) ?_ ?_ ?_ (fun j => ?_) ?_)
      · rw [up_ne c2, up_ne c3, k1 c c2, jo c c1]
      · rw [upn y1, up_ne (by omega), k2 k y2 y3 y4, jo P (by omega)]
      · rw [upn (by decide), up_ne (by omega)]; exact k9
      · rw [upn (by decide), up_ne (by omega)]; exact k10
      · rw [upn (by decide), up_ne (by omega)]; exact k11
      · rw [up_ne (by omega), upd9, k1 _ (by omega), jo _ (by omega)]
      · have u : up (up J2 (P + 34) (v 0) (ior (J2 (P + 34) (v 0)) (ishl 1 (r 7)))) P 6 (r 7 + 1) (P + 10 + (r 7).toNat) = J (P + 10 + (r 7).toNat) := (by rw [up_ne (by omega), up_ne (by omega), k1 _ (by omega)])
        rw [u]; exact j0
    have jP : ∀ k, J P k = I P k := fun k => by rw [jo P (by omega)]
    refine s_iconst 60 dX5_addOn_59 rfl ?_
    refine s_aload_n 61 dX5_addOn_60 rfl rfl ?_
    refine s_getI 64 dX5_addOn_61 rfl fl_X5_54 (fun _ _ _ _ => rfl) (isP_sh hP) (isP_lt hP) (fun r_61 => ?_)
    rw [j7]
    refine s_ishl 65 dX5_addOn_64 rfl ?_
    refine s_istore (ls' := [_, _, _, _, _, _]) 67 dX5_addOn_65 rfl (Nat.le_of_ble_eq_true rfl) rfl rfl ?_
    refine s_aload_n 68 dX5_addOn_67 rfl rfl ?_
    refine s_getR 71 dX5_addOn_68 rfl fl_X5_11 (fun _ _ _ _ => rfl) (T_X5_parts hT hP) (isP_sh hP) (isP_lt hP) ?_
    refine s_aload_n 72 dX5_addOn_71 rfl rfl ?_
    refine s_iconst 73 dX5_addOn_72 rfl ?_
    refine s_iald 74 dX5_addOn_73 rfl sh_78 (Nat.le_of_ble_eq_true rfl) (by omega) (by omega) (fun r_73 => ?_)
    rw [j78 0] at r_73 ⊢
    refine s_aald 75 dX5_addOn_74 rfl (shP_parts hP) (ltP_parts hP) (by omega) (by decide) (T_X5_parts_row hT hP (by omega)) ?_
    refine s_iconst 76 dX5_addOn_75 rfl ?_
    refine s_iald 77 dX5_addOn_76 rfl (shP_parts_row hP (by omega)) (ltP_parts_row hP (by omega)) (by omega) (by omega) (fun r_76 => ?_)
    rw [jk] at r_76 ⊢
    refine s_istore (ls' := [_, _, _, _, _, _]) 79 dX5_addOn_77 rfl (Nat.le_of_ble_eq_true rfl) rfl rfl ?_
    refine s_iload_n 80 dX5_addOn_79 rfl rfl ?_
    refine s_ifb_eq 97 83 dX5_addOn_80 rfl rfl (fun h_80 => ?_) (fun h_80 => ?_)
    · skip
      refine s_iload 99 dX5_addOn_97 rfl rfl ?_
      refine s_iconst 100 dX5_addOn_99 rfl ?_
      refine s_icmp_ne 117 103 dX5_addOn_100 rfl rfl (by first | omega | exact bI_r _ | exact iI_r _) (by first | omega | exact bI_r _ | exact iI_r _) (fun h_100 => ?_) (fun h_100 => ?_)
      · skip
        refine s_iload 119 dX5_addOn_117 rfl rfl ?_
        refine s_iconst 120 dX5_addOn_119 rfl ?_
        refine s_icmp_ne 134 123 dX5_addOn_120 rfl rfl (by first | omega | exact bI_r _ | exact iI_r _) (by first | omega | exact bI_r _ | exact iI_r _) (fun h_120 => ?_) (fun h_120 => ?_)
        · skip
          first | (have hb1 : bI B = 1 := bI_t (by assumption)) | (have hb0 : bI B = 0 := bI_f (by assumption))
          refine last _ (fun c hc => by first | rw [up_ne hc] | rfl) (fun k y1 y2 y3 => by first | rw [upn y1] | rw [upn y2] | rw [upn y3] | rfl) ?_ ?_ ?_ _
          all_goals first | (rw [if_pos (by omega)]; first | exact ups | (rw [upn (by decide)]; exact jP _) | exact jP _) | (rw [if_neg (by omega)]; first | (rw [upn (by decide)]; exact jP _) | exact jP _)
        refine s_aload_n 124 dX5_addOn_123 rfl rfl ?_
        refine s_dup 125 dX5_addOn_124 rfl rfl ?_
        refine s_getI 128 dX5_addOn_125 rfl fl_X5_69 (fun _ _ _ _ => rfl) (isP_sh hP) (isP_lt hP) (fun r_125 => ?_)
        rw [jP 11]
        refine s_iload 130 dX5_addOn_128 rfl rfl ?_
        refine s_ior 131 dX5_addOn_130 rfl ?_
        refine s_putI 134 dX5_addOn_131 rfl fl_X5_69 (fun _ => rfl) (fun _ => rfl) (fun _ _ _ _ => rfl) (isP_sh hP) (isP_lt hP) (by first | omega | exact ior_r _ _) ?_
        first | (have hb1 : bI B = 1 := bI_t (by assumption)) | (have hb0 : bI B = 0 := bI_f (by assumption))
        refine last _ (fun c hc => by first | rw [up_ne hc] | rfl) (fun k y1 y2 y3 => by first | rw [upn y1] | rw [upn y2] | rw [upn y3] | rfl) ?_ ?_ ?_ _
        all_goals first | (rw [if_pos (by omega)]; first | exact ups | (rw [upn (by decide)]; exact jP _) | exact jP _) | (rw [if_neg (by omega)]; first | (rw [upn (by decide)]; exact jP _) | exact jP _)
      refine s_aload_n 104 dX5_addOn_103 rfl rfl ?_
      refine s_dup 105 dX5_addOn_104 rfl rfl ?_
      refine s_getI 108 dX5_addOn_105 rfl fl_X5_66 (fun _ _ _ _ => rfl) (isP_sh hP) (isP_lt hP) (fun r_105 => ?_)
      rw [jP 10]
      refine s_iload 110 dX5_addOn_108 rfl rfl ?_
      refine s_ior 111 dX5_addOn_110 rfl ?_
      refine s_putI 114 dX5_addOn_111 rfl fl_X5_66 (fun _ => rfl) (fun _ => rfl) (fun _ _ _ _ => rfl) (isP_sh hP) (isP_lt hP) (by first | omega | exact ior_r _ _) ?_
      refine s_goto 134 dX5_addOn_114 rfl ?_
      first | (have hb1 : bI B = 1 := bI_t (by assumption)) | (have hb0 : bI B = 0 := bI_f (by assumption))
      refine last _ (fun c hc => by first | rw [up_ne hc] | rfl) (fun k y1 y2 y3 => by first | rw [upn y1] | rw [upn y2] | rw [upn y3] | rfl) ?_ ?_ ?_ _
      all_goals first | (rw [if_pos (by omega)]; first | exact ups | (rw [upn (by decide)]; exact jP _) | exact jP _) | (rw [if_neg (by omega)]; first | (rw [upn (by decide)]; exact jP _) | exact jP _)
    refine s_aload_n 84 dX5_addOn_83 rfl rfl ?_
    refine s_dup 85 dX5_addOn_84 rfl rfl ?_
    refine s_getI 88 dX5_addOn_85 rfl fl_X5_63 (fun _ _ _ _ => rfl) (isP_sh hP) (isP_lt hP) (fun r_85 => ?_)
    rw [jP 9]
    refine s_iload 90 dX5_addOn_88 rfl rfl ?_
    refine s_ior 91 dX5_addOn_90 rfl ?_
    refine s_putI 94 dX5_addOn_91 rfl fl_X5_63 (fun _ => rfl) (fun _ => rfl) (fun _ _ _ _ => rfl) (isP_sh hP) (isP_lt hP) (by first | omega | exact ior_r _ _) ?_
    refine s_goto 134 dX5_addOn_94 rfl ?_
    first | (have hb1 : bI B = 1 := bI_t (by assumption)) | (have hb0 : bI B = 0 := bI_f (by assumption))
    refine last _ (fun c hc => by first | rw [up_ne hc] | rfl) (fun k y1 y2 y3 => by first | rw [upn y1] | rw [upn y2] | rw [upn y3] | rfl) ?_ ?_ ?_ _
    all_goals first | (rw [if_pos (by omega)]; first | exact ups | (rw [upn (by decide)]; exact jP _) | exact jP _) | (rw [if_neg (by omega)]; first | (rw [upn (by decide)]; exact jP _) | exact jP _)
  subst hv
  refine s_aload_n 1 dX5_addOn_0 rfl rfl ?_
  refine s_getR 4 dX5_addOn_1 rfl fl_X5_16 (fun _ _ _ _ => rfl) (T_X5_ons hT hP) (isP_sh hP) (isP_lt hP) ?_
  refine s_aload_n 5 dX5_addOn_4 rfl rfl ?_
  refine s_getI 8 dX5_addOn_5 rfl fl_X5_54 (fun _ _ _ _ => rfl) (isP_sh hP) (isP_lt hP) (fun r_5 => ?_)
  rw [a7]
  refine s_aald 9 dX5_addOn_8 rfl (shP_ons hP) (ltP_ons hP) (by omega) (by decide) (T_X5_ons_row hT hP (by omega)) ?_
  refine s_astore_n (ls' := [_, _, _, _, _, _]) 10 dX5_addOn_9 rfl (Nat.le_of_ble_eq_true rfl) rfl rfl ?_
  refine s_aload_n 11 dX5_addOn_10 rfl rfl ?_
  refine s_iconst 12 dX5_addOn_11 rfl ?_
  refine s_aload_n 13 dX5_addOn_12 rfl rfl ?_
  refine s_iconst 14 dX5_addOn_13 rfl ?_
  refine s_iald 15 dX5_addOn_14 rfl sh_78 (Nat.le_of_ble_eq_true rfl) (by omega) (by omega) (fun r_14 => ?_)
  refine s_iast 16 dX5_addOn_15 rfl (shP_ons_row hP (by omega)) (ltP_ons_row hP (by omega)) (by omega) (by omega) (by first | omega | exact bI_r _ | exact iI_r _) ?_
  refine s_aload_n 17 dX5_addOn_16 rfl rfl ?_
  refine s_iconst 18 dX5_addOn_17 rfl ?_
  refine s_aload_n 19 dX5_addOn_18 rfl rfl ?_
  refine s_iconst 20 dX5_addOn_19 rfl ?_
  refine s_iald 21 dX5_addOn_20 rfl sh_78 (Nat.le_of_ble_eq_true rfl) (by omega) (by omega) (fun r_20 => ?_)
  rw [up_ne (by omega)] at r_20 ⊢
  refine s_iast 22 dX5_addOn_21 rfl (shP_ons_row hP (by omega)) (ltP_ons_row hP (by omega)) (by omega) (by omega) (by first | omega | exact bI_r _ | exact iI_r _) ?_
  refine s_aload_n 23 dX5_addOn_22 rfl rfl ?_
  refine s_iconst 24 dX5_addOn_23 rfl ?_
  refine s_iload_n 25 dX5_addOn_24 rfl rfl ?_
  refine s_ifb_eq 32 28 dX5_addOn_25 rfl rfl (fun h_25 => ?_) (fun h_25 => ?_)
  · skip
    refine s_iconst 33 dX5_addOn_32 rfl ?_
    refine s_iast 34 dX5_addOn_33 rfl (shP_ons_row hP (by omega)) (ltP_ons_row hP (by omega)) (by omega) (by omega) (by first | omega | exact bI_r _ | exact iI_r _) ?_
    refine s_aload_n 35 dX5_addOn_34 rfl rfl ?_
    refine s_iconst 36 dX5_addOn_35 rfl ?_
    refine s_aload_n 37 dX5_addOn_36 rfl rfl ?_
    refine s_iconst 38 dX5_addOn_37 rfl ?_
    refine s_iald 39 dX5_addOn_38 rfl sh_78 (Nat.le_of_ble_eq_true rfl) (by omega) (by omega) (fun r_38 => ?_)
    rw [up_ne (by omega), up_ne (by omega), up_ne (by omega)] at r_38 ⊢
    refine s_iast 40 dX5_addOn_39 rfl (shP_ons_row hP (by omega)) (ltP_ons_row hP (by omega)) (by omega) (by omega) (by first | omega | exact bI_r _ | exact iI_r _) ?_
    refine s_aload_n 41 dX5_addOn_40 rfl rfl ?_
    refine s_iconst 42 dX5_addOn_41 rfl ?_
    refine s_aload_n 43 dX5_addOn_42 rfl rfl ?_
    refine s_iconst 44 dX5_addOn_43 rfl ?_
    refine s_iald 45 dX5_addOn_44 rfl sh_78 (Nat.le_of_ble_eq_true rfl) (by omega) (by omega) (fun r_44 => ?_)
    rw [up_ne (by omega), up_ne (by omega), up_ne (by omega), up_ne (by omega)] at r_44 ⊢
    refine s_iast 46 dX5_addOn_45 rfl (shP_ons_row hP (by omega)) (ltP_ons_row hP (by omega)) (by omega) (by omega) (by first | omega | exact bI_r _ | exact iI_r _) ?_
    refine s_aload_n 47 dX5_addOn_46 rfl rfl ?_
    refine s_iconst 48 dX5_addOn_47 rfl ?_
    refine s_aload_n 49 dX5_addOn_48 rfl rfl ?_
    refine s_iconst 50 dX5_addOn_49 rfl ?_
    refine s_iald 51 dX5_addOn_50 rfl sh_78 (Nat.le_of_ble_eq_true rfl) (by omega) (by omega) (fun r_50 => ?_)
    rw [up_ne (by omega), up_ne (by omega), up_ne (by omega), up_ne (by omega), up_ne (by omega)] at r_50 ⊢
    refine s_iast 52 dX5_addOn_51 rfl (shP_ons_row hP (by omega)) (ltP_ons_row hP (by omega)) (by omega) (by omega) (by first | omega | exact bI_r _ | exact iI_r _) ?_
    refine s_aload_n 53 dX5_addOn_52 rfl rfl ?_
    refine s_bipush 55 dX5_addOn_53 rfl (by decide) ?_
    refine s_aload_n 56 dX5_addOn_55 rfl rfl ?_
    refine s_iconst 57 dX5_addOn_56 rfl ?_
    refine s_iald 58 dX5_addOn_57 rfl sh_78 (Nat.le_of_ble_eq_true rfl) (by omega) (by omega) (fun r_57 => ?_)
    rw [up_ne (by omega), up_ne (by omega), up_ne (by omega), up_ne (by omega), up_ne (by omega), up_ne (by omega)] at r_57 ⊢
    refine s_iast 59 dX5_addOn_58 rfl (shP_ons_row hP (by omega)) (ltP_ons_row hP (by omega)) (by omega) (by omega) (by first | omega | exact bI_r _ | exact iI_r _) ?_
    first | (rw [bI_t (by assumption)] at *; exact tail _ rfl) | (rw [bI_f (by assumption)] at *; exact tail _ rfl)
  refine s_iconst 29 dX5_addOn_28 rfl ?_
  refine s_goto 33 dX5_addOn_29 rfl ?_
  refine s_iast 34 dX5_addOn_33 rfl (shP_ons_row hP (by omega)) (ltP_ons_row hP (by omega)) (by omega) (by omega) (by first | omega | exact bI_r _ | exact iI_r _) ?_
  refine s_aload_n 35 dX5_addOn_34 rfl rfl ?_
  refine s_iconst 36 dX5_addOn_35 rfl ?_
  refine s_aload_n 37 dX5_addOn_36 rfl rfl ?_
  refine s_iconst 38 dX5_addOn_37 rfl ?_
  refine s_iald 39 dX5_addOn_38 rfl sh_78 (Nat.le_of_ble_eq_true rfl) (by omega) (by omega) (fun r_38 => ?_)
  rw [up_ne (by omega), up_ne (by omega), up_ne (by omega)] at r_38 ⊢
  refine s_iast 40 dX5_addOn_39 rfl (shP_ons_row hP (by omega)) (ltP_ons_row hP (by omega)) (by omega) (by omega) (by first | omega | exact bI_r _ | exact iI_r _) ?_
  refine s_aload_n 41 dX5_addOn_40 rfl rfl ?_
  refine s_iconst 42 dX5_addOn_41 rfl ?_
  refine s_aload_n 43 dX5_addOn_42 rfl rfl ?_
  refine s_iconst 44 dX5_addOn_43 rfl ?_
  refine s_iald 45 dX5_addOn_44 rfl sh_78 (Nat.le_of_ble_eq_true rfl) (by omega) (by omega) (fun r_44 => ?_)
  rw [up_ne (by omega), up_ne (by omega), up_ne (by omega), up_ne (by omega)] at r_44 ⊢
  refine s_iast 46 dX5_addOn_45 rfl (shP_ons_row hP (by omega)) (ltP_ons_row hP (by omega)) (by omega) (by omega) (by first | omega | exact bI_r _ | exact iI_r _) ?_
  refine s_aload_n 47 dX5_addOn_46 rfl rfl ?_
  refine s_iconst 48 dX5_addOn_47 rfl ?_
  refine s_aload_n 49 dX5_addOn_48 rfl rfl ?_
  refine s_iconst 50 dX5_addOn_49 rfl ?_
  refine s_iald 51 dX5_addOn_50 rfl sh_78 (Nat.le_of_ble_eq_true rfl) (by omega) (by omega) (fun r_50 => ?_)
  rw [up_ne (by omega), up_ne (by omega), up_ne (by omega), up_ne (by omega), up_ne (by omega)] at r_50 ⊢
  refine s_iast 52 dX5_addOn_51 rfl (shP_ons_row hP (by omega)) (ltP_ons_row hP (by omega)) (by omega) (by omega) (by first | omega | exact bI_r _ | exact iI_r _) ?_
  refine s_aload_n 53 dX5_addOn_52 rfl rfl ?_
  refine s_bipush 55 dX5_addOn_53 rfl (by decide) ?_
  refine s_aload_n 56 dX5_addOn_55 rfl rfl ?_
  refine s_iconst 57 dX5_addOn_56 rfl ?_
  refine s_iald 58 dX5_addOn_57 rfl sh_78 (Nat.le_of_ble_eq_true rfl) (by omega) (by omega) (fun r_57 => ?_)
  rw [up_ne (by omega), up_ne (by omega), up_ne (by omega), up_ne (by omega), up_ne (by omega), up_ne (by omega)] at r_57 ⊢
  refine s_iast 59 dX5_addOn_58 rfl (shP_ons_row hP (by omega)) (ltP_ons_row hP (by omega)) (by omega) (by omega) (by first | omega | exact bI_r _ | exact iI_r _) ?_
  first | (rw [bI_t (by assumption)] at *; exact tail _ rfl) | (rw [bI_f (by assumption)] at *; exact tail _ rfl)
