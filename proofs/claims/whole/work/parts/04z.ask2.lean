/-! what is asked, by the reference: more -/
theorem Laid.can {r sc : F1} {g rd : Int} {I I' : MI} {S S' : Int → Prop} (h : Laid r g sc I I') (hr : WFr r) (hS : ∀ k, 0 ≤ k → k < r 7 → (S k ↔ S' k)) : Can r rd (I' 150) (I' 151) (I' 152) S ↔ Can r rd (bgF r g sc) (clF r g sc) (sqF r g sc) S' := by
  have e0 := hr.1
  have hs := srF_in (bgF r g sc) (r 7).toNat
  rw [show (((r 7).toNat : Nat) : Int) = r 7 by omega] at hs
  exact (Can_c (b := bgF r g sc) (b' := I' 150) (c := clF r g sc) (c' := I' 151) (q := sqF r g sc) (q' := I' 152) (S := S') (S' := S) hr hs (fun k a b => h.2.2.1 k a b) (fun i a b => h.2.2.2 i a b) (fun k a b => (hS k a b).symm))
theorem Laid.bod {r sc : F1} {g : Int} {I I' : MI} {S S' : Int → Prop} (h : Laid r g sc I I') (hr : WFr r) (hS : ∀ k, 0 ≤ k → k < r 7 → (S k ↔ S' k)) {k : Int} : Bod r (I' 152) S k ↔ Bod r (sqF r g sc) S' k := by
  have e0 := hr.1
  have hs := srF_in (bgF r g sc) (r 7).toNat
  rw [show (((r 7).toNat : Nat) : Int) = r 7 by omega] at hs
  exact Bod_c (q := sqF r g sc) (q' := I' 152) (S := S') (S' := S) hr hs (fun i a b => h.2.2.2 i a b) (fun k a b => (hS k a b).symm)
/-- a player's APPEARANCES that are there -/
def Ons (r s : F1) (p k : Int) : Prop := s (5 + r (54 + 7 * k + 0)) = p ∧ ¬ hasI (s 12) k
theorem has_Ons {r s : F1} {p k : Int} (hr : WFr r) (hk : 0 ≤ k ∧ k < r 7) : hasI (setOf (fun k => s (5 + r (54 + 7 * k + 0)) = p ∧ ¬ hasI (s 12) k) (r 7).toNat) k ↔ Ons r s p k := by
  have e0 := hr.1
  rw [has_setOf (by omega) (by omega)]
  exact ⟨fun z => z.2, fun z => ⟨by omega, z⟩⟩
set_option maxHeartbeats 4000000 in
theorem c_X12_bodily {E : ET} {I : MI} {L : ML} {R : MR} {Q : Option AV → MI → ML → MR → Prop} {r s : F1} {a : List Int} {HP : Prop} {i : Int} (hT : Topo R) (er : I 141 = r) (es : I 143 = s) (erd : I 138 30 = -1) (ehp : I 138 14 = bI HP) (hr : HP → SOk r s a) (hi : -2147483648 ≤ i ∧ i ≤ 2147483647) (h : ∀ I', Eqo MS (gd I (pick (HP ∧ 0 ≤ i ∧ i < r 7) 0 1)) I' → Q (some (vi (pick (HP ∧ 0 ≤ i ∧ i < r 7) (bI (Bod r (sqF r (r 2) s) (Ons r s (s (5 + r (54 + 7 * i + 0)))) i)) (-1)))) I' L R) : CT E M_X12_bodily 161 yX12_bodily [(vr (138)), (vi (i))] I L R Q := by
  refine CT_of rfl rfl (fun h => by cases h) (Nat.le_of_ble_eq_true rfl) (fun X => ?_)
  show V X _ z0 0 [some (vr (138)), some (vi (i))] [] I L R _
  have hno := (pick_spl h).1
  have hye := (pick_spl h).2
  have er1 : up (up I 138 0 0) 138 11 0 141 = r := (gd_n (by decide)).trans er
  have es1 : up (up I 138 0 0) 138 11 0 143 = s := (gd_n (by decide)).trans es
  have erd1 : up (up I 138 0 0) 138 11 0 138 30 = -1 := (gd_f (by decide)).trans erd
  have ehp1 : up (up I 138 0 0) 138 11 0 138 14 = bI HP := (gd_f (by decide)).trans ehp
  have hr1 : HP → WFr r := fun z => (hr z).1
  refine s_aload_n 1 dX12_bodily_0 rfl rfl ?_
  refine s_callV0 (M' := M_X12_good) (as := []) 4 dX12_bodily_1 rfl cw_X12_190 rfl rfl sh_138 rfl (by decide) (Nat.le_of_ble_eq_true rfl) (Nat.le_of_ble_eq_true rfl) (Nat.le_of_ble_eq_true rfl) (Nat.le_of_ble_eq_true rfl) ⟨rfl, rfl, rfl⟩ ?_
  refine c_X12_good ?_
  refine s_aload_n 5 dX12_bodily_4 rfl rfl ?_
  refine s_iload_n 6 dX12_bodily_5 rfl rfl ?_
  refine s_callV0 (M' := M_X12_isOn) (as := [_]) 9 dX12_bodily_6 rfl cw_X12_309 rfl rfl sh_138 rfl (by decide) (Nat.le_of_ble_eq_true rfl) (Nat.le_of_ble_eq_true rfl) (Nat.le_of_ble_eq_true rfl) (Nat.le_of_ble_eq_true rfl) ⟨rfl, rfl, rfl⟩ ?_
  refine c_X12_isOn hT er1 ehp1 hr1 (by omega) ?_
  refine s_ifb_ne 18 12 dX12_bodily_9 rfl rfl (fun h_9 => ?_) (fun h_9 => ?_)
  · skip
    refine s_aload_n 19 dX12_bodily_18 rfl rfl ?_
    refine s_aload_n 20 dX12_bodily_19 rfl rfl ?_
    refine s_getR 23 dX12_bodily_20 rfl fl_X12_26 (fun _ _ _ _ => rfl) (T_X12_st hT) sh_138 (Nat.le_of_ble_eq_true rfl) ?_
    refine s_callV0 (M' := M_X12_layTime) (as := [_]) 26 dX12_bodily_23 rfl cw_X12_305 rfl rfl sh_138 rfl (by decide) (Nat.le_of_ble_eq_true rfl) (Nat.le_of_ble_eq_true rfl) (Nat.le_of_ble_eq_true rfl) (Nat.le_of_ble_eq_true rfl) ⟨rfl, rfl, rfl⟩ ?_
    have hC : HP ∧ 0 ≤ i ∧ i < r 7 := by assumption
    have hP := hC.1
    have e0 := (hr hP).1.1
    have ek := (hr hP).1.2.2.2.1 i hC.2.1 hC.2.2
    have eq5 := (hr hP).2.2.2.1 (r (54 + 7 * i + 0)) (by omega) (by omega)
    refine c_X12_layTime hT er1 (hr hP).1 rfl sh_143 (by decide) (by decide) (by decide) es1 (hr hP).p (fun I1 hL => ?_)
    have er : I1 141 = r := (hL.1 141 (by decide)).trans er1
    have es2 : I1 143 = s := (hL.1 143 (by decide)).trans es1
    have hE : Eqo MS (gd I 0) I1 := hL.1.mo (by decide)
    refine s_aload_n 27 dX12_bodily_26 rfl rfl ?_
    refine s_aload_n 28 dX12_bodily_27 rfl rfl ?_
    refine s_aload_n 29 dX12_bodily_28 rfl rfl ?_
    refine s_getR 32 dX12_bodily_29 rfl fl_X12_26 (fun _ _ _ _ => rfl) (T_X12_st hT) sh_138 (Nat.le_of_ble_eq_true rfl) ?_
    refine s_iconst 33 dX12_bodily_32 rfl ?_
    refine s_aload_n 34 dX12_bodily_33 rfl rfl ?_
    refine s_iload_n 35 dX12_bodily_34 rfl rfl ?_
    refine s_iconst 36 dX12_bodily_35 rfl ?_
    refine s_callV0 (M' := M_X12_onOf) (as := [_, _]) 39 dX12_bodily_36 rfl cw_X12_302 rfl rfl sh_138 rfl (by decide) (Nat.le_of_ble_eq_true rfl) (Nat.le_of_ble_eq_true rfl) (Nat.le_of_ble_eq_true rfl) (Nat.le_of_ble_eq_true rfl) ⟨rfl, rfl, rfl⟩ ?_
    refine c_X12_onOf hT er (by omega) (by omega) ?_
    refine s_iadd 40 dX12_bodily_39 rfl ?_
    refine s_iald 41 dX12_bodily_40 rfl sh_143 (Nat.le_of_ble_eq_true rfl) (by omega) (by omega) (fun r_40 => ?_)
    rw [es2] at r_40 ⊢
    refine s_callV0 (M' := M_X12_onsOfPlayer) (as := [_]) 44 dX12_bodily_41 rfl cw_X12_345 rfl rfl sh_138 rfl (by decide) (Nat.le_of_ble_eq_true rfl) (Nat.le_of_ble_eq_true rfl) (Nat.le_of_ble_eq_true rfl) (Nat.le_of_ble_eq_true rfl) ⟨rfl, rfl, rfl⟩ ?_
    refine c_X12_onsOfPlayer hT er es2 (hr hP).1 (hr hP).2.2.2.1 (by omega) ?_
    refine s_callV0 (M' := M_X12_bodilyOf) (as := [_]) 47 dX12_bodily_44 rfl cw_X12_330 rfl rfl sh_138 rfl (by decide) (Nat.le_of_ble_eq_true rfl) (Nat.le_of_ble_eq_true rfl) (Nat.le_of_ble_eq_true rfl) (Nat.le_of_ble_eq_true rfl) ⟨rfl, rfl, rfl⟩ ?_
    refine c_X12_bodilyOf hT er rfl (hr hP).1 (hL.rep (hr hP).1 (hr hP).p (by omega)).1 (fun B hB => ?_)
    have hb : hasI B i ↔ Bod r (sqF r (r 2) s) (Ons r s (s (5 + r (54 + 7 * i + 0)))) i := (hB.2 i (by omega) (by omega)).trans (hL.bod (hr hP).1 (fun k q1 q2 => has_Ons (hr hP).1 ⟨q1, q2⟩))
    refine s_iload_n 48 dX12_bodily_47 rfl rfl ?_
    refine s_callS0 (M' := M_X12_has) (as := [_, _]) 51 dX12_bodily_48 rfl cw_X12_278 rfl rfl (Nat.le_of_ble_eq_true rfl) (Nat.le_of_ble_eq_true rfl) (Nat.le_of_ble_eq_true rfl) ⟨rfl, rfl, rfl⟩ ?_
    refine c_X12_has ?_
    refine s_ifb_eq 58 54 dX12_bodily_51 rfl rfl (fun h_51 => ?_) (fun h_51 => ?_)
    · skip
      refine s_iconst 59 dX12_bodily_58 rfl ?_
      refine s_iret dX12_bodily_59 rfl rfl ?_
      first | exact ret_t (hb.mp (by assumption)) (hye hC I1 hE) | exact ret_f (fun z => absurd (hb.mpr z) (by assumption)) (hye hC I1 hE)
    refine s_iconst 55 dX12_bodily_54 rfl ?_
    refine s_goto 59 dX12_bodily_55 rfl ?_
    refine s_iret dX12_bodily_59 rfl rfl ?_
    first | exact ret_t (hb.mp (by assumption)) (hye hC I1 hE) | exact ret_f (fun z => absurd (hb.mpr z) (by assumption)) (hye hC I1 hE)
  refine s_aload_n 13 dX12_bodily_12 rfl rfl ?_
  refine s_iconst 14 dX12_bodily_13 rfl ?_
  refine s_callV0 (M' := M_X12_no) (as := [_]) 17 dX12_bodily_14 rfl cw_X12_193 rfl rfl sh_138 rfl (by decide) (Nat.le_of_ble_eq_true rfl) (Nat.le_of_ble_eq_true rfl) (Nat.le_of_ble_eq_true rfl) (Nat.le_of_ble_eq_true rfl) ⟨rfl, rfl, rfl⟩ ?_
  refine c_X12_no (by decide) ?_
  first | rw [show up (up (up I 138 0 0) 138 11 0) 138 11 1 = gd I 1 from gd_no] | rw [show up (up (up I 138 0 0) 138 11 0) 138 11 2 = gd I 2 from gd_no]
  refine s_iret dX12_bodily_17 rfl rfl ?_
  exact hno (by assumption)
set_option maxHeartbeats 4000000 in
theorem c_X12_can {E : ET} {I : MI} {L : ML} {R : MR} {Q : Option AV → MI → ML → MR → Prop} {r s : F1} {a : List Int} {HP : Prop} {i : Int} (hT : Topo R) (er : I 141 = r) (es : I 143 = s) (erd : I 138 30 = -1) (ehp : I 138 14 = bI HP) (hr : HP → SOk r s a) (hi : -2147483648 ≤ i ∧ i ≤ 2147483647) (h : ∀ I', Eqo MS (gd I (pick (HP ∧ 0 ≤ i ∧ i < 7) 0 1)) I' → Q (some (vi (pick (HP ∧ 0 ≤ i ∧ i < 7) (bI (Can r (-1) (bgF r (r 2) s) (clF r (r 2) s) (sqF r (r 2) s) (Ons r s i))) (-1)))) I' L R) : CT E M_X12_can 161 yX12_can [(vr (138)), (vi (i))] I L R Q := by
  refine CT_of rfl rfl (fun h => by cases h) (Nat.le_of_ble_eq_true rfl) (fun X => ?_)
  show V X _ z0 0 [some (vr (138)), some (vi (i))] [] I L R _
  have hno := (pick_spl h).1
  have hye := (pick_spl h).2
  have er1 : up (up I 138 0 0) 138 11 0 141 = r := (gd_n (by decide)).trans er
  have es1 : up (up I 138 0 0) 138 11 0 143 = s := (gd_n (by decide)).trans es
  have erd1 : up (up I 138 0 0) 138 11 0 138 30 = -1 := (gd_f (by decide)).trans erd
  have ehp1 : up (up I 138 0 0) 138 11 0 138 14 = bI HP := (gd_f (by decide)).trans ehp
  have hr1 : HP → WFr r := fun z => (hr z).1
  refine s_aload_n 1 dX12_can_0 rfl rfl ?_
  refine s_callV0 (M' := M_X12_good) (as := []) 4 dX12_can_1 rfl cw_X12_190 rfl rfl sh_138 rfl (by decide) (Nat.le_of_ble_eq_true rfl) (Nat.le_of_ble_eq_true rfl) (Nat.le_of_ble_eq_true rfl) (Nat.le_of_ble_eq_true rfl) ⟨rfl, rfl, rfl⟩ ?_
  refine c_X12_good ?_
  refine s_aload_n 5 dX12_can_4 rfl rfl ?_
  refine s_iload_n 6 dX12_can_5 rfl rfl ?_
  refine s_callV0 (M' := M_X12_isPlayer) (as := [_]) 9 dX12_can_6 rfl cw_X12_348 rfl rfl sh_138 rfl (by decide) (Nat.le_of_ble_eq_true rfl) (Nat.le_of_ble_eq_true rfl) (Nat.le_of_ble_eq_true rfl) (Nat.le_of_ble_eq_true rfl) ⟨rfl, rfl, rfl⟩ ?_
  refine c_X12_isPlayer ehp1 (by omega) ?_
  refine s_ifb_ne 18 12 dX12_can_9 rfl rfl (fun h_9 => ?_) (fun h_9 => ?_)
  · skip
    refine s_aload_n 19 dX12_can_18 rfl rfl ?_
    refine s_aload_n 20 dX12_can_19 rfl rfl ?_
    refine s_getR 23 dX12_can_20 rfl fl_X12_26 (fun _ _ _ _ => rfl) (T_X12_st hT) sh_138 (Nat.le_of_ble_eq_true rfl) ?_
    refine s_callV0 (M' := M_X12_layTime) (as := [_]) 26 dX12_can_23 rfl cw_X12_305 rfl rfl sh_138 rfl (by decide) (Nat.le_of_ble_eq_true rfl) (Nat.le_of_ble_eq_true rfl) (Nat.le_of_ble_eq_true rfl) (Nat.le_of_ble_eq_true rfl) ⟨rfl, rfl, rfl⟩ ?_
    have hC : HP ∧ 0 ≤ i ∧ i < 7 := by assumption
    have hP := hC.1
    have e0 := (hr hP).1.1
    refine c_X12_layTime hT er1 (hr hP).1 rfl sh_143 (by decide) (by decide) (by decide) es1 (hr hP).p (fun I1 hL => ?_)
    have er : I1 141 = r := (hL.1 141 (by decide)).trans er1
    have es2 : I1 143 = s := (hL.1 143 (by decide)).trans es1
    have erd2 : I1 138 30 = -1 := (congrFun (hL.1 138 (by decide)) 30).trans erd1
    have hE : Eqo MS (gd I 0) I1 := hL.1.mo (by decide)
    obtain ⟨q1, q2⟩ := hL.rep (hr hP).1 (hr hP).p (by omega)
    refine s_aload_n 27 dX12_can_26 rfl rfl ?_
    refine s_aload_n 28 dX12_can_27 rfl rfl ?_
    refine s_iload_n 29 dX12_can_28 rfl rfl ?_
    refine s_callV0 (M' := M_X12_onsOfPlayer) (as := [_]) 32 dX12_can_29 rfl cw_X12_345 rfl rfl sh_138 rfl (by decide) (Nat.le_of_ble_eq_true rfl) (Nat.le_of_ble_eq_true rfl) (Nat.le_of_ble_eq_true rfl) (Nat.le_of_ble_eq_true rfl) ⟨rfl, rfl, rfl⟩ ?_
    refine c_X12_onsOfPlayer hT er es2 (hr hP).1 (hr hP).2.2.2.1 (by omega) ?_
    refine s_callV0 (M' := M_X12_canHave) (as := [_]) 35 dX12_can_32 rfl cw_X12_351 rfl rfl sh_138 rfl (by decide) (Nat.le_of_ble_eq_true rfl) (Nat.le_of_ble_eq_true rfl) (Nat.le_of_ble_eq_true rfl) (Nat.le_of_ble_eq_true rfl) ⟨rfl, rfl, rfl⟩ ?_
    refine c_X12_canHave hT er erd2 rfl rfl rfl (hr hP).1 q1 q2 ?_
    have hb := hL.can (rd := -1) (S' := Ons r s i) (hr hP).1 (fun k q1 q2 => has_Ons (hr hP).1 ⟨q1, q2⟩)
    refine s_ifb_eq 42 38 dX12_can_35 rfl rfl (fun h_35 => ?_) (fun h_35 => ?_)
    · skip
      refine s_iconst 43 dX12_can_42 rfl ?_
      refine s_iret dX12_can_43 rfl rfl ?_
      first | exact ret_t (hb.mp (by assumption)) (hye hC I1 hE) | exact ret_f (fun z => absurd (hb.mpr z) (by assumption)) (hye hC I1 hE)
    refine s_iconst 39 dX12_can_38 rfl ?_
    refine s_goto 43 dX12_can_39 rfl ?_
    refine s_iret dX12_can_43 rfl rfl ?_
    first | exact ret_t (hb.mp (by assumption)) (hye hC I1 hE) | exact ret_f (fun z => absurd (hb.mpr z) (by assumption)) (hye hC I1 hE)
  refine s_aload_n 13 dX12_can_12 rfl rfl ?_
  refine s_iconst 14 dX12_can_13 rfl ?_
  refine s_callV0 (M' := M_X12_no) (as := [_]) 17 dX12_can_14 rfl cw_X12_193 rfl rfl sh_138 rfl (by decide) (Nat.le_of_ble_eq_true rfl) (Nat.le_of_ble_eq_true rfl) (Nat.le_of_ble_eq_true rfl) (Nat.le_of_ble_eq_true rfl) ⟨rfl, rfl, rfl⟩ ?_
  refine c_X12_no (by decide) ?_
  first | rw [show up (up (up I 138 0 0) 138 11 0) 138 11 1 = gd I 1 from gd_no] | rw [show up (up (up I 138 0 0) 138 11 0) 138 11 2 = gd I 2 from gd_no]
  refine s_iret dX12_can_17 rfl rfl ?_
  exact hno (by assumption)
set_option maxHeartbeats 4000000 in
theorem c_X12_could {E : ET} {I : MI} {L : ML} {R : MR} {Q : Option AV → MI → ML → MR → Prop} {r s : F1} {a : List Int} {HP : Prop} {i : Int} (hT : Topo R) (er : I 141 = r) (es : I 143 = s) (erd : I 138 30 = -1) (ehp : I 138 14 = bI HP) (hr : HP → SOk r s a) (hi : -2147483648 ≤ i ∧ i ≤ 2147483647) (h : ∀ I', Eqo MS (gd I (pick HP (pick (0 ≤ i ∧ i ≤ allF (r 4)) 0 2) 1)) I' → Q (some (vi (pick HP (pick (0 ≤ i ∧ i ≤ allF (r 4)) (bI (MayP r (-1) (r 2) s (s 12) i)) (-1)) (-1)))) I' L R) : CT E M_X12_could 161 yX12_could [(vr (138)), (vi (i))] I L R Q := by
  refine CT_of rfl rfl (fun h => by cases h) (Nat.le_of_ble_eq_true rfl) (fun X => ?_)
  show V X _ z0 0 [some (vr (138)), some (vi (i))] [] I L R _
  have er1 : up (up I 138 0 0) 138 11 0 141 = r := (gd_n (by decide)).trans er
  have es1 : up (up I 138 0 0) 138 11 0 143 = s := (gd_n (by decide)).trans es
  have erd1 : up (up I 138 0 0) 138 11 0 138 30 = -1 := (gd_f (by decide)).trans erd
  have ehp1 : up (up I 138 0 0) 138 11 0 138 14 = bI HP := (gd_f (by decide)).trans ehp
  by_cases hP : HP
  · have e0 := (hr hP).1.1
    have ea := allF_7 (n := r 4) (by omega)
    rw [pick_t hP, pick_t hP] at h
    refine s_aload_n 1 dX12_could_0 rfl rfl ?_
    refine s_callV0 (M' := M_X12_good) (as := []) 4 dX12_could_1 rfl cw_X12_190 rfl rfl sh_138 rfl (by decide) (Nat.le_of_ble_eq_true rfl) (Nat.le_of_ble_eq_true rfl) (Nat.le_of_ble_eq_true rfl) (Nat.le_of_ble_eq_true rfl) ⟨rfl, rfl, rfl⟩ ?_
    refine c_X12_good ?_
    refine s_aload_n 5 dX12_could_4 rfl rfl ?_
    refine s_getI 8 dX12_could_5 rfl fl_X12_203 (fun _ _ _ _ => rfl) sh_138 (Nat.le_of_ble_eq_true rfl) (fun r_5 => ?_)
    rw [ehp1, bI_t hP]
    refine s_if_ne 17 11 dX12_could_8 rfl rfl (by first | omega | exact bI_r _ | exact iI_r _) (fun h_8 => ?_) (fun h_8 => by exfalso; omega)
    refine s_iload_n 18 dX12_could_17 rfl rfl ?_
    refine s_iconst 19 dX12_could_18 rfl ?_
    refine s_aload_n 20 dX12_could_19 rfl rfl ?_
    refine s_callV0 (M' := M_X12_allParts) (as := []) 23 dX12_could_20 rfl cw_X12_354 rfl rfl sh_138 rfl (by decide) (Nat.le_of_ble_eq_true rfl) (Nat.le_of_ble_eq_true rfl) (Nat.le_of_ble_eq_true rfl) (Nat.le_of_ble_eq_true rfl) ⟨rfl, rfl, rfl⟩ ?_
    refine c_X12_allParts hT er1 ?_
    refine s_callS0 (M' := M_X12_within) (as := [_, _, _]) 26 dX12_could_23 rfl cw_X12_174 rfl rfl (Nat.le_of_ble_eq_true rfl) (Nat.le_of_ble_eq_true rfl) (Nat.le_of_ble_eq_true rfl) ⟨rfl, rfl, rfl⟩ ?_
    refine c_X12_within (by omega) (by omega) (by omega) ?_
    refine s_ifb_ne 35 29 dX12_could_26 rfl rfl (fun h_26 => ?_) (fun h_26 => ?_)
    · skip
      refine s_aload_n 36 dX12_could_35 rfl rfl ?_
      refine s_aload_n 37 dX12_could_36 rfl rfl ?_
      refine s_getR 40 dX12_could_37 rfl fl_X12_26 (fun _ _ _ _ => rfl) (T_X12_st hT) sh_138 (Nat.le_of_ble_eq_true rfl) ?_
      refine s_callV0 (M' := M_X12_layTime) (as := [_]) 43 dX12_could_40 rfl cw_X12_305 rfl rfl sh_138 rfl (by decide) (Nat.le_of_ble_eq_true rfl) (Nat.le_of_ble_eq_true rfl) (Nat.le_of_ble_eq_true rfl) (Nat.le_of_ble_eq_true rfl) ⟨rfl, rfl, rfl⟩ ?_
      have hC : 0 ≤ i ∧ i ≤ allF (r 4) := by assumption
      rw [pick_t hC, pick_t hC] at h
      refine c_X12_layTime hT er1 (hr hP).1 rfl sh_143 (by decide) (by decide) (by decide) es1 (hr hP).p (fun I1 hL => ?_)
      have er : I1 141 = r := (hL.1 141 (by decide)).trans er1
      have es2 : I1 143 = s := (hL.1 143 (by decide)).trans es1
      have erd2 : I1 138 30 = -1 := (congrFun (hL.1 138 (by decide)) 30).trans erd1
      have hE : Eqo MS (gd I 0) I1 := hL.1.mo (by decide)
      obtain ⟨q1, q2⟩ := hL.rep (hr hP).1 (hr hP).p (by omega)
      refine s_aload_n 44 dX12_could_43 rfl rfl ?_
      refine s_aload_n 45 dX12_could_44 rfl rfl ?_
      refine s_iload_n 46 dX12_could_45 rfl rfl ?_
      refine s_aload_n 47 dX12_could_46 rfl rfl ?_
      refine s_getR 50 dX12_could_47 rfl fl_X12_26 (fun _ _ _ _ => rfl) (T_X12_st hT) sh_138 (Nat.le_of_ble_eq_true rfl) ?_
      refine s_bipush 52 dX12_could_50 rfl (by decide) ?_
      refine s_iald 53 dX12_could_52 rfl sh_143 (Nat.le_of_ble_eq_true rfl) (by omega) (by omega) (fun r_52 => ?_)
      rw [es2] at r_52 ⊢
      refine s_callV0 (M' := M_X12_onsOf) (as := [_, _]) 56 dX12_could_53 rfl cw_X12_342 rfl rfl sh_138 rfl (by decide) (Nat.le_of_ble_eq_true rfl) (Nat.le_of_ble_eq_true rfl) (Nat.le_of_ble_eq_true rfl) (Nat.le_of_ble_eq_true rfl) ⟨rfl, rfl, rfl⟩ ?_
      refine c_X12_onsOf hT er (hr hP).1 ?_
      refine s_callV0 (M' := M_X12_canHave) (as := [_]) 59 dX12_could_56 rfl cw_X12_351 rfl rfl sh_138 rfl (by decide) (Nat.le_of_ble_eq_true rfl) (Nat.le_of_ble_eq_true rfl) (Nat.le_of_ble_eq_true rfl) (Nat.le_of_ble_eq_true rfl) ⟨rfl, rfl, rfl⟩ ?_
      refine c_X12_canHave hT er erd2 rfl rfl rfl (hr hP).1 q1 q2 ?_
      have hb := hL.can (rd := -1) (S := fun k => hasI (setOf (fun k => hasI i (r (54 + 7 * k + 0)) ∧ ¬ hasI (s 12) k) (r 7).toNat) k) (S' := fun k => hasI i (r (54 + 7 * k + 0)) ∧ ¬ hasI (s 12) k) (hr hP).1 (fun k q1 q2 => by rw [has_setOf (by omega) (by omega)]; exact ⟨fun z => z.2, fun z => ⟨by omega, z⟩⟩)
      refine s_ifb_eq 66 62 dX12_could_59 rfl rfl (fun h_59 => ?_) (fun h_59 => ?_)
      · skip
        refine s_iconst 67 dX12_could_66 rfl ?_
        refine s_iret dX12_could_67 rfl rfl ?_
        first | exact ret_t (hb.mp (by assumption)) (h I1 hE) | exact ret_f (fun z => absurd (hb.mpr z) (by assumption)) (h I1 hE)
      refine s_iconst 63 dX12_could_62 rfl ?_
      refine s_goto 67 dX12_could_63 rfl ?_
      refine s_iret dX12_could_67 rfl rfl ?_
      first | exact ret_t (hb.mp (by assumption)) (h I1 hE) | exact ret_f (fun z => absurd (hb.mpr z) (by assumption)) (h I1 hE)
    refine s_aload_n 30 dX12_could_29 rfl rfl ?_
    refine s_iconst 31 dX12_could_30 rfl ?_
    refine s_callV0 (M' := M_X12_no) (as := [_]) 34 dX12_could_31 rfl cw_X12_193 rfl rfl sh_138 rfl (by decide) (Nat.le_of_ble_eq_true rfl) (Nat.le_of_ble_eq_true rfl) (Nat.le_of_ble_eq_true rfl) (Nat.le_of_ble_eq_true rfl) ⟨rfl, rfl, rfl⟩ ?_
    refine c_X12_no (by decide) ?_
    first | rw [show up (up (up I 138 0 0) 138 11 0) 138 11 1 = gd I 1 from gd_no] | rw [show up (up (up I 138 0 0) 138 11 0) 138 11 2 = gd I 2 from gd_no]
    refine s_iret dX12_could_34 rfl rfl ?_
    rw [pick_f (by assumption), pick_f (by assumption)] at h
    exact h _ Eqo.rf
  · rw [pick_f hP, pick_f hP] at h
    refine s_aload_n 1 dX12_could_0 rfl rfl ?_
    refine s_callV0 (M' := M_X12_good) (as := []) 4 dX12_could_1 rfl cw_X12_190 rfl rfl sh_138 rfl (by decide) (Nat.le_of_ble_eq_true rfl) (Nat.le_of_ble_eq_true rfl) (Nat.le_of_ble_eq_true rfl) (Nat.le_of_ble_eq_true rfl) ⟨rfl, rfl, rfl⟩ ?_
    refine c_X12_good ?_
    refine s_aload_n 5 dX12_could_4 rfl rfl ?_
    refine s_getI 8 dX12_could_5 rfl fl_X12_203 (fun _ _ _ _ => rfl) sh_138 (Nat.le_of_ble_eq_true rfl) (fun r_5 => ?_)
    rw [ehp1, bI_f hP]
    refine s_if_ne 17 11 dX12_could_8 rfl rfl (by first | omega | exact bI_r _ | exact iI_r _) (fun h_8 => by exfalso; exact absurd rfl h_8) (fun h_8 => ?_)
    refine s_aload_n 12 dX12_could_11 rfl rfl ?_
    refine s_iconst 13 dX12_could_12 rfl ?_
    refine s_callV0 (M' := M_X12_no) (as := [_]) 16 dX12_could_13 rfl cw_X12_193 rfl rfl sh_138 rfl (by decide) (Nat.le_of_ble_eq_true rfl) (Nat.le_of_ble_eq_true rfl) (Nat.le_of_ble_eq_true rfl) (Nat.le_of_ble_eq_true rfl) ⟨rfl, rfl, rfl⟩ ?_
    refine c_X12_no (by decide) ?_
    first | rw [show up (up (up I 138 0 0) 138 11 0) 138 11 1 = gd I 1 from gd_no] | rw [show up (up (up I 138 0 0) 138 11 0) 138 11 2 = gd I 2 from gd_no]
    refine s_iret dX12_could_16 rfl rfl ?_
    exact h _ Eqo.rf
