/-! what is asked for is there; what was seen, by the reference
-/
set_option maxHeartbeats 4000000 in
theorem c_X12_isPart {E : ET} {I : MI} {L : ML} {R : MR} {Q : Option AV → MI → ML → MR → Prop} {r : F1} {HP : Prop} {p : Int} (hT : Topo R) (er : I 141 = r) (ehp : I 138 14 = bI HP) (hr : HP → WFr r) (hp : -2147483648 ≤ p ∧ p ≤ 2147483647) (h : Q (some (vi (bI (HP ∧ 0 ≤ p ∧ p < r 4)))) I L R) : CT E M_X12_isPart 161 yX12_isPart [(vr (138)), (vi (p))] I L R Q := by
  refine CT_of rfl rfl (fun h => by cases h) (Nat.le_of_ble_eq_true rfl) (fun X => ?_)
  show V X _ z0 0 [some (vr (138)), some (vi (p))] [] I L R _
  by_cases hP : HP
  · have e0 := (hr hP).1
    refine s_aload_n 1 dX12_isPart_0 rfl rfl ?_
    refine s_getI 4 dX12_isPart_1 rfl fl_X12_203 (fun _ _ _ _ => rfl) sh_138 (Nat.le_of_ble_eq_true rfl) (fun r_1 => ?_)
    rw [ehp, bI_t hP]
    refine s_if_eq 27 7 dX12_isPart_4 rfl rfl (by first | omega | exact bI_r _ | exact iI_r _) (fun h_4 => by exfalso; omega) (fun h_4 => ?_)
    refine s_iload_n 8 dX12_isPart_7 rfl rfl ?_
    refine s_iconst 9 dX12_isPart_8 rfl ?_
    refine s_aload_n 10 dX12_isPart_9 rfl rfl ?_
    refine s_getR 13 dX12_isPart_10 rfl fl_X12_20 (fun _ _ _ _ => rfl) (T_X12_r hT) sh_138 (Nat.le_of_ble_eq_true rfl) ?_
    refine s_iconst 14 dX12_isPart_13 rfl ?_
    refine s_iald 15 dX12_isPart_14 rfl sh_141 (Nat.le_of_ble_eq_true rfl) (by omega) (by omega) (fun r_14 => ?_)
    rw [er] at r_14 ⊢
    refine s_iconst 16 dX12_isPart_15 rfl ?_
    refine s_isub 17 dX12_isPart_16 rfl ?_
    refine s_callS0 (M' := M_X12_within) (as := [_, _, _]) 20 dX12_isPart_17 rfl cw_X12_174 rfl rfl (Nat.le_of_ble_eq_true rfl) (Nat.le_of_ble_eq_true rfl) (Nat.le_of_ble_eq_true rfl) ⟨rfl, rfl, rfl⟩ ?_
    refine c_X12_within (by omega) (by omega) (by omega) ?_
    refine s_ifb_eq 27 23 dX12_isPart_20 rfl rfl (fun h_20 => ?_) (fun h_20 => ?_)
    · skip
      refine s_iconst 28 dX12_isPart_27 rfl ?_
      refine s_zret dX12_isPart_28 rfl (by first | omega | exact bI_b _) rfl ?_
      first | exact ret_t ⟨hP, by omega, by omega⟩ h | exact ret_f (fun z => by omega) h
    refine s_iconst 24 dX12_isPart_23 rfl ?_
    refine s_goto 28 dX12_isPart_24 rfl ?_
    refine s_zret dX12_isPart_28 rfl (by first | omega | exact bI_b _) rfl ?_
    first | exact ret_t ⟨hP, by omega, by omega⟩ h | exact ret_f (fun z => by omega) h
  · skip
    refine s_aload_n 1 dX12_isPart_0 rfl rfl ?_
    refine s_getI 4 dX12_isPart_1 rfl fl_X12_203 (fun _ _ _ _ => rfl) sh_138 (Nat.le_of_ble_eq_true rfl) (fun r_1 => ?_)
    rw [ehp, bI_f hP]
    refine s_if_eq 27 7 dX12_isPart_4 rfl rfl (by first | omega | exact bI_r _ | exact iI_r _) (fun h_4 => ?_) (fun h_4 => by exfalso; omega)
    refine s_iconst 28 dX12_isPart_27 rfl ?_
    refine s_zret dX12_isPart_28 rfl (by first | omega | exact bI_b _) rfl ?_
    exact ret_f (fun z => hP z.1) h
set_option maxHeartbeats 4000000 in
theorem c_X12_isScene {E : ET} {I : MI} {L : ML} {R : MR} {Q : Option AV → MI → ML → MR → Prop} {r : F1} {HP : Prop} {p : Int} (hT : Topo R) (er : I 141 = r) (ehp : I 138 14 = bI HP) (hr : HP → WFr r) (hp : -2147483648 ≤ p ∧ p ≤ 2147483647) (h : Q (some (vi (bI (HP ∧ 0 ≤ p ∧ p < r 5)))) I L R) : CT E M_X12_isScene 161 yX12_isScene [(vr (138)), (vi (p))] I L R Q := by
  refine CT_of rfl rfl (fun h => by cases h) (Nat.le_of_ble_eq_true rfl) (fun X => ?_)
  show V X _ z0 0 [some (vr (138)), some (vi (p))] [] I L R _
  by_cases hP : HP
  · have e0 := (hr hP).1
    refine s_aload_n 1 dX12_isScene_0 rfl rfl ?_
    refine s_getI 4 dX12_isScene_1 rfl fl_X12_203 (fun _ _ _ _ => rfl) sh_138 (Nat.le_of_ble_eq_true rfl) (fun r_1 => ?_)
    rw [ehp, bI_t hP]
    refine s_if_eq 27 7 dX12_isScene_4 rfl rfl (by first | omega | exact bI_r _ | exact iI_r _) (fun h_4 => by exfalso; omega) (fun h_4 => ?_)
    refine s_iload_n 8 dX12_isScene_7 rfl rfl ?_
    refine s_iconst 9 dX12_isScene_8 rfl ?_
    refine s_aload_n 10 dX12_isScene_9 rfl rfl ?_
    refine s_getR 13 dX12_isScene_10 rfl fl_X12_20 (fun _ _ _ _ => rfl) (T_X12_r hT) sh_138 (Nat.le_of_ble_eq_true rfl) ?_
    refine s_iconst 14 dX12_isScene_13 rfl ?_
    refine s_iald 15 dX12_isScene_14 rfl sh_141 (Nat.le_of_ble_eq_true rfl) (by omega) (by omega) (fun r_14 => ?_)
    rw [er] at r_14 ⊢
    refine s_iconst 16 dX12_isScene_15 rfl ?_
    refine s_isub 17 dX12_isScene_16 rfl ?_
    refine s_callS0 (M' := M_X12_within) (as := [_, _, _]) 20 dX12_isScene_17 rfl cw_X12_174 rfl rfl (Nat.le_of_ble_eq_true rfl) (Nat.le_of_ble_eq_true rfl) (Nat.le_of_ble_eq_true rfl) ⟨rfl, rfl, rfl⟩ ?_
    refine c_X12_within (by omega) (by omega) (by omega) ?_
    refine s_ifb_eq 27 23 dX12_isScene_20 rfl rfl (fun h_20 => ?_) (fun h_20 => ?_)
    · skip
      refine s_iconst 28 dX12_isScene_27 rfl ?_
      refine s_zret dX12_isScene_28 rfl (by first | omega | exact bI_b _) rfl ?_
      first | exact ret_t ⟨hP, by omega, by omega⟩ h | exact ret_f (fun z => by omega) h
    refine s_iconst 24 dX12_isScene_23 rfl ?_
    refine s_goto 28 dX12_isScene_24 rfl ?_
    refine s_zret dX12_isScene_28 rfl (by first | omega | exact bI_b _) rfl ?_
    first | exact ret_t ⟨hP, by omega, by omega⟩ h | exact ret_f (fun z => by omega) h
  · skip
    refine s_aload_n 1 dX12_isScene_0 rfl rfl ?_
    refine s_getI 4 dX12_isScene_1 rfl fl_X12_203 (fun _ _ _ _ => rfl) sh_138 (Nat.le_of_ble_eq_true rfl) (fun r_1 => ?_)
    rw [ehp, bI_f hP]
    refine s_if_eq 27 7 dX12_isScene_4 rfl rfl (by first | omega | exact bI_r _ | exact iI_r _) (fun h_4 => ?_) (fun h_4 => by exfalso; omega)
    refine s_iconst 28 dX12_isScene_27 rfl ?_
    refine s_zret dX12_isScene_28 rfl (by first | omega | exact bI_b _) rfl ?_
    exact ret_f (fun z => hP z.1) h
set_option maxHeartbeats 4000000 in
theorem c_X12_isOn {E : ET} {I : MI} {L : ML} {R : MR} {Q : Option AV → MI → ML → MR → Prop} {r : F1} {HP : Prop} {p : Int} (hT : Topo R) (er : I 141 = r) (ehp : I 138 14 = bI HP) (hr : HP → WFr r) (hp : -2147483648 ≤ p ∧ p ≤ 2147483647) (h : Q (some (vi (bI (HP ∧ 0 ≤ p ∧ p < r 7)))) I L R) : CT E M_X12_isOn 161 yX12_isOn [(vr (138)), (vi (p))] I L R Q := by
  refine CT_of rfl rfl (fun h => by cases h) (Nat.le_of_ble_eq_true rfl) (fun X => ?_)
  show V X _ z0 0 [some (vr (138)), some (vi (p))] [] I L R _
  by_cases hP : HP
  · have e0 := (hr hP).1
    refine s_aload_n 1 dX12_isOn_0 rfl rfl ?_
    refine s_getI 4 dX12_isOn_1 rfl fl_X12_203 (fun _ _ _ _ => rfl) sh_138 (Nat.le_of_ble_eq_true rfl) (fun r_1 => ?_)
    rw [ehp, bI_t hP]
    refine s_if_eq 28 7 dX12_isOn_4 rfl rfl (by first | omega | exact bI_r _ | exact iI_r _) (fun h_4 => by exfalso; omega) (fun h_4 => ?_)
    refine s_iload_n 8 dX12_isOn_7 rfl rfl ?_
    refine s_iconst 9 dX12_isOn_8 rfl ?_
    refine s_aload_n 10 dX12_isOn_9 rfl rfl ?_
    refine s_getR 13 dX12_isOn_10 rfl fl_X12_20 (fun _ _ _ _ => rfl) (T_X12_r hT) sh_138 (Nat.le_of_ble_eq_true rfl) ?_
    refine s_bipush 15 dX12_isOn_13 rfl (by decide) ?_
    refine s_iald 16 dX12_isOn_15 rfl sh_141 (Nat.le_of_ble_eq_true rfl) (by omega) (by omega) (fun r_15 => ?_)
    rw [er] at r_15 ⊢
    refine s_iconst 17 dX12_isOn_16 rfl ?_
    refine s_isub 18 dX12_isOn_17 rfl ?_
    refine s_callS0 (M' := M_X12_within) (as := [_, _, _]) 21 dX12_isOn_18 rfl cw_X12_174 rfl rfl (Nat.le_of_ble_eq_true rfl) (Nat.le_of_ble_eq_true rfl) (Nat.le_of_ble_eq_true rfl) ⟨rfl, rfl, rfl⟩ ?_
    refine c_X12_within (by omega) (by omega) (by omega) ?_
    refine s_ifb_eq 28 24 dX12_isOn_21 rfl rfl (fun h_21 => ?_) (fun h_21 => ?_)
    · skip
      refine s_iconst 29 dX12_isOn_28 rfl ?_
      refine s_zret dX12_isOn_29 rfl (by first | omega | exact bI_b _) rfl ?_
      first | exact ret_t ⟨hP, by omega, by omega⟩ h | exact ret_f (fun z => by omega) h
    refine s_iconst 25 dX12_isOn_24 rfl ?_
    refine s_goto 29 dX12_isOn_25 rfl ?_
    refine s_zret dX12_isOn_29 rfl (by first | omega | exact bI_b _) rfl ?_
    first | exact ret_t ⟨hP, by omega, by omega⟩ h | exact ret_f (fun z => by omega) h
  · skip
    refine s_aload_n 1 dX12_isOn_0 rfl rfl ?_
    refine s_getI 4 dX12_isOn_1 rfl fl_X12_203 (fun _ _ _ _ => rfl) sh_138 (Nat.le_of_ble_eq_true rfl) (fun r_1 => ?_)
    rw [ehp, bI_f hP]
    refine s_if_eq 28 7 dX12_isOn_4 rfl rfl (by first | omega | exact bI_r _ | exact iI_r _) (fun h_4 => ?_) (fun h_4 => by exfalso; omega)
    refine s_iconst 29 dX12_isOn_28 rfl ?_
    refine s_zret dX12_isOn_29 rfl (by first | omega | exact bI_b _) rfl ?_
    exact ret_f (fun z => hP z.1) h
set_option maxHeartbeats 4000000 in
theorem c_X12_isSaw {E : ET} {I : MI} {L : ML} {R : MR} {Q : Option AV → MI → ML → MR → Prop} {r : F1} {HP : Prop} {p : Int} (hT : Topo R) (er : I 141 = r) (ehp : I 138 14 = bI HP) (hr : HP → WFr r) (hp : -2147483648 ≤ p ∧ p ≤ 2147483647) (h : Q (some (vi (bI (HP ∧ 0 ≤ p ∧ p < r 8)))) I L R) : CT E M_X12_isSaw 161 yX12_isSaw [(vr (138)), (vi (p))] I L R Q := by
  refine CT_of rfl rfl (fun h => by cases h) (Nat.le_of_ble_eq_true rfl) (fun X => ?_)
  show V X _ z0 0 [some (vr (138)), some (vi (p))] [] I L R _
  by_cases hP : HP
  · have e0 := (hr hP).1
    refine s_aload_n 1 dX12_isSaw_0 rfl rfl ?_
    refine s_getI 4 dX12_isSaw_1 rfl fl_X12_203 (fun _ _ _ _ => rfl) sh_138 (Nat.le_of_ble_eq_true rfl) (fun r_1 => ?_)
    rw [ehp, bI_t hP]
    refine s_if_eq 28 7 dX12_isSaw_4 rfl rfl (by first | omega | exact bI_r _ | exact iI_r _) (fun h_4 => by exfalso; omega) (fun h_4 => ?_)
    refine s_iload_n 8 dX12_isSaw_7 rfl rfl ?_
    refine s_iconst 9 dX12_isSaw_8 rfl ?_
    refine s_aload_n 10 dX12_isSaw_9 rfl rfl ?_
    refine s_getR 13 dX12_isSaw_10 rfl fl_X12_20 (fun _ _ _ _ => rfl) (T_X12_r hT) sh_138 (Nat.le_of_ble_eq_true rfl) ?_
    refine s_bipush 15 dX12_isSaw_13 rfl (by decide) ?_
    refine s_iald 16 dX12_isSaw_15 rfl sh_141 (Nat.le_of_ble_eq_true rfl) (by omega) (by omega) (fun r_15 => ?_)
    rw [er] at r_15 ⊢
    refine s_iconst 17 dX12_isSaw_16 rfl ?_
    refine s_isub 18 dX12_isSaw_17 rfl ?_
    refine s_callS0 (M' := M_X12_within) (as := [_, _, _]) 21 dX12_isSaw_18 rfl cw_X12_174 rfl rfl (Nat.le_of_ble_eq_true rfl) (Nat.le_of_ble_eq_true rfl) (Nat.le_of_ble_eq_true rfl) ⟨rfl, rfl, rfl⟩ ?_
    refine c_X12_within (by omega) (by omega) (by omega) ?_
    refine s_ifb_eq 28 24 dX12_isSaw_21 rfl rfl (fun h_21 => ?_) (fun h_21 => ?_)
    · skip
      refine s_iconst 29 dX12_isSaw_28 rfl ?_
      refine s_zret dX12_isSaw_29 rfl (by first | omega | exact bI_b _) rfl ?_
      first | exact ret_t ⟨hP, by omega, by omega⟩ h | exact ret_f (fun z => by omega) h
    refine s_iconst 25 dX12_isSaw_24 rfl ?_
    refine s_goto 29 dX12_isSaw_25 rfl ?_
    refine s_zret dX12_isSaw_29 rfl (by first | omega | exact bI_b _) rfl ?_
    first | exact ret_t ⟨hP, by omega, by omega⟩ h | exact ret_f (fun z => by omega) h
  · skip
    refine s_aload_n 1 dX12_isSaw_0 rfl rfl ?_
    refine s_getI 4 dX12_isSaw_1 rfl fl_X12_203 (fun _ _ _ _ => rfl) sh_138 (Nat.le_of_ble_eq_true rfl) (fun r_1 => ?_)
    rw [ehp, bI_f hP]
    refine s_if_eq 28 7 dX12_isSaw_4 rfl rfl (by first | omega | exact bI_r _ | exact iI_r _) (fun h_4 => ?_) (fun h_4 => by exfalso; omega)
    refine s_iconst 29 dX12_isSaw_28 rfl ?_
    refine s_zret dX12_isSaw_29 rfl (by first | omega | exact bI_b _) rfl ?_
    exact ret_f (fun z => hP z.1) h
set_option maxHeartbeats 4000000 in
theorem c_X12_isPlayer {E : ET} {I : MI} {L : ML} {R : MR} {Q : Option AV → MI → ML → MR → Prop} {HP : Prop} {p : Int} (ehp : I 138 14 = bI HP) (hp : -2147483648 ≤ p ∧ p ≤ 2147483647) (h : Q (some (vi (bI (HP ∧ 0 ≤ p ∧ p < 7)))) I L R) : CT E M_X12_isPlayer 161 yX12_isPlayer [(vr (138)), (vi (p))] I L R Q := by
  refine CT_of rfl rfl (fun h => by cases h) (Nat.le_of_ble_eq_true rfl) (fun X => ?_)
  show V X _ z0 0 [some (vr (138)), some (vi (p))] [] I L R _
  refine s_aload_n 1 dX12_isPlayer_0 rfl rfl ?_
  refine s_getI 4 dX12_isPlayer_1 rfl fl_X12_203 (fun _ _ _ _ => rfl) sh_138 (Nat.le_of_ble_eq_true rfl) (fun r_1 => ?_)
  rw [ehp]
  refine s_ifb_eq 21 7 dX12_isPlayer_4 rfl rfl (fun h_4 => ?_) (fun h_4 => ?_)
  · skip
    refine s_iconst 22 dX12_isPlayer_21 rfl ?_
    refine s_zret dX12_isPlayer_22 rfl (by first | omega | exact bI_b _) rfl ?_
    first | exact ret_t ⟨by assumption, by omega, by omega⟩ h | exact ret_f (fun z => by omega) h | exact ret_f (fun z => absurd z.1 (by assumption)) h
  refine s_iload_n 8 dX12_isPlayer_7 rfl rfl ?_
  refine s_iconst 9 dX12_isPlayer_8 rfl ?_
  refine s_bipush 11 dX12_isPlayer_9 rfl (by decide) ?_
  refine s_callS0 (M' := M_X12_within) (as := [_, _, _]) 14 dX12_isPlayer_11 rfl cw_X12_174 rfl rfl (Nat.le_of_ble_eq_true rfl) (Nat.le_of_ble_eq_true rfl) (Nat.le_of_ble_eq_true rfl) ⟨rfl, rfl, rfl⟩ ?_
  refine c_X12_within (by omega) (by omega) (by omega) ?_
  refine s_ifb_eq 21 17 dX12_isPlayer_14 rfl rfl (fun h_14 => ?_) (fun h_14 => ?_)
  · skip
    refine s_iconst 22 dX12_isPlayer_21 rfl ?_
    refine s_zret dX12_isPlayer_22 rfl (by first | omega | exact bI_b _) rfl ?_
    first | exact ret_t ⟨by assumption, by omega, by omega⟩ h | exact ret_f (fun z => by omega) h | exact ret_f (fun z => absurd z.1 (by assumption)) h
  refine s_iconst 18 dX12_isPlayer_17 rfl ?_
  refine s_goto 22 dX12_isPlayer_18 rfl ?_
  refine s_zret dX12_isPlayer_22 rfl (by first | omega | exact bI_b _) rfl ?_
  first | exact ret_t ⟨by assumption, by omega, by omega⟩ h | exact ret_f (fun z => by omega) h | exact ret_f (fun z => absurd z.1 (by assumption)) h
set_option maxHeartbeats 4000000 in
theorem c_X12_sawOf {E : ET} {I : MI} {L : ML} {R : MR} {Q : Option AV → MI → ML → MR → Prop} {r : F1} {k w : Int} (hT : Topo R) (e1 : I 141 = r) (hk : 0 ≤ k ∧ k < 7) (hw : 0 ≤ w ∧ w < 3) (h : Q (some (vi (r (152 + 3 * k + w)))) I L R) : CT E M_X12_sawOf 161 yX12_sawOf [(vr (138)), (vi (k)), (vi (w))] I L R Q := by
  refine CT_of rfl rfl (fun h => by cases h) (Nat.le_of_ble_eq_true rfl) (fun X => ?_)
  show V X _ z0 0 [some (vr (138)), some (vi (k)), some (vi (w))] [] I L R _
  subst e1
  refine s_aload_n 1 dX12_sawOf_0 rfl rfl ?_
  refine s_getR 4 dX12_sawOf_1 rfl fl_X12_20 (fun _ _ _ _ => rfl) (T_X12_r hT) sh_138 (Nat.le_of_ble_eq_true rfl) ?_
  refine s_sipush 7 dX12_sawOf_4 rfl (by decide) ?_
  refine s_iconst 8 dX12_sawOf_7 rfl ?_
  refine s_iload_n 9 dX12_sawOf_8 rfl rfl ?_
  refine s_imul 10 dX12_sawOf_9 rfl ?_
  refine s_iadd 11 dX12_sawOf_10 rfl ?_
  refine s_iload_n 12 dX12_sawOf_11 rfl rfl ?_
  refine s_iadd 13 dX12_sawOf_12 rfl ?_
  refine s_iald 14 dX12_sawOf_13 rfl sh_141 (Nat.le_of_ble_eq_true rfl) (by omega) (by omega) (fun r_13 => ?_)
  refine s_iret dX12_sawOf_14 rfl rfl ?_
  exact h
/-- seen earlier, or at the same second with the smaller number -/
def ErP (r : F1) (w v : Int) : Prop := r (152 + 3 * w + 1) < r (152 + 3 * v + 1) ∨ (r (152 + 3 * w + 1) = r (152 + 3 * v + 1) ∧ w < v)
/-- the second may be the first then -/
def ThP (r : F1) (w v : Int) : Prop := r (152 + 3 * v + 1) - r (152 + 3 * w + 1) ≥ chF r (-1) (r (152 + 3 * w + 0)) (r (152 + 3 * v + 0)) + (if r (152 + 3 * w + 2) = r (152 + 3 * v + 2) then 0 else r 1)
theorem chF_b {r : F1} {rd p q : Int} (hr : WFr r) (hp : 0 ≤ p ∧ p < 7) (hq : 0 ≤ q ∧ q < 7) : 0 ≤ chF r rd p q ∧ chF r rd p q ≤ 300 := by
  have e1 := hr.2.1 p (by omega) (by omega)
  have e2 := hr.2.1 q (by omega) (by omega)
  have b1 := rdy_b (rd := rd) (p := q) ⟨e2.2.2.2.2.1, e2.2.2.2.2.2.1⟩
  have b2 := rdy_b (rd := rd) (p := p) ⟨e1.2.2.2.2.2.2.1, e1.2.2.2.2.2.2.2.1⟩
  have b3 := rdy_b (rd := rd) (p := q) ⟨e2.2.2.2.2.2.2.2.2.1, e2.2.2.2.2.2.2.2.2.2⟩
  unfold chF
  split
  · omega
  · split <;> (try split) <;> (try split) <;> omega
set_option maxHeartbeats 4000000 in
theorem c_X12_isEarlier {E : ET} {I : MI} {L : ML} {R : MR} {Q : Option AV → MI → ML → MR → Prop} {r : F1} {w v : Int} (hT : Topo R) (er : I 141 = r) (hr : WFr r) (hw : 0 ≤ w ∧ w < r 8) (hv : 0 ≤ v ∧ v < r 8) (h : Q (some (vi (bI (ErP r w v)))) I L R) : CT E M_X12_isEarlier 161 yX12_isEarlier [(vr (138)), (vi (w)), (vi (v))] I L R Q := by
  refine CT_of rfl rfl (fun h => by cases h) (Nat.le_of_ble_eq_true rfl) (fun X => ?_)
  show V X _ z0 0 [some (vr (138)), some (vi (w)), some (vi (v))] [] I L R _
  have e0 := hr.1
  have e1 := hr.2.2.2.2.1 w (by omega) (by omega)
  have e2 := hr.2.2.2.2.1 v (by omega) (by omega)
  refine s_aload_n 1 dX12_isEarlier_0 rfl rfl ?_
  refine s_iload_n 2 dX12_isEarlier_1 rfl rfl ?_
  refine s_iconst 3 dX12_isEarlier_2 rfl ?_
  refine s_callV0 (M' := M_X12_sawOf) (as := [_, _]) 6 dX12_isEarlier_3 rfl cw_X12_402 rfl rfl sh_138 rfl (by decide) (Nat.le_of_ble_eq_true rfl) (Nat.le_of_ble_eq_true rfl) (Nat.le_of_ble_eq_true rfl) (Nat.le_of_ble_eq_true rfl) ⟨rfl, rfl, rfl⟩ ?_
  refine c_X12_sawOf hT er (by omega) (by omega) ?_
  refine s_aload_n 7 dX12_isEarlier_6 rfl rfl ?_
  refine s_iload_n 8 dX12_isEarlier_7 rfl rfl ?_
  refine s_iconst 9 dX12_isEarlier_8 rfl ?_
  refine s_callV0 (M' := M_X12_sawOf) (as := [_, _]) 12 dX12_isEarlier_9 rfl cw_X12_402 rfl rfl sh_138 rfl (by decide) (Nat.le_of_ble_eq_true rfl) (Nat.le_of_ble_eq_true rfl) (Nat.le_of_ble_eq_true rfl) (Nat.le_of_ble_eq_true rfl) ⟨rfl, rfl, rfl⟩ ?_
  refine c_X12_sawOf hT er (by omega) (by omega) ?_
  refine s_icmp_lt 35 15 dX12_isEarlier_12 rfl rfl (by first | omega | exact bI_r _ | exact iI_r _) (by first | omega | exact bI_r _ | exact iI_r _) (fun h_12 => ?_) (fun h_12 => ?_)
  · skip
    refine s_iconst 36 dX12_isEarlier_35 rfl ?_
    refine s_goto 40 dX12_isEarlier_36 rfl ?_
    refine s_zret dX12_isEarlier_40 rfl (by first | omega | exact bI_b _) rfl ?_
    first | exact ret_t (Or.inl (by omega)) h | exact ret_t (Or.inr (by omega)) h | exact ret_f (fun z => by unfold ErP at z; omega) h
  refine s_aload_n 16 dX12_isEarlier_15 rfl rfl ?_
  refine s_iload_n 17 dX12_isEarlier_16 rfl rfl ?_
  refine s_iconst 18 dX12_isEarlier_17 rfl ?_
  refine s_callV0 (M' := M_X12_sawOf) (as := [_, _]) 21 dX12_isEarlier_18 rfl cw_X12_402 rfl rfl sh_138 rfl (by decide) (Nat.le_of_ble_eq_true rfl) (Nat.le_of_ble_eq_true rfl) (Nat.le_of_ble_eq_true rfl) (Nat.le_of_ble_eq_true rfl) ⟨rfl, rfl, rfl⟩ ?_
  refine c_X12_sawOf hT er (by omega) (by omega) ?_
  refine s_aload_n 22 dX12_isEarlier_21 rfl rfl ?_
  refine s_iload_n 23 dX12_isEarlier_22 rfl rfl ?_
  refine s_iconst 24 dX12_isEarlier_23 rfl ?_
  refine s_callV0 (M' := M_X12_sawOf) (as := [_, _]) 27 dX12_isEarlier_24 rfl cw_X12_402 rfl rfl sh_138 rfl (by decide) (Nat.le_of_ble_eq_true rfl) (Nat.le_of_ble_eq_true rfl) (Nat.le_of_ble_eq_true rfl) (Nat.le_of_ble_eq_true rfl) ⟨rfl, rfl, rfl⟩ ?_
  refine c_X12_sawOf hT er (by omega) (by omega) ?_
  refine s_icmp_ne 39 30 dX12_isEarlier_27 rfl rfl (by first | omega | exact bI_r _ | exact iI_r _) (by first | omega | exact bI_r _ | exact iI_r _) (fun h_27 => ?_) (fun h_27 => ?_)
  · skip
    refine s_iconst 40 dX12_isEarlier_39 rfl ?_
    refine s_zret dX12_isEarlier_40 rfl (by first | omega | exact bI_b _) rfl ?_
    first | exact ret_t (Or.inl (by omega)) h | exact ret_t (Or.inr (by omega)) h | exact ret_f (fun z => by unfold ErP at z; omega) h
  refine s_iload_n 31 dX12_isEarlier_30 rfl rfl ?_
  refine s_iload_n 32 dX12_isEarlier_31 rfl rfl ?_
  refine s_icmp_ge 39 35 dX12_isEarlier_32 rfl rfl (by first | omega | exact bI_r _ | exact iI_r _) (by first | omega | exact bI_r _ | exact iI_r _) (fun h_32 => ?_) (fun h_32 => ?_)
  · skip
    refine s_iconst 40 dX12_isEarlier_39 rfl ?_
    refine s_zret dX12_isEarlier_40 rfl (by first | omega | exact bI_b _) rfl ?_
    first | exact ret_t (Or.inl (by omega)) h | exact ret_t (Or.inr (by omega)) h | exact ret_f (fun z => by unfold ErP at z; omega) h
  refine s_iconst 36 dX12_isEarlier_35 rfl ?_
  refine s_goto 40 dX12_isEarlier_36 rfl ?_
  refine s_zret dX12_isEarlier_40 rfl (by first | omega | exact bI_b _) rfl ?_
  first | exact ret_t (Or.inl (by omega)) h | exact ret_t (Or.inr (by omega)) h | exact ret_f (fun z => by unfold ErP at z; omega) h
set_option maxHeartbeats 4000000 in
theorem c_X12_canBeThen {E : ET} {I : MI} {L : ML} {R : MR} {Q : Option AV → MI → ML → MR → Prop} {r : F1} {w v : Int} (hT : Topo R) (er : I 141 = r) (erd : I 138 30 = -1) (hr : WFr r) (hw : 0 ≤ w ∧ w < r 8) (hv : 0 ≤ v ∧ v < r 8) (h : Q (some (vi (bI (ThP r w v)))) I L R) : CT E M_X12_canBeThen 161 yX12_canBeThen [(vr (138)), (vi (w)), (vi (v))] I L R Q := by
  refine CT_of rfl rfl (fun h => by cases h) (Nat.le_of_ble_eq_true rfl) (fun X => ?_)
  show V X _ z0 0 [some (vr (138)), some (vi (w)), some (vi (v))] [] I L R _
  have e0 := hr.1
  have e1 := hr.2.2.2.2.1 w (by omega) (by omega)
  have e2 := hr.2.2.2.2.1 v (by omega) (by omega)
  have e3 := chF_b (rd := -1) hr (p := r (152 + 3 * w + 0)) (q := r (152 + 3 * v + 0)) (by omega) (by omega)
  unfold ThP at h
  refine s_aload_n 1 dX12_canBeThen_0 rfl rfl ?_
  refine s_iload_n 2 dX12_canBeThen_1 rfl rfl ?_
  refine s_iconst 3 dX12_canBeThen_2 rfl ?_
  refine s_callV0 (M' := M_X12_sawOf) (as := [_, _]) 6 dX12_canBeThen_3 rfl cw_X12_402 rfl rfl sh_138 rfl (by decide) (Nat.le_of_ble_eq_true rfl) (Nat.le_of_ble_eq_true rfl) (Nat.le_of_ble_eq_true rfl) (Nat.le_of_ble_eq_true rfl) ⟨rfl, rfl, rfl⟩ ?_
  refine c_X12_sawOf hT er (by omega) (by omega) ?_
  refine s_aload_n 7 dX12_canBeThen_6 rfl rfl ?_
  refine s_iload_n 8 dX12_canBeThen_7 rfl rfl ?_
  refine s_iconst 9 dX12_canBeThen_8 rfl ?_
  refine s_callV0 (M' := M_X12_sawOf) (as := [_, _]) 12 dX12_canBeThen_9 rfl cw_X12_402 rfl rfl sh_138 rfl (by decide) (Nat.le_of_ble_eq_true rfl) (Nat.le_of_ble_eq_true rfl) (Nat.le_of_ble_eq_true rfl) (Nat.le_of_ble_eq_true rfl) ⟨rfl, rfl, rfl⟩ ?_
  refine c_X12_sawOf hT er (by omega) (by omega) ?_
  refine s_isub 13 dX12_canBeThen_12 rfl ?_
  refine s_aload_n 14 dX12_canBeThen_13 rfl rfl ?_
  refine s_aload_n 15 dX12_canBeThen_14 rfl rfl ?_
  refine s_iload_n 16 dX12_canBeThen_15 rfl rfl ?_
  refine s_iconst 17 dX12_canBeThen_16 rfl ?_
  refine s_callV0 (M' := M_X12_sawOf) (as := [_, _]) 20 dX12_canBeThen_17 rfl cw_X12_402 rfl rfl sh_138 rfl (by decide) (Nat.le_of_ble_eq_true rfl) (Nat.le_of_ble_eq_true rfl) (Nat.le_of_ble_eq_true rfl) (Nat.le_of_ble_eq_true rfl) ⟨rfl, rfl, rfl⟩ ?_
  refine c_X12_sawOf hT er (by omega) (by omega) ?_
  refine s_aload_n 21 dX12_canBeThen_20 rfl rfl ?_
  refine s_iload_n 22 dX12_canBeThen_21 rfl rfl ?_
  refine s_iconst 23 dX12_canBeThen_22 rfl ?_
  refine s_callV0 (M' := M_X12_sawOf) (as := [_, _]) 26 dX12_canBeThen_23 rfl cw_X12_402 rfl rfl sh_138 rfl (by decide) (Nat.le_of_ble_eq_true rfl) (Nat.le_of_ble_eq_true rfl) (Nat.le_of_ble_eq_true rfl) (Nat.le_of_ble_eq_true rfl) ⟨rfl, rfl, rfl⟩ ?_
  refine c_X12_sawOf hT er (by omega) (by omega) ?_
  refine s_callV0 (M' := M_X12_changeOf) (as := [_, _]) 29 dX12_canBeThen_26 rfl cw_X12_315 rfl rfl sh_138 rfl (by decide) (Nat.le_of_ble_eq_true rfl) (Nat.le_of_ble_eq_true rfl) (Nat.le_of_ble_eq_true rfl) (Nat.le_of_ble_eq_true rfl) ⟨rfl, rfl, rfl⟩ ?_
  refine c_X12_changeOf hT er erd hr (by omega) (by omega) ?_
  refine s_aload_n 30 dX12_canBeThen_29 rfl rfl ?_
  refine s_iload_n 31 dX12_canBeThen_30 rfl rfl ?_
  refine s_iconst 32 dX12_canBeThen_31 rfl ?_
  refine s_callV0 (M' := M_X12_sawOf) (as := [_, _]) 35 dX12_canBeThen_32 rfl cw_X12_402 rfl rfl sh_138 rfl (by decide) (Nat.le_of_ble_eq_true rfl) (Nat.le_of_ble_eq_true rfl) (Nat.le_of_ble_eq_true rfl) (Nat.le_of_ble_eq_true rfl) ⟨rfl, rfl, rfl⟩ ?_
  refine c_X12_sawOf hT er (by omega) (by omega) ?_
  refine s_aload_n 36 dX12_canBeThen_35 rfl rfl ?_
  refine s_iload_n 37 dX12_canBeThen_36 rfl rfl ?_
  refine s_iconst 38 dX12_canBeThen_37 rfl ?_
  refine s_callV0 (M' := M_X12_sawOf) (as := [_, _]) 41 dX12_canBeThen_38 rfl cw_X12_402 rfl rfl sh_138 rfl (by decide) (Nat.le_of_ble_eq_true rfl) (Nat.le_of_ble_eq_true rfl) (Nat.le_of_ble_eq_true rfl) (Nat.le_of_ble_eq_true rfl) ⟨rfl, rfl, rfl⟩ ?_
  refine c_X12_sawOf hT er (by omega) (by omega) ?_
  refine s_icmp_eq 53 44 dX12_canBeThen_41 rfl rfl (by first | omega | exact bI_r _ | exact iI_r _) (by first | omega | exact bI_r _ | exact iI_r _) (fun h_41 => ?_) (fun h_41 => ?_)
  · skip
    refine s_iconst 54 dX12_canBeThen_53 rfl ?_
    refine s_iadd 55 dX12_canBeThen_54 rfl ?_
    refine s_icmp_lt 62 58 dX12_canBeThen_55 rfl rfl (by first | omega | exact bI_r _ | exact iI_r _) (by first | omega | exact bI_r _ | exact iI_r _) (fun h_55 => ?_) (fun h_55 => ?_)
    · skip
      refine s_iconst 63 dX12_canBeThen_62 rfl ?_
      refine s_zret dX12_canBeThen_63 rfl (by first | omega | exact bI_b _) rfl ?_
      first | (rw [if_pos (by omega)] at h; first | exact ret_t (by omega) h | exact ret_f (by omega) h) | (rw [if_neg (by omega)] at h; first | exact ret_t (by omega) h | exact ret_f (by omega) h)
    refine s_iconst 59 dX12_canBeThen_58 rfl ?_
    refine s_goto 63 dX12_canBeThen_59 rfl ?_
    refine s_zret dX12_canBeThen_63 rfl (by first | omega | exact bI_b _) rfl ?_
    first | (rw [if_pos (by omega)] at h; first | exact ret_t (by omega) h | exact ret_f (by omega) h) | (rw [if_neg (by omega)] at h; first | exact ret_t (by omega) h | exact ret_f (by omega) h)
  refine s_aload_n 45 dX12_canBeThen_44 rfl rfl ?_
  refine s_getR 48 dX12_canBeThen_45 rfl fl_X12_20 (fun _ _ _ _ => rfl) (T_X12_r hT) sh_138 (Nat.le_of_ble_eq_true rfl) ?_
  refine s_iconst 49 dX12_canBeThen_48 rfl ?_
  refine s_iald 50 dX12_canBeThen_49 rfl sh_141 (Nat.le_of_ble_eq_true rfl) (by omega) (by omega) (fun r_49 => ?_)
  rw [er] at r_49 ⊢
  refine s_goto 54 dX12_canBeThen_50 rfl ?_
  refine s_iadd 55 dX12_canBeThen_54 rfl ?_
  refine s_icmp_lt 62 58 dX12_canBeThen_55 rfl rfl (by first | omega | exact bI_r _ | exact iI_r _) (by first | omega | exact bI_r _ | exact iI_r _) (fun h_55 => ?_) (fun h_55 => ?_)
  · skip
    refine s_iconst 63 dX12_canBeThen_62 rfl ?_
    refine s_zret dX12_canBeThen_63 rfl (by first | omega | exact bI_b _) rfl ?_
    first | (rw [if_pos (by omega)] at h; first | exact ret_t (by omega) h | exact ret_f (by omega) h) | (rw [if_neg (by omega)] at h; first | exact ret_t (by omega) h | exact ret_f (by omega) h)
  refine s_iconst 59 dX12_canBeThen_58 rfl ?_
  refine s_goto 63 dX12_canBeThen_59 rfl ?_
  refine s_zret dX12_canBeThen_63 rfl (by first | omega | exact bI_b _) rfl ?_
  first | (rw [if_pos (by omega)] at h; first | exact ret_t (by omega) h | exact ret_f (by omega) h) | (rw [if_neg (by omega)] at h; first | exact ret_t (by omega) h | exact ret_f (by omega) h)
def BoP (r : F1) (w v : Int) : Prop := (ErP r w v → ThP r w v) ∧ (¬ ErP r w v → ThP r v w)
set_option maxHeartbeats 4000000 in
theorem c_X12_canBeBoth {E : ET} {I : MI} {L : ML} {R : MR} {Q : Option AV → MI → ML → MR → Prop} {r : F1} {w v : Int} (hT : Topo R) (er : I 141 = r) (erd : I 138 30 = -1) (hr : WFr r) (hw : 0 ≤ w ∧ w < r 8) (hv : 0 ≤ v ∧ v < r 8) (h : Q (some (vi (bI (BoP r w v)))) I L R) : CT E M_X12_canBeBoth 161 yX12_canBeBoth [(vr (138)), (vi (w)), (vi (v))] I L R Q := by
  refine CT_of rfl rfl (fun h => by cases h) (Nat.le_of_ble_eq_true rfl) (fun X => ?_)
  show V X _ z0 0 [some (vr (138)), some (vi (w)), some (vi (v))] [] I L R _
  refine s_aload_n 1 dX12_canBeBoth_0 rfl rfl ?_
  refine s_iload_n 2 dX12_canBeBoth_1 rfl rfl ?_
  refine s_iload_n 3 dX12_canBeBoth_2 rfl rfl ?_
  refine s_callV0 (M' := M_X12_isEarlier) (as := [_, _]) 6 dX12_canBeBoth_3 rfl cw_X12_405 rfl rfl sh_138 rfl (by decide) (Nat.le_of_ble_eq_true rfl) (Nat.le_of_ble_eq_true rfl) (Nat.le_of_ble_eq_true rfl) (Nat.le_of_ble_eq_true rfl) ⟨rfl, rfl, rfl⟩ ?_
  refine c_X12_isEarlier hT er hr (by omega) (by omega) ?_
  refine s_ifb_eq 18 9 dX12_canBeBoth_6 rfl rfl (fun h_6 => ?_) (fun h_6 => ?_)
  · skip
    refine s_aload_n 19 dX12_canBeBoth_18 rfl rfl ?_
    refine s_iload_n 20 dX12_canBeBoth_19 rfl rfl ?_
    refine s_iload_n 21 dX12_canBeBoth_20 rfl rfl ?_
    refine s_callV0 (M' := M_X12_canBeThen) (as := [_, _]) 24 dX12_canBeBoth_21 rfl cw_X12_408 rfl rfl sh_138 rfl (by decide) (Nat.le_of_ble_eq_true rfl) (Nat.le_of_ble_eq_true rfl) (Nat.le_of_ble_eq_true rfl) (Nat.le_of_ble_eq_true rfl) ⟨rfl, rfl, rfl⟩ ?_
    refine c_X12_canBeThen hT er erd hr (by omega) (by omega) ?_
    refine s_zret dX12_canBeBoth_24 rfl (by first | omega | exact bI_b _) rfl ?_
    first | (rw [bI_c (show BoP r w v ↔ ThP r w v from ⟨fun z => z.1 (by assumption), fun z => ⟨fun _ => z, fun y => absurd (by assumption) y⟩⟩)] at h; exact h) | (rw [bI_c (show BoP r w v ↔ ThP r v w from ⟨fun z => z.2 (by assumption), fun z => ⟨fun y => absurd y (by assumption), fun _ => z⟩⟩)] at h; exact h)
  refine s_aload_n 10 dX12_canBeBoth_9 rfl rfl ?_
  refine s_iload_n 11 dX12_canBeBoth_10 rfl rfl ?_
  refine s_iload_n 12 dX12_canBeBoth_11 rfl rfl ?_
  refine s_callV0 (M' := M_X12_canBeThen) (as := [_, _]) 15 dX12_canBeBoth_12 rfl cw_X12_408 rfl rfl sh_138 rfl (by decide) (Nat.le_of_ble_eq_true rfl) (Nat.le_of_ble_eq_true rfl) (Nat.le_of_ble_eq_true rfl) (Nat.le_of_ble_eq_true rfl) ⟨rfl, rfl, rfl⟩ ?_
  refine c_X12_canBeThen hT er erd hr (by omega) (by omega) ?_
  refine s_goto 24 dX12_canBeBoth_15 rfl ?_
  refine s_zret dX12_canBeBoth_24 rfl (by first | omega | exact bI_b _) rfl ?_
  first | (rw [bI_c (show BoP r w v ↔ ThP r w v from ⟨fun z => z.1 (by assumption), fun z => ⟨fun _ => z, fun y => absurd (by assumption) y⟩⟩)] at h; exact h) | (rw [bI_c (show BoP r w v ↔ ThP r v w from ⟨fun z => z.2 (by assumption), fun z => ⟨fun y => absurd y (by assumption), fun _ => z⟩⟩)] at h; exact h)
/-- one can be all that is seen of the set -/
def SeenP (r : F1) (set : Int) : Prop := ∀ w v, 0 ≤ w → w < r 8 → 0 ≤ v → v < r 8 → hasI set w → hasI set v → ErP r w v → (∀ u, 0 ≤ u → u < r 8 → hasI set u → ¬ (ErP r w u ∧ ErP r u v)) → ThP r w v
theorem ErP.ir {r : F1} {w : Int} : ¬ ErP r w w := by unfold ErP; omega
theorem ErP.tr {r : F1} {w v u : Int} (h : ErP r w v) (h' : ErP r v u) : ErP r w u := by unfold ErP at *; omega
theorem ErP.to {r : F1} {w v : Int} (h : w ≠ v) : ErP r w v ∨ ErP r v w := by unfold ErP; omega
theorem ErP.as {r : F1} {w v : Int} (h : ErP r w v) : ¬ ErP r v w := fun z => ErP.ir (h.tr z)
set_option maxHeartbeats 4000000 in
theorem c_X12_canBeAll {E : ET} {I : MI} {L : ML} {R : MR} {Q : Option AV → MI → ML → MR → Prop} {r : F1} {set : Int} (hT : Topo R) (er : I 141 = r) (erd : I 138 30 = -1) (hr : WFr r) (hs : 0 ≤ set ∧ set < 2 ^ (r 8).toNat) (h : Q (some (vi (bI (SeenP r set)))) I L R) : CT E M_X12_canBeAll 161 yX12_canBeAll [(vr (138)), (vi (set))] I L R Q := by
  refine CT_of rfl rfl (fun h => by cases h) (Nat.le_of_ble_eq_true rfl) (fun X => ?_)
  show V X _ z0 0 [some (vr (138)), some (vi (set)), none, none, none, none] [] I L R _
  have e0 := hr.1
  have hs7 : set < 128 := by
    have : (2 : Int) ^ (r 8).toNat ≤ 128 := by
      have hc : (r 8).toNat = 0 ∨ (r 8).toNat = 1 ∨ (r 8).toNat = 2 ∨ (r 8).toNat = 3 ∨ (r 8).toNat = 4 ∨ (r 8).toNat = 5 ∨ (r 8).toNat = 6 ∨ (r 8).toNat = 7 := by omega
      rcases hc with z | z | z | z | z | z | z | z <;> rw [z] <;> decide
    omega
  have hset : ∀ k, 0 ≤ k → k < 32 → hasI set k → k < r 8 := by
    intro k a b c
    apply Classical.byContradiction
    intro q
    exact has_lt (n := (r 8).toNat) (by omega) hs ⟨by omega, b⟩ c
  have loop : ∀ (f : Nat) (left last : Int) (w4 w5 : Option AV), left < (f : Int) → 0 ≤ left → left ≤ 127 → (∀ k, 0 ≤ k → k < 32 → hasI left k → hasI set k) → ((last = -1 ∧ left = set) ∨ (0 ≤ last ∧ last < r 8 ∧ hasI set last ∧ ∀ k, 0 ≤ k → k < r 8 → hasI set k → (hasI left k ↔ ErP r last k))) →
      (∀ w v, 0 ≤ w → w < r 8 → 0 ≤ v → v < r 8 → hasI set w → hasI set v → ErP r w v → ¬ hasI left v → (∀ u, 0 ≤ u → u < r 8 → hasI set u → ¬ (ErP r w u ∧ ErP r u v)) → ThP r w v) →
      V X M_X12_canBeAll z0 4 [some (vr 138), some (vi set), some (vi last), some (vi left), w4, w5] [] I L R (RT X M_X12_canBeAll Q) := by
    intro f
    induction f with
    | zero => intro left last w4 w5 h1 h2; omega
    | succ f ih =>
      intro left last w4 w5 h1 h2 h3 h4 h5 h6
      by_cases hl : left = 0
      · subst hl
        refine s_iload_n 5 dX12_canBeAll_4 rfl rfl ?_
        refine s_if_eq 92 8 dX12_canBeAll_5 rfl rfl (by first | omega | exact bI_r _ | exact iI_r _) (fun h_5 => ?_) (fun h_5 => by exfalso; omega)
        refine s_iconst 93 dX12_canBeAll_92 rfl ?_
        refine s_zret dX12_canBeAll_93 rfl (by first | omega | exact bI_b _) rfl ?_
        exact ret_t (fun w v a b c d e g i j => h6 w v a b c d e g i (has_0 (by omega)) j) h
      · -- the first of those left
        have b61 : ∀ (x : Int) (w5 : Option AV), 0 ≤ x → x < r 8 → hasI left x → (∀ k, 0 ≤ k → k < r 8 → hasI left k → k = x ∨ ErP r x k) → V X M_X12_canBeAll z0 61 [some (vr 138), some (vi set), some (vi last), some (vi left), some (vi x), w5] [] I L R (RT X M_X12_canBeAll Q) := by
          intro x w5 x1 x2 x3 x4
          have xs := h4 x x1 (by omega) x3
          have hsb : sub (ishl 1 x) left := set_ext (iand_r _ _) (iI_r _) (fun k a b => by
            rw [has_and ⟨a, b⟩, has_shl (by omega) ⟨a, b⟩]
            exact ⟨fun z => z.1, fun z => ⟨z, by rw [z]; exact x3⟩⟩)
          have hpos : 0 < ishl 1 x := by
            have hle := sub_le ⟨h2, h3⟩ hsb
            have hne : ishl 1 x ≠ 0 := (set_ne0 (iI_r _)).mpr ⟨x, x1, by omega, (has_shl (by omega) (by omega)).mpr rfl⟩
            omega
          have hn := sub_next ⟨h2, h3⟩ ⟨hpos, by have := sub_le ⟨h2, h3⟩ hsb; omega⟩ hsb
          have hlk : ∀ k, 0 ≤ k → k < 32 → (hasI (andN left (ishl 1 x)) k ↔ hasI left k ∧ k ≠ x) := fun k a b => by
            unfold andN
            rw [has_andn ⟨a, b⟩, has_shl (by omega) ⟨a, b⟩]
          have next : ∀ w5, (0 ≤ last → ThP r last x) → V X M_X12_canBeAll z0 77 [some (vr 138), some (vi set), some (vi last), some (vi left), some (vi x), w5] [] I L R (RT X M_X12_canBeAll Q) := by
            intro w5 hth
            refine s_iload 79 dX12_canBeAll_77 rfl rfl ?_
            refine s_istore_n (ls' := [_, _, _, _, _, _]) 80 dX12_canBeAll_79 rfl (Nat.le_of_ble_eq_true rfl) rfl rfl ?_
            refine s_iload_n 81 dX12_canBeAll_80 rfl rfl ?_
            refine s_iconst 82 dX12_canBeAll_81 rfl ?_
            refine s_iload 84 dX12_canBeAll_82 rfl rfl ?_
            refine s_ishl 85 dX12_canBeAll_84 rfl ?_
            refine s_iconst 86 dX12_canBeAll_85 rfl ?_
            refine s_ixor 87 dX12_canBeAll_86 rfl ?_
            refine s_iand 88 dX12_canBeAll_87 rfl ?_
            refine s_istore_n (ls' := [_, _, _, _, _, _]) 89 dX12_canBeAll_88 rfl (Nat.le_of_ble_eq_true rfl) rfl rfl ?_
            refine s_goto 4 dX12_canBeAll_89 rfl ?_
            refine ih (andN left (ishl 1 x)) x _ _ (by omega) hn.2.2.2.2.1 (by omega) (fun k a b c => h4 k a b ((hlk k a b).mp c).1) (Or.inr ⟨x1, x2, xs, fun k a b c => ?_⟩) (fun w v a b c d e g i j k => ?_)
            · rw [hlk k a (by omega)]
              constructor
              · rintro ⟨z1, z2⟩
                exact (x4 k a b z1).resolve_left z2
              · intro z
                refine ⟨?_, fun e => ErP.ir (e ▸ z)⟩
                rcases h5 with ⟨z1, z2⟩ | ⟨z1, z2, z3, z4⟩
                · rw [z2]; exact c
                · exact (z4 k a b c).mpr (((z4 x x1 x2 xs).mp x3).tr z)
            · by_cases hv : v = x
              · subst hv
                rcases h5 with ⟨z1, z2⟩ | ⟨z1, z2, z3, z4⟩
                · have hw := x4 w a b (by rw [z2]; exact e)
                  rcases hw with hw | hw
                  · exact absurd i (by rw [hw]; exact ErP.ir)
                  · exact absurd hw i.as
                · by_cases hw : w = last
                  · rw [hw]; exact hth z1
                  · exfalso
                    have hwl : ¬ hasI left w := fun z => by
                      rcases x4 w a b z with q | q
                      · exact ErP.ir (q ▸ i)
                      · exact q.as i
                    have h9 : ErP r w last := by
                      rcases ErP.to hw with q | q
                      · exact q
                      · exact absurd ((z4 w a b e).mpr q) hwl
                    exact k last z1 z2 z3 ⟨h9, (z4 v x1 x2 xs).mp x3⟩
              · exact h6 w v a b c d e g i (fun z => j ((hlk v c (by omega)).mpr ⟨z, hv⟩)) k
          rcases h5 with ⟨z1, z2⟩ | ⟨z1, z2, z3, z4⟩
          · subst z1
            refine s_iload_n 62 dX12_canBeAll_61 rfl rfl ?_
            refine s_if_lt 77 65 dX12_canBeAll_62 rfl rfl (by first | omega | exact bI_r _ | exact iI_r _) (fun h_62 => ?_) (fun h_62 => by exfalso; omega)
            exact next _ (fun z => by omega)
          · skip
            refine s_iload_n 62 dX12_canBeAll_61 rfl rfl ?_
            refine s_if_lt 77 65 dX12_canBeAll_62 rfl rfl (by first | omega | exact bI_r _ | exact iI_r _) (fun h_62 => by exfalso; omega) (fun h_62 => ?_)
            refine s_aload_n 66 dX12_canBeAll_65 rfl rfl ?_
            refine s_iload_n 67 dX12_canBeAll_66 rfl rfl ?_
            refine s_iload 69 dX12_canBeAll_67 rfl rfl ?_
            refine s_callV0 (M' := M_X12_canBeThen) (as := [_, _]) 72 dX12_canBeAll_69 rfl cw_X12_408 rfl rfl sh_138 rfl (by decide) (Nat.le_of_ble_eq_true rfl) (Nat.le_of_ble_eq_true rfl) (Nat.le_of_ble_eq_true rfl) (Nat.le_of_ble_eq_true rfl) ⟨rfl, rfl, rfl⟩ ?_
            refine c_X12_canBeThen hT er erd hr (by omega) (by omega) ?_
            refine s_ifb_ne 77 75 dX12_canBeAll_72 rfl rfl (fun h_72 => ?_) (fun h_72 => ?_)
            · skip
              exact next _ (fun _ => by assumption)
            refine s_iconst 76 dX12_canBeAll_75 rfl ?_
            refine s_zret dX12_canBeAll_76 rfl (by first | omega | exact bI_b _) rfl ?_
            refine ret_f (fun z => absurd (z last x z1 z2 x1 x2 z3 xs ((z4 x x1 x2 xs).mp x3) (fun u a b c d => ?_)) (by assumption)) h
            have hu := (z4 u a b c).mpr d.1
            rcases x4 u a b hu with q | q
            · exact ErP.ir (q ▸ d.2)
            · exact q.as d.2
        have hex : ∃ k, 0 ≤ k ∧ k < r 8 ∧ hasI left k := by
          obtain ⟨k, a, b, c⟩ := (set_ne0 (x := left) (by omega)).mp hl
          exact ⟨k, a, hset k a b (h4 k a b c), c⟩
        have find : ∀ (g : Nat) (w first : Int), r 8 - w < (g : Int) → 0 ≤ w → w ≤ r 8 → ((first = -1 ∧ ∀ k, 0 ≤ k → k < w → ¬ hasI left k) ∨ (0 ≤ first ∧ first < r 8 ∧ hasI left first ∧ ∀ k, 0 ≤ k → k < w → hasI left k → k = first ∨ ErP r first k)) →
            V X M_X12_canBeAll z0 14 [some (vr (138)), some (vi (set)), some (vi (last)), some (vi (left)), some (vi (first)), some (vi (w))] [] (I) L R (RT X M_X12_canBeAll Q) := by
          intro g
          induction g with
          | zero => intro w first k1 k2 k3; omega
          | succ g ih2 =>
            intro w first k1 k2 k3 k4
            have b55n : ¬ hasI left w → w < r 8 → V X M_X12_canBeAll z0 55 [some (vr (138)), some (vi (set)), some (vi (last)), some (vi (left)), some (vi (first)), some (vi (w))] [] (I) L R (RT X M_X12_canBeAll Q) := by
              intro z zz
              refine s_iinc (ls' := [_, _, _, _, _, _]) 58 dX12_canBeAll_55 rfl rfl (Nat.le_of_ble_eq_true rfl) rfl rfl ?_
              refine s_goto 14 dX12_canBeAll_58 rfl ?_
              refine ih2 (w + 1) first (by omega) (by omega) (by omega) ?_
              rcases k4 with ⟨a, b⟩ | ⟨a, b, c, d⟩
              · refine Or.inl ⟨a, fun k q1 q2 => ?_⟩
                by_cases ek : k = w
                · rw [ek]; exact z
                · exact b k q1 (by omega)
              · refine Or.inr ⟨a, b, c, fun k q1 q2 q3 => ?_⟩
                by_cases ek : k = w
                · exact absurd (ek ▸ q3) z
                · exact d k q1 (by omega) q3
            have b55w : hasI left w → w < r 8 → (first < 0 ∨ ErP r w first) → V X M_X12_canBeAll z0 55 [some (vr (138)), some (vi (set)), some (vi (last)), some (vi (left)), some (vi (w)), some (vi (w))] [] (I) L R (RT X M_X12_canBeAll Q) := by
              intro z zz zzz
              refine s_iinc (ls' := [_, _, _, _, _, _]) 58 dX12_canBeAll_55 rfl rfl (Nat.le_of_ble_eq_true rfl) rfl rfl ?_
              refine s_goto 14 dX12_canBeAll_58 rfl ?_
              refine ih2 (w + 1) w (by omega) (by omega) (by omega) (Or.inr ⟨k2, zz, z, fun k q1 q2 q3 => ?_⟩)
              by_cases ek : k = w
              · exact Or.inl ek
              · rcases k4 with ⟨a, b⟩ | ⟨a, b, c, d⟩
                · exact absurd q3 (b k q1 (by omega))
                · rcases d k q1 (by omega) q3 with y | y
                  · exact Or.inr (by rw [y]; exact zzz.resolve_left (by omega))
                  · exact Or.inr ((zzz.resolve_left (by omega)).tr y)
            have b55f : hasI left w → w < r 8 → 0 ≤ first → ¬ ErP r w first → V X M_X12_canBeAll z0 55 [some (vr (138)), some (vi (set)), some (vi (last)), some (vi (left)), some (vi (first)), some (vi (w))] [] (I) L R (RT X M_X12_canBeAll Q) := by
              intro z zz zzz z4
              refine s_iinc (ls' := [_, _, _, _, _, _]) 58 dX12_canBeAll_55 rfl rfl (Nat.le_of_ble_eq_true rfl) rfl rfl ?_
              refine s_goto 14 dX12_canBeAll_58 rfl ?_
              refine ih2 (w + 1) first (by omega) (by omega) (by omega) ?_
              rcases k4 with ⟨a, b⟩ | ⟨a, b, c, d⟩
              · omega
              · refine Or.inr ⟨a, b, c, fun k q1 q2 q3 => ?_⟩
                by_cases ek : k = w
                · by_cases ef : w = first
                  · exact Or.inl (ek.trans ef)
                  · rw [ek]; exact Or.inr ((ErP.to ef).resolve_left z4)
                · exact d k q1 (by omega) q3
            have hfb : -1 ≤ first ∧ first < r 8 := by rcases k4 with ⟨a, b⟩ | ⟨a, b, c, d⟩ <;> omega
            refine s_iload 16 dX12_canBeAll_14 rfl rfl ?_
            refine s_aload_n 17 dX12_canBeAll_16 rfl rfl ?_
            refine s_getR 20 dX12_canBeAll_17 rfl fl_X12_20 (fun _ _ _ _ => rfl) (T_X12_r hT) sh_138 (Nat.le_of_ble_eq_true rfl) ?_
            refine s_bipush 22 dX12_canBeAll_20 rfl (by decide) ?_
            refine s_iald 23 dX12_canBeAll_22 rfl sh_141 (Nat.le_of_ble_eq_true rfl) (by omega) (by omega) (fun r_22 => ?_)
            rw [er] at r_22 ⊢
            refine s_icmp_ge 61 26 dX12_canBeAll_23 rfl rfl (by first | omega | exact bI_r _ | exact iI_r _) (by first | omega | exact bI_r _ | exact iI_r _) (fun h_23 => ?_) (fun h_23 => ?_)
            · skip
              obtain ⟨k, q1, q2, q3⟩ := hex
              rcases k4 with ⟨a, b⟩ | ⟨a, b, c, d⟩
              · exact absurd q3 (b k q1 (by omega))
              · exact b61 first _ a b c (fun k q1 q2 q3 => d k q1 (by omega) q3)
            refine s_iload_n 27 dX12_canBeAll_26 rfl rfl ?_
            refine s_iload 29 dX12_canBeAll_27 rfl rfl ?_
            refine s_callS0 (M' := M_X12_has) (as := [_, _]) 32 dX12_canBeAll_29 rfl cw_X12_278 rfl rfl (Nat.le_of_ble_eq_true rfl) (Nat.le_of_ble_eq_true rfl) (Nat.le_of_ble_eq_true rfl) ⟨rfl, rfl, rfl⟩ ?_
            refine c_X12_has ?_
            refine s_ifb_eq 55 35 dX12_canBeAll_32 rfl rfl (fun h_32 => ?_) (fun h_32 => ?_)
            · skip
              first | exact b55n (by assumption) (by omega) | exact b55w (by assumption) (by omega) (Or.inl (by omega)) | exact b55w (by assumption) (by omega) (Or.inr (by assumption)) | exact b55f (by assumption) (by omega) (by omega) (by assumption)
            refine s_iload 37 dX12_canBeAll_35 rfl rfl ?_
            refine s_if_lt 51 40 dX12_canBeAll_37 rfl rfl (by first | omega | exact bI_r _ | exact iI_r _) (fun h_37 => ?_) (fun h_37 => ?_)
            · skip
              refine s_iload 53 dX12_canBeAll_51 rfl rfl ?_
              refine s_istore (ls' := [_, _, _, _, _, _]) 55 dX12_canBeAll_53 rfl (Nat.le_of_ble_eq_true rfl) rfl rfl ?_
              first | exact b55n (by assumption) (by omega) | exact b55w (by assumption) (by omega) (Or.inl (by omega)) | exact b55w (by assumption) (by omega) (Or.inr (by assumption)) | exact b55f (by assumption) (by omega) (by omega) (by assumption)
            refine s_aload_n 41 dX12_canBeAll_40 rfl rfl ?_
            refine s_iload 43 dX12_canBeAll_41 rfl rfl ?_
            refine s_iload 45 dX12_canBeAll_43 rfl rfl ?_
            refine s_callV0 (M' := M_X12_isEarlier) (as := [_, _]) 48 dX12_canBeAll_45 rfl cw_X12_405 rfl rfl sh_138 rfl (by decide) (Nat.le_of_ble_eq_true rfl) (Nat.le_of_ble_eq_true rfl) (Nat.le_of_ble_eq_true rfl) (Nat.le_of_ble_eq_true rfl) ⟨rfl, rfl, rfl⟩ ?_
            refine c_X12_isEarlier hT er hr (by omega) (by omega) ?_
            refine s_ifb_eq 55 51 dX12_canBeAll_48 rfl rfl (fun h_48 => ?_) (fun h_48 => ?_)
            · skip
              first | exact b55n (by assumption) (by omega) | exact b55w (by assumption) (by omega) (Or.inl (by omega)) | exact b55w (by assumption) (by omega) (Or.inr (by assumption)) | exact b55f (by assumption) (by omega) (by omega) (by assumption)
            refine s_iload 53 dX12_canBeAll_51 rfl rfl ?_
            refine s_istore (ls' := [_, _, _, _, _, _]) 55 dX12_canBeAll_53 rfl (Nat.le_of_ble_eq_true rfl) rfl rfl ?_
            first | exact b55n (by assumption) (by omega) | exact b55w (by assumption) (by omega) (Or.inl (by omega)) | exact b55w (by assumption) (by omega) (Or.inr (by assumption)) | exact b55f (by assumption) (by omega) (by omega) (by assumption)
        refine s_iload_n 5 dX12_canBeAll_4 rfl rfl ?_
        refine s_if_eq 92 8 dX12_canBeAll_5 rfl rfl (by first | omega | exact bI_r _ | exact iI_r _) (fun h_5 => by exfalso; omega) (fun h_5 => ?_)
        refine s_iconst 9 dX12_canBeAll_8 rfl ?_
        refine s_istore (ls' := [_, _, _, _, _, _]) 11 dX12_canBeAll_9 rfl (Nat.le_of_ble_eq_true rfl) rfl rfl ?_
        refine s_iconst 12 dX12_canBeAll_11 rfl ?_
        refine s_istore (ls' := [_, _, _, _, _, _]) 14 dX12_canBeAll_12 rfl (Nat.le_of_ble_eq_true rfl) rfl rfl ?_
        exact find (r 8 + 1).toNat 0 (-1) (by omega) (by omega) (by omega) (Or.inl ⟨rfl, fun k a b => by omega⟩)
  refine s_iconst 1 dX12_canBeAll_0 rfl ?_
  refine s_istore_n (ls' := [_, _, _, _, _, _]) 2 dX12_canBeAll_1 rfl (Nat.le_of_ble_eq_true rfl) rfl rfl ?_
  refine s_iload_n 3 dX12_canBeAll_2 rfl rfl ?_
  refine s_istore_n (ls' := [_, _, _, _, _, _]) 4 dX12_canBeAll_3 rfl (Nat.le_of_ble_eq_true rfl) rfl rfl ?_
  exact loop 128 set (-1) none none (by omega) hs.1 (by omega) (fun _ _ _ z => z) (Or.inl ⟨rfl, rfl⟩) (fun w v a b c d e g i j => absurd g j)
