/-! the reference: its small methods -/
set_option maxHeartbeats 4000000 in
theorem c_X12_good {E : ET} {I : MI} {L : ML} {R : MR} {Q : Option AV → MI → ML → MR → Prop}  (h : Q none (up (up I 138 0 0) 138 11 0) L R) : CT E M_X12_good 161 yX12_good [(vr (138))] I L R Q := by
  refine CT_of rfl rfl (fun h => by cases h) (Nat.le_of_ble_eq_true rfl) (fun X => ?_)
  show V X _ z0 0 [some (vr (138))] [] I L R _
  refine s_aload_n 1 dX12_good_0 rfl rfl ?_
  refine s_iconst 2 dX12_good_1 rfl ?_
  refine s_putI 5 dX12_good_2 rfl fl_X12_81 (fun _ => rfl) (fun _ => rfl) (fun _ _ _ _ => rfl) sh_138 (Nat.le_of_ble_eq_true rfl) (by first | omega | exact bI_r _ | exact iI_r _) ?_
  refine s_aload_n 6 dX12_good_5 rfl rfl ?_
  refine s_iconst 7 dX12_good_6 rfl ?_
  refine s_putI 10 dX12_good_7 rfl fl_X12_84 (fun _ => rfl) (fun _ => rfl) (fun _ _ _ _ => rfl) sh_138 (Nat.le_of_ble_eq_true rfl) (by first | omega | exact bI_r _ | exact iI_r _) ?_
  refine s_vret dX12_good_10 rfl rfl ?_
  exact h
set_option maxHeartbeats 4000000 in
theorem c_X12_no {E : ET} {I : MI} {L : ML} {R : MR} {Q : Option AV → MI → ML → MR → Prop} {w : Int} (hw : 0 ≤ w ∧ w ≤ 9) (h : Q (some (vi (-1))) (up I 138 11 w) L R) : CT E M_X12_no 161 yX12_no [(vr (138)), (vi (w))] I L R Q := by
  refine CT_of rfl rfl (fun h => by cases h) (Nat.le_of_ble_eq_true rfl) (fun X => ?_)
  show V X _ z0 0 [some (vr (138)), some (vi (w))] [] I L R _
  refine s_aload_n 1 dX12_no_0 rfl rfl ?_
  refine s_iload_n 2 dX12_no_1 rfl rfl ?_
  refine s_putI 5 dX12_no_2 rfl fl_X12_84 (fun _ => rfl) (fun _ => rfl) (fun _ _ _ _ => rfl) sh_138 (Nat.le_of_ble_eq_true rfl) (by first | omega | exact bI_r _ | exact iI_r _) ?_
  refine s_iconst 6 dX12_no_5 rfl ?_
  refine s_iret dX12_no_6 rfl rfl ?_
  exact h
set_option maxHeartbeats 4000000 in
theorem c_X12_isNot {E : ET} {I : MI} {L : ML} {R : MR} {Q : Option AV → MI → ML → MR → Prop} {w : Int} (hw : 0 ≤ w ∧ w ≤ 9) (h : Q (some (vi (bI False))) (up I 138 11 w) L R) : CT E M_X12_isNot 161 yX12_isNot [(vr (138)), (vi (w))] I L R Q := by
  refine CT_of rfl rfl (fun h => by cases h) (Nat.le_of_ble_eq_true rfl) (fun X => ?_)
  show V X _ z0 0 [some (vr (138)), some (vi (w))] [] I L R _
  refine s_aload_n 1 dX12_isNot_0 rfl rfl ?_
  refine s_iload_n 2 dX12_isNot_1 rfl rfl ?_
  refine s_putI 5 dX12_isNot_2 rfl fl_X12_84 (fun _ => rfl) (fun _ => rfl) (fun _ _ _ _ => rfl) sh_138 (Nat.le_of_ble_eq_true rfl) (by first | omega | exact bI_r _ | exact iI_r _) ?_
  refine s_iconst 6 dX12_isNot_5 rfl ?_
  refine s_zret dX12_isNot_6 rfl (by first | omega | exact bI_b _) rfl ?_
  exact ret_f id h
set_option maxHeartbeats 4000000 in
theorem c_X12_within {E : ET} {I : MI} {L : ML} {R : MR} {Q : Option AV → MI → ML → MR → Prop} {v a b : Int} (hv : -2147483648 ≤ v ∧ v ≤ 2147483647) (ha : -2147483648 ≤ a ∧ a ≤ 2147483647) (hb : -2147483648 ≤ b ∧ b ≤ 2147483647) (h : Q (some (vi (bI (a ≤ v ∧ v ≤ b)))) I L R) : CT E M_X12_within 161 yX12_within [(vi (v)), (vi (a)), (vi (b))] I L R Q := by
  refine CT_of rfl rfl (fun h => by cases h) (Nat.le_of_ble_eq_true rfl) (fun X => ?_)
  show V X _ z0 0 [some (vi (v)), some (vi (a)), some (vi (b))] [] I L R _
  refine s_iload_n 1 dX12_within_0 rfl rfl ?_
  refine s_iload_n 2 dX12_within_1 rfl rfl ?_
  refine s_icmp_lt 14 5 dX12_within_2 rfl rfl (by first | omega | exact bI_r _ | exact iI_r _) (by first | omega | exact bI_r _ | exact iI_r _) (fun h_2 => ?_) (fun h_2 => ?_)
  · skip
    refine s_iconst 15 dX12_within_14 rfl ?_
    refine s_zret dX12_within_15 rfl (by first | omega | exact bI_b _) rfl ?_
    first | exact ret_t (by omega) h | exact ret_f (by omega) h
  refine s_iload_n 6 dX12_within_5 rfl rfl ?_
  refine s_iload_n 7 dX12_within_6 rfl rfl ?_
  refine s_icmp_gt 14 10 dX12_within_7 rfl rfl (by first | omega | exact bI_r _ | exact iI_r _) (by first | omega | exact bI_r _ | exact iI_r _) (fun h_7 => ?_) (fun h_7 => ?_)
  · skip
    refine s_iconst 15 dX12_within_14 rfl ?_
    refine s_zret dX12_within_15 rfl (by first | omega | exact bI_b _) rfl ?_
    first | exact ret_t (by omega) h | exact ret_f (by omega) h
  refine s_iconst 11 dX12_within_10 rfl ?_
  refine s_goto 15 dX12_within_11 rfl ?_
  refine s_zret dX12_within_15 rfl (by first | omega | exact bI_b _) rfl ?_
  first | exact ret_t (by omega) h | exact ret_f (by omega) h
set_option maxHeartbeats 4000000 in
theorem c_X12_has {E : ET} {I : MI} {L : ML} {R : MR} {Q : Option AV → MI → ML → MR → Prop} {s k : Int} (h : Q (some (vi (bI (hasI s k)))) I L R) : CT E M_X12_has 161 yX12_has [(vi (s)), (vi (k))] I L R Q := by
  refine CT_of rfl rfl (fun h => by cases h) (Nat.le_of_ble_eq_true rfl) (fun X => ?_)
  show V X _ z0 0 [some (vi (s)), some (vi (k))] [] I L R _
  refine s_iload_n 1 dX12_has_0 rfl rfl ?_
  refine s_iload_n 2 dX12_has_1 rfl rfl ?_
  refine s_ishr 3 dX12_has_2 rfl ?_
  refine s_iconst 4 dX12_has_3 rfl ?_
  refine s_iand 5 dX12_has_4 rfl ?_
  refine s_iconst 6 dX12_has_5 rfl ?_
  refine s_icmp_ne 13 9 dX12_has_6 rfl rfl (by first | omega | exact bI_r _ | exact iI_r _) (by first | omega | exact bI_r _ | exact iI_r _) (fun h_6 => ?_) (fun h_6 => ?_)
  · skip
    refine s_iconst 14 dX12_has_13 rfl ?_
    refine s_zret dX12_has_14 rfl (by first | omega | exact bI_b _) rfl ?_
    first | exact ret_t (by assumption) h | exact ret_f (by assumption) h
  refine s_iconst 10 dX12_has_9 rfl ?_
  refine s_goto 14 dX12_has_10 rfl ?_
  refine s_zret dX12_has_14 rfl (by first | omega | exact bI_b _) rfl ?_
  first | exact ret_t (by assumption) h | exact ret_f (by assumption) h
set_option maxHeartbeats 4000000 in
theorem c_X12_onOf {E : ET} {I : MI} {L : ML} {R : MR} {Q : Option AV → MI → ML → MR → Prop} {r : F1} {k w : Int} (hT : Topo R) (e1 : I 141 = r) (hk : 0 ≤ k ∧ k < 14) (hw : 0 ≤ w ∧ w < 7) (h : Q (some (vi (r (54 + 7 * k + w)))) I L R) : CT E M_X12_onOf 161 yX12_onOf [(vr (138)), (vi (k)), (vi (w))] I L R Q := by
  refine CT_of rfl rfl (fun h => by cases h) (Nat.le_of_ble_eq_true rfl) (fun X => ?_)
  show V X _ z0 0 [some (vr (138)), some (vi (k)), some (vi (w))] [] I L R _
  subst e1
  refine s_aload_n 1 dX12_onOf_0 rfl rfl ?_
  refine s_getR 4 dX12_onOf_1 rfl fl_X12_20 (fun _ _ _ _ => rfl) (T_X12_r hT) sh_138 (Nat.le_of_ble_eq_true rfl) ?_
  refine s_bipush 6 dX12_onOf_4 rfl (by decide) ?_
  refine s_bipush 8 dX12_onOf_6 rfl (by decide) ?_
  refine s_iload_n 9 dX12_onOf_8 rfl rfl ?_
  refine s_imul 10 dX12_onOf_9 rfl ?_
  refine s_iadd 11 dX12_onOf_10 rfl ?_
  refine s_iload_n 12 dX12_onOf_11 rfl rfl ?_
  refine s_iadd 13 dX12_onOf_12 rfl ?_
  refine s_iald 14 dX12_onOf_13 rfl sh_141 (Nat.le_of_ble_eq_true rfl) (by omega) (by omega) (fun r_13 => ?_)
  refine s_iret dX12_onOf_14 rfl rfl ?_
  exact h
def rdy (rd : Int) (p v : Int) : Int := if p = rd then 0 else v
set_option maxHeartbeats 4000000 in
theorem c_X12_timeOf {E : ET} {I : MI} {L : ML} {R : MR} {Q : Option AV → MI → ML → MR → Prop} {r : F1} {rd w p : Int} (hT : Topo R) (e1 : I 141 = r) (e2 : I 138 30 = rd) (hi : 0 ≤ w + p ∧ w + p < 281) (hp : 0 ≤ p ∧ p < 7) (h : Q (some (vi (rdy rd p (r (w + p))))) I L R) : CT E M_X12_timeOf 161 yX12_timeOf [(vr (138)), (vi (w)), (vi (p))] I L R Q := by
  refine CT_of rfl rfl (fun h => by cases h) (Nat.le_of_ble_eq_true rfl) (fun X => ?_)
  show V X _ z0 0 [some (vr (138)), some (vi (w)), some (vi (p))] [] I L R _
  subst e1; subst e2
  refine s_iload_n 1 dX12_timeOf_0 rfl rfl ?_
  refine s_aload_n 2 dX12_timeOf_1 rfl rfl ?_
  refine s_getI 5 dX12_timeOf_2 rfl fl_X12_56 (fun _ _ _ _ => rfl) sh_138 (Nat.le_of_ble_eq_true rfl) (fun r_2 => ?_)
  refine s_icmp_ne 12 8 dX12_timeOf_5 rfl rfl (by first | omega | exact bI_r _ | exact iI_r _) (by first | omega | exact bI_r _ | exact iI_r _) (fun h_5 => ?_) (fun h_5 => ?_)
  · skip
    refine s_aload_n 13 dX12_timeOf_12 rfl rfl ?_
    refine s_getR 16 dX12_timeOf_13 rfl fl_X12_20 (fun _ _ _ _ => rfl) (T_X12_r hT) sh_138 (Nat.le_of_ble_eq_true rfl) ?_
    refine s_iload_n 17 dX12_timeOf_16 rfl rfl ?_
    refine s_iload_n 18 dX12_timeOf_17 rfl rfl ?_
    refine s_iadd 19 dX12_timeOf_18 rfl ?_
    refine s_iald 20 dX12_timeOf_19 rfl sh_141 (Nat.le_of_ble_eq_true rfl) (by omega) (by omega) (fun r_19 => ?_)
    refine s_iret dX12_timeOf_20 rfl rfl ?_
    first | (rw [rdy, if_pos (by omega)] at h; exact h) | (rw [rdy, if_neg (by omega)] at h; exact h)
  refine s_iconst 9 dX12_timeOf_8 rfl ?_
  refine s_goto 20 dX12_timeOf_9 rfl ?_
  refine s_iret dX12_timeOf_20 rfl rfl ?_
  first | (rw [rdy, if_pos (by omega)] at h; exact h) | (rw [rdy, if_neg (by omega)] at h; exact h)
/-- CHANGE -/
def chF (r : F1) (rd p q : Int) : Int :=
  if p = q then 0 else
    if r (16 + q) > r (16 + p) then rdy rd q (r (23 + q)) + (if r (9 + q) = 1 then rdy rd q (r (37 + q)) else 0)
    else if r (16 + q) < r (16 + p) then rdy rd p (r (30 + p))
    else rdy rd q (r (23 + q)) + (if r (9 + q) = 1 then rdy rd q (r (37 + q)) else 0) + rdy rd p (r (30 + p))
theorem rdy_b {rd p v b : Int} (h : 0 ≤ v ∧ v ≤ b) : 0 ≤ rdy rd p v ∧ rdy rd p v ≤ b := by unfold rdy; split <;> omega
set_option maxHeartbeats 4000000 in
theorem c_X12_changeOf {E : ET} {I : MI} {L : ML} {R : MR} {Q : Option AV → MI → ML → MR → Prop} {r : F1} {rd p q : Int} (hT : Topo R) (er : I 141 = r) (erd : I 138 30 = rd) (hr : WFr r) (hp : 0 ≤ p ∧ p < 7) (hq : 0 ≤ q ∧ q < 7) (h : Q (some (vi (chF r rd p q))) I L R) : CT E M_X12_changeOf 161 yX12_changeOf [(vr (138)), (vi (p)), (vi (q))] I L R Q := by
  refine CT_of rfl rfl (fun h => by cases h) (Nat.le_of_ble_eq_true rfl) (fun X => ?_)
  show V X _ z0 0 [some (vr (138)), some (vi (p)), some (vi (q)), none, none] [] I L R _
  have e1 := hr.2.1 p (by omega) (by omega)
  have e2 := hr.2.1 q (by omega) (by omega)
  have b1 := rdy_b (rd := rd) (p := q) ⟨e2.2.2.2.2.1, e2.2.2.2.2.2.1⟩
  have b2 := rdy_b (rd := rd) (p := p) ⟨e1.2.2.2.2.2.2.1, e1.2.2.2.2.2.2.2.1⟩
  have b3 := rdy_b (rd := rd) (p := q) ⟨e2.2.2.2.2.2.2.2.2.1, e2.2.2.2.2.2.2.2.2.2⟩
  unfold chF at h
  refine s_iload_n 1 dX12_changeOf_0 rfl rfl ?_
  refine s_iload_n 2 dX12_changeOf_1 rfl rfl ?_
  refine s_icmp_ne 7 5 dX12_changeOf_2 rfl rfl (by first | omega | exact bI_r _ | exact iI_r _) (by first | omega | exact bI_r _ | exact iI_r _) (fun h_2 => ?_) (fun h_2 => ?_)
  · skip
    refine s_aload_n 8 dX12_changeOf_7 rfl rfl ?_
    refine s_bipush 10 dX12_changeOf_8 rfl (by decide) ?_
    refine s_iload_n 11 dX12_changeOf_10 rfl rfl ?_
    refine s_callV0 (M' := M_X12_timeOf) (as := [_, _]) 14 dX12_changeOf_11 rfl cw_X12_312 rfl rfl sh_138 rfl (by decide) (Nat.le_of_ble_eq_true rfl) (Nat.le_of_ble_eq_true rfl) (Nat.le_of_ble_eq_true rfl) (Nat.le_of_ble_eq_true rfl) ⟨rfl, rfl, rfl⟩ ?_
    refine c_X12_timeOf hT er erd (by omega) (by omega) ?_
    refine s_aload_n 15 dX12_changeOf_14 rfl rfl ?_
    refine s_getR 18 dX12_changeOf_15 rfl fl_X12_20 (fun _ _ _ _ => rfl) (T_X12_r hT) sh_138 (Nat.le_of_ble_eq_true rfl) ?_
    refine s_bipush 20 dX12_changeOf_18 rfl (by decide) ?_
    refine s_iload_n 21 dX12_changeOf_20 rfl rfl ?_
    refine s_iadd 22 dX12_changeOf_21 rfl ?_
    refine s_iald 23 dX12_changeOf_22 rfl sh_141 (Nat.le_of_ble_eq_true rfl) (by omega) (by omega) (fun r_22 => ?_)
    rw [er] at r_22 ⊢
    refine s_iconst 24 dX12_changeOf_23 rfl ?_
    refine s_icmp_ne 37 27 dX12_changeOf_24 rfl rfl (by first | omega | exact bI_r _ | exact iI_r _) (by first | omega | exact bI_r _ | exact iI_r _) (fun h_24 => ?_) (fun h_24 => ?_)
    · skip
      refine s_iconst 38 dX12_changeOf_37 rfl ?_
      refine s_iadd 39 dX12_changeOf_38 rfl ?_
      refine s_istore_n (ls' := [_, _, _, _, _]) 40 dX12_changeOf_39 rfl (Nat.le_of_ble_eq_true rfl) rfl rfl ?_
      refine s_aload_n 41 dX12_changeOf_40 rfl rfl ?_
      refine s_bipush 43 dX12_changeOf_41 rfl (by decide) ?_
      refine s_iload_n 44 dX12_changeOf_43 rfl rfl ?_
      refine s_callV0 (M' := M_X12_timeOf) (as := [_, _]) 47 dX12_changeOf_44 rfl cw_X12_312 rfl rfl sh_138 rfl (by decide) (Nat.le_of_ble_eq_true rfl) (Nat.le_of_ble_eq_true rfl) (Nat.le_of_ble_eq_true rfl) (Nat.le_of_ble_eq_true rfl) ⟨rfl, rfl, rfl⟩ ?_
      refine c_X12_timeOf hT er erd (by omega) (by omega) ?_
      refine s_istore (ls' := [_, _, _, _, _]) 49 dX12_changeOf_47 rfl (Nat.le_of_ble_eq_true rfl) rfl rfl ?_
      refine s_aload_n 50 dX12_changeOf_49 rfl rfl ?_
      refine s_getR 53 dX12_changeOf_50 rfl fl_X12_20 (fun _ _ _ _ => rfl) (T_X12_r hT) sh_138 (Nat.le_of_ble_eq_true rfl) ?_
      refine s_bipush 55 dX12_changeOf_53 rfl (by decide) ?_
      refine s_iload_n 56 dX12_changeOf_55 rfl rfl ?_
      refine s_iadd 57 dX12_changeOf_56 rfl ?_
      refine s_iald 58 dX12_changeOf_57 rfl sh_141 (Nat.le_of_ble_eq_true rfl) (by omega) (by omega) (fun r_57 => ?_)
      rw [er] at r_57 ⊢
      refine s_aload_n 59 dX12_changeOf_58 rfl rfl ?_
      refine s_getR 62 dX12_changeOf_59 rfl fl_X12_20 (fun _ _ _ _ => rfl) (T_X12_r hT) sh_138 (Nat.le_of_ble_eq_true rfl) ?_
      refine s_bipush 64 dX12_changeOf_62 rfl (by decide) ?_
      refine s_iload_n 65 dX12_changeOf_64 rfl rfl ?_
      refine s_iadd 66 dX12_changeOf_65 rfl ?_
      refine s_iald 67 dX12_changeOf_66 rfl sh_141 (Nat.le_of_ble_eq_true rfl) (by omega) (by omega) (fun r_66 => ?_)
      rw [er] at r_66 ⊢
      refine s_icmp_le 74 70 dX12_changeOf_67 rfl rfl (by first | omega | exact bI_r _ | exact iI_r _) (by first | omega | exact bI_r _ | exact iI_r _) (fun h_67 => ?_) (fun h_67 => ?_)
      · skip
        refine s_aload_n 75 dX12_changeOf_74 rfl rfl ?_
        refine s_getR 78 dX12_changeOf_75 rfl fl_X12_20 (fun _ _ _ _ => rfl) (T_X12_r hT) sh_138 (Nat.le_of_ble_eq_true rfl) ?_
        refine s_bipush 80 dX12_changeOf_78 rfl (by decide) ?_
        refine s_iload_n 81 dX12_changeOf_80 rfl rfl ?_
        refine s_iadd 82 dX12_changeOf_81 rfl ?_
        refine s_iald 83 dX12_changeOf_82 rfl sh_141 (Nat.le_of_ble_eq_true rfl) (by omega) (by omega) (fun r_82 => ?_)
        rw [er] at r_82 ⊢
        refine s_aload_n 84 dX12_changeOf_83 rfl rfl ?_
        refine s_getR 87 dX12_changeOf_84 rfl fl_X12_20 (fun _ _ _ _ => rfl) (T_X12_r hT) sh_138 (Nat.le_of_ble_eq_true rfl) ?_
        refine s_bipush 89 dX12_changeOf_87 rfl (by decide) ?_
        refine s_iload_n 90 dX12_changeOf_89 rfl rfl ?_
        refine s_iadd 91 dX12_changeOf_90 rfl ?_
        refine s_iald 92 dX12_changeOf_91 rfl sh_141 (Nat.le_of_ble_eq_true rfl) (by omega) (by omega) (fun r_91 => ?_)
        rw [er] at r_91 ⊢
        refine s_icmp_ge 100 95 dX12_changeOf_92 rfl rfl (by first | omega | exact bI_r _ | exact iI_r _) (by first | omega | exact bI_r _ | exact iI_r _) (fun h_92 => ?_) (fun h_92 => ?_)
        · skip
          refine s_iload_n 101 dX12_changeOf_100 rfl rfl ?_
          refine s_iload 103 dX12_changeOf_101 rfl rfl ?_
          refine s_iadd 104 dX12_changeOf_103 rfl ?_
          refine s_iret dX12_changeOf_104 rfl rfl ?_
          simp only [if_neg h_2] at h; (first | (rw [if_pos (by omega)] at h; first | (rw [if_pos (by omega)] at h; exact h) | (rw [if_neg (by omega)] at h; exact h)) | (rw [if_neg (by omega), if_pos (by omega)] at h; exact h) | (rw [if_neg (by omega), if_neg (by omega)] at h; first | (rw [if_pos (by omega)] at h; exact h) | (rw [if_neg (by omega)] at h; exact h)))
        refine s_iload 97 dX12_changeOf_95 rfl rfl ?_
        refine s_goto 104 dX12_changeOf_97 rfl ?_
        refine s_iret dX12_changeOf_104 rfl rfl ?_
        simp only [if_neg h_2] at h; (first | (rw [if_pos (by omega)] at h; first | (rw [if_pos (by omega)] at h; exact h) | (rw [if_neg (by omega)] at h; exact h)) | (rw [if_neg (by omega), if_pos (by omega)] at h; exact h) | (rw [if_neg (by omega), if_neg (by omega)] at h; first | (rw [if_pos (by omega)] at h; exact h) | (rw [if_neg (by omega)] at h; exact h)))
      refine s_iload_n 71 dX12_changeOf_70 rfl rfl ?_
      refine s_goto 104 dX12_changeOf_71 rfl ?_
      refine s_iret dX12_changeOf_104 rfl rfl ?_
      simp only [if_neg h_2] at h; (first | (rw [if_pos (by omega)] at h; first | (rw [if_pos (by omega)] at h; exact h) | (rw [if_neg (by omega)] at h; exact h)) | (rw [if_neg (by omega), if_pos (by omega)] at h; exact h) | (rw [if_neg (by omega), if_neg (by omega)] at h; first | (rw [if_pos (by omega)] at h; exact h) | (rw [if_neg (by omega)] at h; exact h)))
    refine s_aload_n 28 dX12_changeOf_27 rfl rfl ?_
    refine s_bipush 30 dX12_changeOf_28 rfl (by decide) ?_
    refine s_iload_n 31 dX12_changeOf_30 rfl rfl ?_
    refine s_callV0 (M' := M_X12_timeOf) (as := [_, _]) 34 dX12_changeOf_31 rfl cw_X12_312 rfl rfl sh_138 rfl (by decide) (Nat.le_of_ble_eq_true rfl) (Nat.le_of_ble_eq_true rfl) (Nat.le_of_ble_eq_true rfl) (Nat.le_of_ble_eq_true rfl) ⟨rfl, rfl, rfl⟩ ?_
    refine c_X12_timeOf hT er erd (by omega) (by omega) ?_
    refine s_goto 38 dX12_changeOf_34 rfl ?_
    refine s_iadd 39 dX12_changeOf_38 rfl ?_
    refine s_istore_n (ls' := [_, _, _, _, _]) 40 dX12_changeOf_39 rfl (Nat.le_of_ble_eq_true rfl) rfl rfl ?_
    refine s_aload_n 41 dX12_changeOf_40 rfl rfl ?_
    refine s_bipush 43 dX12_changeOf_41 rfl (by decide) ?_
    refine s_iload_n 44 dX12_changeOf_43 rfl rfl ?_
    refine s_callV0 (M' := M_X12_timeOf) (as := [_, _]) 47 dX12_changeOf_44 rfl cw_X12_312 rfl rfl sh_138 rfl (by decide) (Nat.le_of_ble_eq_true rfl) (Nat.le_of_ble_eq_true rfl) (Nat.le_of_ble_eq_true rfl) (Nat.le_of_ble_eq_true rfl) ⟨rfl, rfl, rfl⟩ ?_
    refine c_X12_timeOf hT er erd (by omega) (by omega) ?_
    refine s_istore (ls' := [_, _, _, _, _]) 49 dX12_changeOf_47 rfl (Nat.le_of_ble_eq_true rfl) rfl rfl ?_
    refine s_aload_n 50 dX12_changeOf_49 rfl rfl ?_
    refine s_getR 53 dX12_changeOf_50 rfl fl_X12_20 (fun _ _ _ _ => rfl) (T_X12_r hT) sh_138 (Nat.le_of_ble_eq_true rfl) ?_
    refine s_bipush 55 dX12_changeOf_53 rfl (by decide) ?_
    refine s_iload_n 56 dX12_changeOf_55 rfl rfl ?_
    refine s_iadd 57 dX12_changeOf_56 rfl ?_
    refine s_iald 58 dX12_changeOf_57 rfl sh_141 (Nat.le_of_ble_eq_true rfl) (by omega) (by omega) (fun r_57 => ?_)
    rw [er] at r_57 ⊢
    refine s_aload_n 59 dX12_changeOf_58 rfl rfl ?_
    refine s_getR 62 dX12_changeOf_59 rfl fl_X12_20 (fun _ _ _ _ => rfl) (T_X12_r hT) sh_138 (Nat.le_of_ble_eq_true rfl) ?_
    refine s_bipush 64 dX12_changeOf_62 rfl (by decide) ?_
    refine s_iload_n 65 dX12_changeOf_64 rfl rfl ?_
    refine s_iadd 66 dX12_changeOf_65 rfl ?_
    refine s_iald 67 dX12_changeOf_66 rfl sh_141 (Nat.le_of_ble_eq_true rfl) (by omega) (by omega) (fun r_66 => ?_)
    rw [er] at r_66 ⊢
    refine s_icmp_le 74 70 dX12_changeOf_67 rfl rfl (by first | omega | exact bI_r _ | exact iI_r _) (by first | omega | exact bI_r _ | exact iI_r _) (fun h_67 => ?_) (fun h_67 => ?_)
    · skip
      refine s_aload_n 75 dX12_changeOf_74 rfl rfl ?_
      refine s_getR 78 dX12_changeOf_75 rfl fl_X12_20 (fun _ _ _ _ => rfl) (T_X12_r hT) sh_138 (Nat.le_of_ble_eq_true rfl) ?_
      refine s_bipush 80 dX12_changeOf_78 rfl (by decide) ?_
      refine s_iload_n 81 dX12_changeOf_80 rfl rfl ?_
      refine s_iadd 82 dX12_changeOf_81 rfl ?_
      refine s_iald 83 dX12_changeOf_82 rfl sh_141 (Nat.le_of_ble_eq_true rfl) (by omega) (by omega) (fun r_82 => ?_)
      rw [er] at r_82 ⊢
      refine s_aload_n 84 dX12_changeOf_83 rfl rfl ?_
      refine s_getR 87 dX12_changeOf_84 rfl fl_X12_20 (fun _ _ _ _ => rfl) (T_X12_r hT) sh_138 (Nat.le_of_ble_eq_true rfl) ?_
      refine s_bipush 89 dX12_changeOf_87 rfl (by decide) ?_
      refine s_iload_n 90 dX12_changeOf_89 rfl rfl ?_
      refine s_iadd 91 dX12_changeOf_90 rfl ?_
      refine s_iald 92 dX12_changeOf_91 rfl sh_141 (Nat.le_of_ble_eq_true rfl) (by omega) (by omega) (fun r_91 => ?_)
      rw [er] at r_91 ⊢
      refine s_icmp_ge 100 95 dX12_changeOf_92 rfl rfl (by first | omega | exact bI_r _ | exact iI_r _) (by first | omega | exact bI_r _ | exact iI_r _) (fun h_92 => ?_) (fun h_92 => ?_)
      · skip
        refine s_iload_n 101 dX12_changeOf_100 rfl rfl ?_
        refine s_iload 103 dX12_changeOf_101 rfl rfl ?_
        refine s_iadd 104 dX12_changeOf_103 rfl ?_
        refine s_iret dX12_changeOf_104 rfl rfl ?_
        simp only [if_neg h_2] at h; (first | (rw [if_pos (by omega)] at h; first | (rw [if_pos (by omega)] at h; exact h) | (rw [if_neg (by omega)] at h; exact h)) | (rw [if_neg (by omega), if_pos (by omega)] at h; exact h) | (rw [if_neg (by omega), if_neg (by omega)] at h; first | (rw [if_pos (by omega)] at h; exact h) | (rw [if_neg (by omega)] at h; exact h)))
      refine s_iload 97 dX12_changeOf_95 rfl rfl ?_
      refine s_goto 104 dX12_changeOf_97 rfl ?_
      refine s_iret dX12_changeOf_104 rfl rfl ?_
      simp only [if_neg h_2] at h; (first | (rw [if_pos (by omega)] at h; first | (rw [if_pos (by omega)] at h; exact h) | (rw [if_neg (by omega)] at h; exact h)) | (rw [if_neg (by omega), if_pos (by omega)] at h; exact h) | (rw [if_neg (by omega), if_neg (by omega)] at h; first | (rw [if_pos (by omega)] at h; exact h) | (rw [if_neg (by omega)] at h; exact h)))
    refine s_iload_n 71 dX12_changeOf_70 rfl rfl ?_
    refine s_goto 104 dX12_changeOf_71 rfl ?_
    refine s_iret dX12_changeOf_104 rfl rfl ?_
    simp only [if_neg h_2] at h; (first | (rw [if_pos (by omega)] at h; first | (rw [if_pos (by omega)] at h; exact h) | (rw [if_neg (by omega)] at h; exact h)) | (rw [if_neg (by omega), if_pos (by omega)] at h; exact h) | (rw [if_neg (by omega), if_neg (by omega)] at h; first | (rw [if_pos (by omega)] at h; exact h) | (rw [if_neg (by omega)] at h; exact h)))
  refine s_iconst 6 dX12_changeOf_5 rfl ?_
  refine s_iret dX12_changeOf_6 rfl rfl ?_
  rw [if_pos h_2] at h; exact h
/-- NEED -/
def neF (r : F1) (rd k l : Int) : Int := chF r rd (r (54 + 7 * k + 0)) (r (54 + 7 * l + 0)) + (if r (54 + 7 * k + 5) = r (54 + 7 * l + 4) then 0 else r 1)
set_option maxHeartbeats 4000000 in
theorem c_X12_needOf {E : ET} {I : MI} {L : ML} {R : MR} {Q : Option AV → MI → ML → MR → Prop} {r : F1} {rd k l : Int} (hT : Topo R) (er : I 141 = r) (erd : I 138 30 = rd) (hr : WFr r) (hk : 0 ≤ k ∧ k < r 7) (hl : 0 ≤ l ∧ l < r 7) (h : Q (some (vi (neF r rd k l))) I L R) : CT E M_X12_needOf 161 yX12_needOf [(vr (138)), (vi (k)), (vi (l))] I L R Q := by
  refine CT_of rfl rfl (fun h => by cases h) (Nat.le_of_ble_eq_true rfl) (fun X => ?_)
  show V X _ z0 0 [some (vr (138)), some (vi (k)), some (vi (l))] [] I L R _
  have e0 := hr.1
  have e1 := hr.2.2.2.1 k (by omega) (by omega)
  have e2 := hr.2.2.2.1 l (by omega) (by omega)
  unfold neF at h
  refine s_aload_n 1 dX12_needOf_0 rfl rfl ?_
  refine s_aload_n 2 dX12_needOf_1 rfl rfl ?_
  refine s_iload_n 3 dX12_needOf_2 rfl rfl ?_
  refine s_iconst 4 dX12_needOf_3 rfl ?_
  refine s_callV0 (M' := M_X12_onOf) (as := [_, _]) 7 dX12_needOf_4 rfl cw_X12_302 rfl rfl sh_138 rfl (by decide) (Nat.le_of_ble_eq_true rfl) (Nat.le_of_ble_eq_true rfl) (Nat.le_of_ble_eq_true rfl) (Nat.le_of_ble_eq_true rfl) ⟨rfl, rfl, rfl⟩ ?_
  refine c_X12_onOf hT er (by omega) (by omega) ?_
  refine s_aload_n 8 dX12_needOf_7 rfl rfl ?_
  refine s_iload_n 9 dX12_needOf_8 rfl rfl ?_
  refine s_iconst 10 dX12_needOf_9 rfl ?_
  refine s_callV0 (M' := M_X12_onOf) (as := [_, _]) 13 dX12_needOf_10 rfl cw_X12_302 rfl rfl sh_138 rfl (by decide) (Nat.le_of_ble_eq_true rfl) (Nat.le_of_ble_eq_true rfl) (Nat.le_of_ble_eq_true rfl) (Nat.le_of_ble_eq_true rfl) ⟨rfl, rfl, rfl⟩ ?_
  refine c_X12_onOf hT er (by omega) (by omega) ?_
  refine s_callV0 (M' := M_X12_changeOf) (as := [_, _]) 16 dX12_needOf_13 rfl cw_X12_315 rfl rfl sh_138 rfl (by decide) (Nat.le_of_ble_eq_true rfl) (Nat.le_of_ble_eq_true rfl) (Nat.le_of_ble_eq_true rfl) (Nat.le_of_ble_eq_true rfl) ⟨rfl, rfl, rfl⟩ ?_
  refine c_X12_changeOf hT er erd hr (by omega) (by omega) ?_
  refine s_aload_n 17 dX12_needOf_16 rfl rfl ?_
  refine s_iload_n 18 dX12_needOf_17 rfl rfl ?_
  refine s_iconst 19 dX12_needOf_18 rfl ?_
  refine s_callV0 (M' := M_X12_onOf) (as := [_, _]) 22 dX12_needOf_19 rfl cw_X12_302 rfl rfl sh_138 rfl (by decide) (Nat.le_of_ble_eq_true rfl) (Nat.le_of_ble_eq_true rfl) (Nat.le_of_ble_eq_true rfl) (Nat.le_of_ble_eq_true rfl) ⟨rfl, rfl, rfl⟩ ?_
  refine c_X12_onOf hT er (by omega) (by omega) ?_
  refine s_aload_n 23 dX12_needOf_22 rfl rfl ?_
  refine s_iload_n 24 dX12_needOf_23 rfl rfl ?_
  refine s_iconst 25 dX12_needOf_24 rfl ?_
  refine s_callV0 (M' := M_X12_onOf) (as := [_, _]) 28 dX12_needOf_25 rfl cw_X12_302 rfl rfl sh_138 rfl (by decide) (Nat.le_of_ble_eq_true rfl) (Nat.le_of_ble_eq_true rfl) (Nat.le_of_ble_eq_true rfl) (Nat.le_of_ble_eq_true rfl) ⟨rfl, rfl, rfl⟩ ?_
  refine c_X12_onOf hT er (by omega) (by omega) ?_
  refine s_icmp_eq 40 31 dX12_needOf_28 rfl rfl (by first | omega | exact bI_r _ | exact iI_r _) (by first | omega | exact bI_r _ | exact iI_r _) (fun h_28 => ?_) (fun h_28 => ?_)
  · skip
    refine s_iconst 41 dX12_needOf_40 rfl ?_
    refine s_iadd 42 dX12_needOf_41 rfl ?_
    refine s_iret dX12_needOf_42 rfl rfl ?_
    first | (rw [if_pos (by omega)] at h; exact h) | (rw [if_neg (by omega)] at h; exact h)
  refine s_aload_n 32 dX12_needOf_31 rfl rfl ?_
  refine s_getR 35 dX12_needOf_32 rfl fl_X12_20 (fun _ _ _ _ => rfl) (T_X12_r hT) sh_138 (Nat.le_of_ble_eq_true rfl) ?_
  refine s_iconst 36 dX12_needOf_35 rfl ?_
  refine s_iald 37 dX12_needOf_36 rfl sh_141 (Nat.le_of_ble_eq_true rfl) (by omega) (by omega) (fun r_36 => ?_)
  rw [er] at r_36 ⊢
  refine s_goto 41 dX12_needOf_37 rfl ?_
  refine s_iadd 42 dX12_needOf_41 rfl ?_
  refine s_iret dX12_needOf_42 rfl rfl ?_
  first | (rw [if_pos (by omega)] at h; exact h) | (rw [if_neg (by omega)] at h; exact h)
set_option maxHeartbeats 4000000 in
theorem c_X12_doMeet {E : ET} {I : MI} {L : ML} {R : MR} {Q : Option AV → MI → ML → MR → Prop} {b c : F1} {k l : Int} (hT : Topo R) (e0 : I 150 = b) (e1 : I 151 = c) (hk : 0 ≤ k ∧ k < 14) (hl : 0 ≤ l ∧ l < 14) (h : Q (some (vi (bI (b k < c l ∧ b l < c k)))) I L R) : CT E M_X12_doMeet 161 yX12_doMeet [(vr (138)), (vi (k)), (vi (l))] I L R Q := by
  refine CT_of rfl rfl (fun h => by cases h) (Nat.le_of_ble_eq_true rfl) (fun X => ?_)
  show V X _ z0 0 [some (vr (138)), some (vi (k)), some (vi (l))] [] I L R _
  subst e0; subst e1
  refine s_aload_n 1 dX12_doMeet_0 rfl rfl ?_
  refine s_getR 4 dX12_doMeet_1 rfl fl_X12_47 (fun _ _ _ _ => rfl) (T_X12_begin hT) sh_138 (Nat.le_of_ble_eq_true rfl) ?_
  refine s_iload_n 5 dX12_doMeet_4 rfl rfl ?_
  refine s_iald 6 dX12_doMeet_5 rfl sh_150 (Nat.le_of_ble_eq_true rfl) (by omega) (by omega) (fun r_5 => ?_)
  refine s_aload_n 7 dX12_doMeet_6 rfl rfl ?_
  refine s_getR 10 dX12_doMeet_7 rfl fl_X12_50 (fun _ _ _ _ => rfl) (T_X12_close hT) sh_138 (Nat.le_of_ble_eq_true rfl) ?_
  refine s_iload_n 11 dX12_doMeet_10 rfl rfl ?_
  refine s_iald 12 dX12_doMeet_11 rfl sh_151 (Nat.le_of_ble_eq_true rfl) (by omega) (by omega) (fun r_11 => ?_)
  refine s_icmp_ge 34 15 dX12_doMeet_12 rfl rfl (by first | omega | exact bI_r _ | exact iI_r _) (by first | omega | exact bI_r _ | exact iI_r _) (fun h_12 => ?_) (fun h_12 => ?_)
  · skip
    refine s_iconst 35 dX12_doMeet_34 rfl ?_
    refine s_zret dX12_doMeet_35 rfl (by first | omega | exact bI_b _) rfl ?_
    first | exact ret_t (by omega) h | exact ret_f (by omega) h
  refine s_aload_n 16 dX12_doMeet_15 rfl rfl ?_
  refine s_getR 19 dX12_doMeet_16 rfl fl_X12_47 (fun _ _ _ _ => rfl) (T_X12_begin hT) sh_138 (Nat.le_of_ble_eq_true rfl) ?_
  refine s_iload_n 20 dX12_doMeet_19 rfl rfl ?_
  refine s_iald 21 dX12_doMeet_20 rfl sh_150 (Nat.le_of_ble_eq_true rfl) (by omega) (by omega) (fun r_20 => ?_)
  refine s_aload_n 22 dX12_doMeet_21 rfl rfl ?_
  refine s_getR 25 dX12_doMeet_22 rfl fl_X12_50 (fun _ _ _ _ => rfl) (T_X12_close hT) sh_138 (Nat.le_of_ble_eq_true rfl) ?_
  refine s_iload_n 26 dX12_doMeet_25 rfl rfl ?_
  refine s_iald 27 dX12_doMeet_26 rfl sh_151 (Nat.le_of_ble_eq_true rfl) (by omega) (by omega) (fun r_26 => ?_)
  refine s_icmp_ge 34 30 dX12_doMeet_27 rfl rfl (by first | omega | exact bI_r _ | exact iI_r _) (by first | omega | exact bI_r _ | exact iI_r _) (fun h_27 => ?_) (fun h_27 => ?_)
  · skip
    refine s_iconst 35 dX12_doMeet_34 rfl ?_
    refine s_zret dX12_doMeet_35 rfl (by first | omega | exact bI_b _) rfl ?_
    first | exact ret_t (by omega) h | exact ret_f (by omega) h
  refine s_iconst 31 dX12_doMeet_30 rfl ?_
  refine s_goto 35 dX12_doMeet_31 rfl ?_
  refine s_zret dX12_doMeet_35 rfl (by first | omega | exact bI_b _) rfl ?_
  first | exact ret_t (by omega) h | exact ret_f (by omega) h
/-- what a copy leaves -/
def cpI (I : MI) (a : Nat) (i : Int) (b : Nat) (j n : Int) : MI := fun c => if c = b then (fun k => if j ≤ k ∧ k < j + n then I a (i + (k - j)) else I b k) else I c
theorem cpI_0 {I : MI} {a : Nat} {i : Int} {b : Nat} {j : Int} : cpI I a i b j 0 = I := by
  funext c k
  unfold cpI
  split
  · next e => subst e; simp only []; rw [if_neg (by omega)]
  · rfl
theorem cpI_s {I : MI} {a : Nat} {i : Int} {b : Nat} {j n : Int} (hn : 0 ≤ n) : up (cpI I a i b j n) b (j + n) (I a (i + n)) = cpI I a i b j (n + 1) := by
  funext c k
  by_cases e : c = b
  · subst e
    rw [upd9]
    simp only [cpI, if_true]
    by_cases ek : k = j + n
    · subst ek
      rw [if_pos rfl, if_pos (by omega), show j + n - j = n by omega]
    · rw [if_neg ek]
      by_cases h1 : j ≤ k ∧ k < j + n
      · rw [if_pos h1, if_pos (by omega)]
      · rw [if_neg h1, if_neg (by omega)]
  · rw [up_ne e]
    simp only [cpI, if_neg e]
theorem cpI_ne {I : MI} {a : Nat} {i : Int} {b : Nat} {j n : Int} {c : Nat} (h : c ≠ b) : cpI I a i b j n c = I c := if_neg h
theorem cpI_eq {I : MI} {a : Nat} {i : Int} {b : Nat} {j n : Int} : cpI I a i b j n b = fun k => if j ≤ k ∧ k < j + n then I a (i + (k - j)) else I b k := if_pos rfl
set_option maxHeartbeats 4000000 in
theorem c_X12_copy {E : ET} {I : MI} {L : ML} {R : MR} {Q : Option AV → MI → ML → MR → Prop} {a b na nb : Nat} {i j n : Int} (ha : sh a = (20, na)) (hb : sh b = (20, nb)) (hna : na ≤ 4000 ∧ nb ≤ 4000) (ha1 : a < 161) (hb1 : b < 161) (hab : a ≠ b) (hi : 0 ≤ i ∧ i + n ≤ na) (hj : 0 ≤ j ∧ j + n ≤ nb) (hn : 0 ≤ n) (h : Q none (cpI I a i b j n) L R) : CT E M_X12_copy 161 yX12_copy [(vr (a)), (vi (i)), (vr (b)), (vi (j)), (vi (n))] I L R Q := by
  refine CT_of rfl rfl (fun h => by cases h) (Nat.le_of_ble_eq_true rfl) (fun X => ?_)
  show V X _ z0 0 [some (vr (a)), some (vi (i)), some (vr (b)), some (vi (j)), some (vi (n)), none] [] I L R _
  have loop : ∀ (f : Nat) (k : Int), n - k < (f : Int) → 0 ≤ k → k ≤ n → V X M_X12_copy z0 3 [some (vr (a)), some (vi (i)), some (vr (b)), some (vi (j)), some (vi (n)), some (vi (k))] [] (cpI I a i b j k) L R (RT X M_X12_copy Q) := by
    intro f
    induction f with
    | zero => intro k h1 h2 h3; omega
    | succ f ih =>
      intro k h1 h2 h3
      refine s_iload 5 dX12_copy_3 rfl rfl ?_
      refine s_iload 7 dX12_copy_5 rfl rfl ?_
      refine s_icmp_ge 28 10 dX12_copy_7 rfl rfl (by first | omega | exact bI_r _ | exact iI_r _) (by first | omega | exact bI_r _ | exact iI_r _) (fun h_7 => ?_) (fun h_7 => ?_)
      · skip
        refine s_vret dX12_copy_28 rfl rfl ?_
        have e : k = n := by omega
        subst e; exact h
      refine s_aload_n 11 dX12_copy_10 rfl rfl ?_
      refine s_iload_n 12 dX12_copy_11 rfl rfl ?_
      refine s_iload 14 dX12_copy_12 rfl rfl ?_
      refine s_iadd 15 dX12_copy_14 rfl ?_
      refine s_aload_n 16 dX12_copy_15 rfl rfl ?_
      refine s_iload_n 17 dX12_copy_16 rfl rfl ?_
      refine s_iload 19 dX12_copy_17 rfl rfl ?_
      refine s_iadd 20 dX12_copy_19 rfl ?_
      refine s_iald 21 dX12_copy_20 rfl (by assumption) (by assumption) (by omega) (by omega) (fun r_20 => ?_)
      refine s_iast 22 dX12_copy_21 rfl (by assumption) (by assumption) (by omega) (by omega) (by first | omega | exact bI_r _ | exact iI_r _) ?_
      refine s_iinc (ls' := [_, _, _, _, _, _]) 25 dX12_copy_22 rfl rfl (Nat.le_of_ble_eq_true rfl) rfl rfl ?_
      refine s_goto 3 dX12_copy_25 rfl ?_
      rw [cpI_ne hab, cpI_s h2]
      exact ih (k + 1) (by omega) (by omega) (by omega)
  refine s_iconst 1 dX12_copy_0 rfl ?_
  refine s_istore (ls' := [_, _, _, _, _, _]) 3 dX12_copy_1 rfl (Nat.le_of_ble_eq_true rfl) rfl rfl ?_
  have := loop (n + 1).toNat 0 (by omega) (by omega) (by omega)
  rw [cpI_0] at this; exact this
