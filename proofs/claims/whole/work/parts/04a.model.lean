/-! the reference: its small methods -/
theorem c_X12_good {E : ET} {I : MI} {L : ML} {R : MR} {Q : Option AV → MI → ML → MR → Prop} (h : Q none (up (up I 138 0 0) 138 11 0) L R) : CT E M_X12_good 161 yX12_good [vr 138] I L R Q := by
  refine CT_of rfl rfl (fun h => by cases h) (Nat.le_of_ble_eq_true rfl) (fun X => ?_)
  show V X _ z0 0 [some (vr 138)] [] I L R _
  refine s_aload_n 1 dX12_good_0 rfl rfl ?_
  refine s_iconst 2 dX12_good_1 rfl ?_
  refine s_putI 5 dX12_good_2 rfl fl_X12_81 (fun _ => rfl) (fun _ => rfl) (fun _ _ _ _ => rfl) sh_138 (Nat.le_of_ble_eq_true rfl) (by omega) ?_
  refine s_aload_n 6 dX12_good_5 rfl rfl ?_
  refine s_iconst 7 dX12_good_6 rfl ?_
  refine s_putI 10 dX12_good_7 rfl fl_X12_84 (fun _ => rfl) (fun _ => rfl) (fun _ _ _ _ => rfl) sh_138 (Nat.le_of_ble_eq_true rfl) (by omega) ?_
  refine s_vret dX12_good_10 rfl rfl ?_
  exact h
theorem c_X12_no {E : ET} {I : MI} {L : ML} {R : MR} {Q : Option AV → MI → ML → MR → Prop} {w : Int} (hw : 0 ≤ w ∧ w ≤ 9) (h : Q (some (vi (-1))) (up I 138 11 w) L R) : CT E M_X12_no 161 yX12_no [vr 138, vi w] I L R Q := by
  refine CT_of rfl rfl (fun h => by cases h) (Nat.le_of_ble_eq_true rfl) (fun X => ?_)
  show V X _ z0 0 [some (vr 138), some (vi w)] [] I L R _
  refine s_aload_n 1 dX12_no_0 rfl rfl ?_
  refine s_iload_n 2 dX12_no_1 rfl rfl ?_
  refine s_putI 5 dX12_no_2 rfl fl_X12_84 (fun _ => rfl) (fun _ => rfl) (fun _ _ _ _ => rfl) sh_138 (Nat.le_of_ble_eq_true rfl) (by omega) ?_
  refine s_iconst 6 dX12_no_5 rfl ?_
  refine s_iret dX12_no_6 rfl rfl ?_
  exact h
theorem c_X12_within {E : ET} {I : MI} {L : ML} {R : MR} {Q : Option AV → MI → ML → MR → Prop} {v a b : Int} (hv : -2147483648 ≤ v ∧ v ≤ 2147483647) (ha : -2147483648 ≤ a ∧ a ≤ 2147483647) (hb : -2147483648 ≤ b ∧ b ≤ 2147483647) (h : Q (some (vi (bI (a ≤ v ∧ v ≤ b)))) I L R) : CT E M_X12_within 161 yX12_within [vi v, vi a, vi b] I L R Q := by
  refine CT_of rfl rfl (fun h => by cases h) (Nat.le_of_ble_eq_true rfl) (fun X => ?_)
  show V X _ z0 0 [some (vi v), some (vi a), some (vi b)] [] I L R _
  refine s_iload_n 1 dX12_within_0 rfl rfl ?_
  refine s_iload_n 2 dX12_within_1 rfl rfl ?_
  refine s_icmp_lt 14 5 dX12_within_2 rfl rfl (by omega) (by omega) (fun h_2 => ?_) (fun h_2 => ?_)
  · skip
    refine s_iconst 15 dX12_within_14 rfl ?_
    refine s_zret dX12_within_15 rfl (by omega) rfl ?_
    first | exact ret_t (by omega) h | exact ret_f (by omega) h
  · skip
    refine s_iload_n 6 dX12_within_5 rfl rfl ?_
    refine s_iload_n 7 dX12_within_6 rfl rfl ?_
    refine s_icmp_gt 14 10 dX12_within_7 rfl rfl (by omega) (by omega) (fun h_7 => ?_) (fun h_7 => ?_)
    · skip
      refine s_iconst 15 dX12_within_14 rfl ?_
      refine s_zret dX12_within_15 rfl (by omega) rfl ?_
      first | exact ret_t (by omega) h | exact ret_f (by omega) h
    · skip
      refine s_iconst 11 dX12_within_10 rfl ?_
      refine s_goto 15 dX12_within_11 rfl ?_
      refine s_zret dX12_within_15 rfl (by omega) rfl ?_
      first | exact ret_t (by omega) h | exact ret_f (by omega) h
theorem c_X12_has {E : ET} {I : MI} {L : ML} {R : MR} {Q : Option AV → MI → ML → MR → Prop} {s k : Int} (h : Q (some (vi (bI (hasI s k)))) I L R) : CT E M_X12_has 161 yX12_has [vi s, vi k] I L R Q := by
  refine CT_of rfl rfl (fun h => by cases h) (Nat.le_of_ble_eq_true rfl) (fun X => ?_)
  show V X _ z0 0 [some (vi s), some (vi k)] [] I L R _
  have hr := iI_r (iI (ishr s k) &&& iI 1)
  refine s_iload_n 1 dX12_has_0 rfl rfl ?_
  refine s_iload_n 2 dX12_has_1 rfl rfl ?_
  refine s_ishr 3 dX12_has_2 rfl ?_
  refine s_iconst 4 dX12_has_3 rfl ?_
  refine s_iand 5 dX12_has_4 rfl ?_
  refine s_iconst 6 dX12_has_5 rfl ?_
  refine s_icmp_ne 13 9 dX12_has_6 rfl rfl (by first | omega | exact hr) (by first | omega | exact hr) (fun h_6 => ?_) (fun h_6 => ?_)
  · skip
    refine s_iconst 14 dX12_has_13 rfl ?_
    refine s_zret dX12_has_14 rfl (by first | omega | exact hr) rfl ?_
    first | exact ret_t (by assumption) h | exact ret_f (by assumption) h
  · skip
    refine s_iconst 10 dX12_has_9 rfl ?_
    refine s_goto 14 dX12_has_10 rfl ?_
    refine s_zret dX12_has_14 rfl (by first | omega | exact hr) rfl ?_
    first | exact ret_t (by assumption) h | exact ret_f (by assumption) h
theorem c_X12_onOf {E : ET} {I : MI} {L : ML} {R : MR} {Q : Option AV → MI → ML → MR → Prop} {k w : Int} (hT : Topo R) (hk : 0 ≤ k ∧ k < 14) (hw : 0 ≤ w ∧ w < 7) (h : Q (some (vi (I 141 (54 + 7 * k + w)))) I L R) : CT E M_X12_onOf 161 yX12_onOf [vr 138, vi k, vi w] I L R Q := by
  refine CT_of rfl rfl (fun h => by cases h) (Nat.le_of_ble_eq_true rfl) (fun X => ?_)
  show V X _ z0 0 [some (vr 138), some (vi k), some (vi w)] [] I L R _
  refine s_aload_n 1 dX12_onOf_0 rfl rfl ?_
  refine s_getR 4 dX12_onOf_1 rfl fl_X12_20 (fun _ _ _ _ => rfl) (T_X12_r hT) sh_138 (Nat.le_of_ble_eq_true rfl) ?_
  refine s_bipush 6 dX12_onOf_4 rfl (by decide) ?_
  refine s_bipush 8 dX12_onOf_6 rfl (by decide) ?_
  refine s_iload_n 9 dX12_onOf_8 rfl rfl ?_
  refine s_imul 10 dX12_onOf_9 rfl ?_
  refine s_iadd 11 dX12_onOf_10 rfl ?_
  refine s_iload_n 12 dX12_onOf_11 rfl rfl ?_
  refine s_iadd 13 dX12_onOf_12 rfl ?_
  refine s_iald 14 dX12_onOf_13 rfl sh_141 (Nat.le_of_ble_eq_true rfl) (by omega) (by decide) (fun r_13 => ?_)
  refine s_iret dX12_onOf_14 rfl rfl ?_
  exact h
