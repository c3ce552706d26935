/-! the law, case by case: the class answers, then the reference, the same: 27 .. 35 -/
set_option maxHeartbeats 4000000 in
theorem lw_c27 {X : XT} {c9 s9 : Nat} {I : MI} {L : ML} {R : MR} {F : State → Prop} {Ls : Int} {sc : Int → Int} {i m : Int} {w5 w6 : Option AV} (hS : ScX X Ls sc) (hi : 0 ≤ i ∧ i + 6 ≤ Ls) (hm : 0 ≤ m ∧ m ≤ 900000) (hJ : Jb I L R m)
    (k : ∀ c' s' w5' w6' I' L' R', c' ≤ c9 + 1 → s' ≤ s9 + 6 → Jb I' L' R' (m + 8) → V X M_L_law (c', s', 161) 1428 [some (vq 3 0), some (vr 0), some (vr 138), some (vr 160), some (vi i), w5', w6'] [] I' L' R' F) : V X M_L_law (c9, s9, 161) 943 [some (vq 3 0), some (vr 0), some (vr 138), some (vr 160), some (vi i), w5, w6] [] I L R F := by
  have hsr := hS.r
  obtain ⟨bt, n, ft, pl, w, HP, r, s, a, U, D, K, P, P', hT, hC, hM, hN⟩ := hJ
  have hr := hC.hr
  have hul := hC.ul
  refine s_aload_n 944 dL_law_943 rfl rfl ?_
  refine s_callV0 (M' := M_X11_gap) (as := []) 947 dL_law_944 rfl cw_L_131 rfl rfl sh_0 rfl (by decide) q0 (Nat.le_of_ble_eq_true rfl) (Nat.le_of_ble_eq_true rfl) (Nat.le_of_ble_eq_true rfl) ⟨rfl, rfl, rfl⟩ ?_
  refine c_X11_gap hT hC hm (fun I1 g1 g2 => ?_)
  refine s_aload_n 948 dL_law_947 rfl rfl ?_
  refine s_callV0 (M' := M_X12_gap) (as := []) 951 dL_law_948 rfl cw_L_134 rfl rfl sh_138 rfl (by decide) q138 (Nat.le_of_ble_eq_true rfl) (Nat.le_of_ble_eq_true rfl) (Nat.le_of_ble_eq_true rfl) ⟨rfl, rfl, rfl⟩ ?_
  obtain ⟨er, es, erd, ehp⟩ := (hM.hi g1).ers
  refine c_X12_gap hT er es erd ehp (fun z => ⟨(hr z).1, (hr z).p⟩) (fun I2 e2 => ?_)
  refine s_icmp_same 1428 dL_law_951 rfl ?_
  exact k _ _ _ _ _ _ _ (by omega) (by omega) (Jb.q hT hN g2 (hM.hi g1) e2 (by omega))
set_option maxHeartbeats 4000000 in
theorem lw_c28 {X : XT} {c9 s9 : Nat} {I : MI} {L : ML} {R : MR} {F : State → Prop} {Ls : Int} {sc : Int → Int} {i m : Int} {w5 w6 : Option AV} (hS : ScX X Ls sc) (hi : 0 ≤ i ∧ i + 6 ≤ Ls) (hm : 0 ≤ m ∧ m ≤ 900000) (hJ : Jb I L R m)
    (k : ∀ c' s' w5' w6' I' L' R', c' ≤ c9 + 1 → s' ≤ s9 + 6 → Jb I' L' R' (m + 8) → V X M_L_law (c', s', 161) 1428 [some (vq 3 0), some (vr 0), some (vr 138), some (vr 160), some (vi i), w5', w6'] [] I' L' R' F) : V X M_L_law (c9, s9, 161) 956 [some (vq 3 0), some (vr 0), some (vr 138), some (vr 160), some (vi i), w5, w6] [] I L R F := by
  have hsr := hS.r
  obtain ⟨bt, n, ft, pl, w, HP, r, s, a, U, D, K, P, P', hT, hC, hM, hN⟩ := hJ
  have hr := hC.hr
  have hul := hC.ul
  refine s_aload_n 957 dL_law_956 rfl rfl ?_
  refine s_callV0 (M' := M_X11_swaps) (as := []) 960 dL_law_957 rfl cw_L_135 rfl rfl sh_0 rfl (by decide) q0 (Nat.le_of_ble_eq_true rfl) (Nat.le_of_ble_eq_true rfl) (Nat.le_of_ble_eq_true rfl) ⟨rfl, rfl, rfl⟩ ?_
  refine c_X11_swaps hT hC hm (fun I1 g1 g2 => ?_)
  refine s_aload_n 961 dL_law_960 rfl rfl ?_
  refine s_callV0 (M' := M_X12_swaps) (as := []) 964 dL_law_961 rfl cw_L_138 rfl rfl sh_138 rfl (by decide) q138 (Nat.le_of_ble_eq_true rfl) (Nat.le_of_ble_eq_true rfl) (Nat.le_of_ble_eq_true rfl) ⟨rfl, rfl, rfl⟩ ?_
  obtain ⟨er, es, erd, ehp⟩ := (hM.hi g1).ers
  refine c_X12_swaps hT er es erd ehp (fun z => ⟨(hr z).1, rfl, (hr z).2.1, (hr z).2.2.1⟩) (fun I2 e2 => ?_)
  refine s_icmp_same 1428 dL_law_964 rfl ?_
  exact k _ _ _ _ _ _ _ (by omega) (by omega) (Jb.q hT hN g2 (hM.hi g1) e2 (by omega))
set_option maxHeartbeats 4000000 in
theorem lw_c29 {X : XT} {c9 s9 : Nat} {I : MI} {L : ML} {R : MR} {F : State → Prop} {Ls : Int} {sc : Int → Int} {i m : Int} {w5 w6 : Option AV} (hS : ScX X Ls sc) (hi : 0 ≤ i ∧ i + 6 ≤ Ls) (hm : 0 ≤ m ∧ m ≤ 900000) (hJ : Jb I L R m)
    (k : ∀ c' s' w5' w6' I' L' R', c' ≤ c9 + 1 → s' ≤ s9 + 6 → Jb I' L' R' (m + 8) → V X M_L_law (c', s', 161) 1428 [some (vq 3 0), some (vr 0), some (vr 138), some (vr 160), some (vi i), w5', w6'] [] I' L' R' F) : V X M_L_law (c9, s9, 161) 969 [some (vq 3 0), some (vr 0), some (vr 138), some (vr 160), some (vi i), w5, w6] [] I L R F := by
  have hsr := hS.r
  obtain ⟨bt, n, ft, pl, w, HP, r, s, a, U, D, K, P, P', hT, hC, hM, hN⟩ := hJ
  have hr := hC.hr
  have hul := hC.ul
  refine s_aload_n 970 dL_law_969 rfl rfl ?_
  refine s_aloadq_n 971 dL_law_970 rfl rfl ?_
  refine s_iload 973 dL_law_971 rfl rfl ?_
  refine s_iconst 974 dL_law_973 rfl ?_
  refine s_iadd 975 dL_law_974 rfl ?_
  refine s_sld 976 dL_law_975 rfl hS (by omega) ?_
  refine s_callV0 (M' := M_X11_who) (as := [_]) 979 dL_law_976 rfl cw_L_139 rfl rfl sh_0 rfl (by decide) q0 (Nat.le_of_ble_eq_true rfl) (Nat.le_of_ble_eq_true rfl) (Nat.le_of_ble_eq_true rfl) ⟨rfl, rfl, rfl⟩ ?_
  refine c_X11_who hT hC hm (hsr _) (fun I1 g1 g2 => ?_)
  refine s_aload_n 980 dL_law_979 rfl rfl ?_
  refine s_aloadq_n 981 dL_law_980 rfl rfl ?_
  refine s_iload 983 dL_law_981 rfl rfl ?_
  refine s_iconst 984 dL_law_983 rfl ?_
  refine s_iadd 985 dL_law_984 rfl ?_
  refine s_sld 986 dL_law_985 rfl hS (by omega) ?_
  refine s_callV0 (M' := M_X12_who) (as := [_]) 989 dL_law_986 rfl cw_L_142 rfl rfl sh_138 rfl (by decide) q138 (Nat.le_of_ble_eq_true rfl) (Nat.le_of_ble_eq_true rfl) (Nat.le_of_ble_eq_true rfl) ⟨rfl, rfl, rfl⟩ ?_
  obtain ⟨er, es, erd, ehp⟩ := (hM.hi g1).ers
  refine c_X12_who hT er es erd ehp hr (hsr _) (fun I2 e2 => ?_)
  refine s_icmp_same 1428 dL_law_989 rfl ?_
  exact k _ _ _ _ _ _ _ (by omega) (by omega) (Jb.q hT hN g2 (hM.hi g1) e2 (by omega))
set_option maxHeartbeats 4000000 in
theorem lw_c30 {X : XT} {c9 s9 : Nat} {I : MI} {L : ML} {R : MR} {F : State → Prop} {Ls : Int} {sc : Int → Int} {i m : Int} {w5 w6 : Option AV} (hS : ScX X Ls sc) (hi : 0 ≤ i ∧ i + 6 ≤ Ls) (hm : 0 ≤ m ∧ m ≤ 900000) (hJ : Jb I L R m)
    (k : ∀ c' s' w5' w6' I' L' R', c' ≤ c9 + 1 → s' ≤ s9 + 6 → Jb I' L' R' (m + 8) → V X M_L_law (c', s', 161) 1428 [some (vq 3 0), some (vr 0), some (vr 138), some (vr 160), some (vi i), w5', w6'] [] I' L' R' F) : V X M_L_law (c9, s9, 161) 994 [some (vq 3 0), some (vr 0), some (vr 138), some (vr 160), some (vi i), w5, w6] [] I L R F := by
  have hsr := hS.r
  obtain ⟨bt, n, ft, pl, w, HP, r, s, a, U, D, K, P, P', hT, hC, hM, hN⟩ := hJ
  have hr := hC.hr
  have hul := hC.ul
  refine s_aload_n 995 dL_law_994 rfl rfl ?_
  refine s_aloadq_n 996 dL_law_995 rfl rfl ?_
  refine s_iload 998 dL_law_996 rfl rfl ?_
  refine s_iconst 999 dL_law_998 rfl ?_
  refine s_iadd 1000 dL_law_999 rfl ?_
  refine s_sld 1001 dL_law_1000 rfl hS (by omega) ?_
  refine s_aloadq_n 1002 dL_law_1001 rfl rfl ?_
  refine s_iload 1004 dL_law_1002 rfl rfl ?_
  refine s_iconst 1005 dL_law_1004 rfl ?_
  refine s_iadd 1006 dL_law_1005 rfl ?_
  refine s_sld 1007 dL_law_1006 rfl hS (by omega) ?_
  refine s_callV0 (M' := M_X11_same) (as := [_, _]) 1010 dL_law_1007 rfl cw_L_143 rfl rfl sh_0 rfl (by decide) q0 (Nat.le_of_ble_eq_true rfl) (Nat.le_of_ble_eq_true rfl) (Nat.le_of_ble_eq_true rfl) ⟨rfl, rfl, rfl⟩ ?_
  refine c_X11_same hT hC hm (hsr _) (hsr _) (fun I1 g1 g2 => ?_)
  refine s_aload_n 1011 dL_law_1010 rfl rfl ?_
  refine s_aloadq_n 1012 dL_law_1011 rfl rfl ?_
  refine s_iload 1014 dL_law_1012 rfl rfl ?_
  refine s_iconst 1015 dL_law_1014 rfl ?_
  refine s_iadd 1016 dL_law_1015 rfl ?_
  refine s_sld 1017 dL_law_1016 rfl hS (by omega) ?_
  refine s_aloadq_n 1018 dL_law_1017 rfl rfl ?_
  refine s_iload 1020 dL_law_1018 rfl rfl ?_
  refine s_iconst 1021 dL_law_1020 rfl ?_
  refine s_iadd 1022 dL_law_1021 rfl ?_
  refine s_sld 1023 dL_law_1022 rfl hS (by omega) ?_
  refine s_callV0 (M' := M_X12_same) (as := [_, _]) 1026 dL_law_1023 rfl cw_L_146 rfl rfl sh_138 rfl (by decide) q138 (Nat.le_of_ble_eq_true rfl) (Nat.le_of_ble_eq_true rfl) (Nat.le_of_ble_eq_true rfl) ⟨rfl, rfl, rfl⟩ ?_
  obtain ⟨er, es, erd, ehp⟩ := (hM.hi g1).ers
  refine c_X12_same hT er erd ehp (fun z => (hr z).1) (hsr _) (hsr _) (fun C9 eC => ?_)
  subst eC
  refine s_icmp_same 1428 dL_law_1026 rfl ?_
  exact k _ _ _ _ _ _ _ (by omega) (by omega) (Jb.q hT hN g2 (hM.hi g1) (fun _ _ => rfl) (by omega))
set_option maxHeartbeats 4000000 in
theorem lw_c31 {X : XT} {c9 s9 : Nat} {I : MI} {L : ML} {R : MR} {F : State → Prop} {Ls : Int} {sc : Int → Int} {i m : Int} {w5 w6 : Option AV} (hS : ScX X Ls sc) (hi : 0 ≤ i ∧ i + 6 ≤ Ls) (hm : 0 ≤ m ∧ m ≤ 900000) (hJ : Jb I L R m)
    (k : ∀ c' s' w5' w6' I' L' R', c' ≤ c9 + 1 → s' ≤ s9 + 6 → Jb I' L' R' (m + 8) → V X M_L_law (c', s', 161) 1428 [some (vq 3 0), some (vr 0), some (vr 138), some (vr 160), some (vi i), w5', w6'] [] I' L' R' F) : V X M_L_law (c9, s9, 161) 1031 [some (vq 3 0), some (vr 0), some (vr 138), some (vr 160), some (vi i), w5, w6] [] I L R F := by
  have hsr := hS.r
  obtain ⟨bt, n, ft, pl, w, HP, r, s, a, U, D, K, P, P', hT, hC, hM, hN⟩ := hJ
  have hr := hC.hr
  have hul := hC.ul
  refine s_aload_n 1032 dL_law_1031 rfl rfl ?_
  refine s_callV0 (M' := M_X11_must) (as := []) 1035 dL_law_1032 rfl cw_L_147 rfl rfl sh_0 rfl (by decide) q0 (Nat.le_of_ble_eq_true rfl) (Nat.le_of_ble_eq_true rfl) (Nat.le_of_ble_eq_true rfl) ⟨rfl, rfl, rfl⟩ ?_
  refine c_X11_must hT hC hm (fun I1 g1 g2 => ?_)
  refine s_aload_n 1036 dL_law_1035 rfl rfl ?_
  refine s_callV0 (M' := M_X12_must_) (as := []) 1039 dL_law_1036 rfl cw_L_150 rfl rfl sh_138 rfl (by decide) q138 (Nat.le_of_ble_eq_true rfl) (Nat.le_of_ble_eq_true rfl) (Nat.le_of_ble_eq_true rfl) ⟨rfl, rfl, rfl⟩ ?_
  obtain ⟨er, es, erd, ehp⟩ := (hM.hi g1).ers
  refine c_X12_must (s := s) hT er erd ehp (fun z => (hr z).1) (fun I2 e2 => ?_)
  refine s_icmp_same 1428 dL_law_1039 rfl ?_
  exact k _ _ _ _ _ _ _ (by omega) (by omega) (Jb.q hT hN g2 (hM.hi g1) e2 (by omega))
set_option maxHeartbeats 4000000 in
theorem lw_c32 {X : XT} {c9 s9 : Nat} {I : MI} {L : ML} {R : MR} {F : State → Prop} {Ls : Int} {sc : Int → Int} {i m : Int} {w5 w6 : Option AV} (hS : ScX X Ls sc) (hi : 0 ≤ i ∧ i + 6 ≤ Ls) (hm : 0 ≤ m ∧ m ≤ 900000) (hJ : Jb I L R m)
    (k : ∀ c' s' w5' w6' I' L' R', c' ≤ c9 + 1 → s' ≤ s9 + 6 → Jb I' L' R' (m + 8) → V X M_L_law (c', s', 161) 1428 [some (vq 3 0), some (vr 0), some (vr 138), some (vr 160), some (vi i), w5', w6'] [] I' L' R' F) : V X M_L_law (c9, s9, 161) 1044 [some (vq 3 0), some (vr 0), some (vr 138), some (vr 160), some (vi i), w5, w6] [] I L R F := by
  have hsr := hS.r
  obtain ⟨bt, n, ft, pl, w, HP, r, s, a, U, D, K, P, P', hT, hC, hM, hN⟩ := hJ
  have hr := hC.hr
  have hul := hC.ul
  refine s_aload_n 1045 dL_law_1044 rfl rfl ?_
  refine s_callV0 (M' := M_X11_betrayed) (as := []) 1048 dL_law_1045 rfl cw_L_151 rfl rfl sh_0 rfl (by decide) q0 (Nat.le_of_ble_eq_true rfl) (Nat.le_of_ble_eq_true rfl) (Nat.le_of_ble_eq_true rfl) ⟨rfl, rfl, rfl⟩ ?_
  refine c_X11_betrayed hT hC hm (fun I1 g1 g2 => ?_)
  refine s_aload_n 1049 dL_law_1048 rfl rfl ?_
  refine s_callV0 (M' := M_X12_betrayed) (as := []) 1052 dL_law_1049 rfl cw_L_154 rfl rfl sh_138 rfl (by decide) q138 (Nat.le_of_ble_eq_true rfl) (Nat.le_of_ble_eq_true rfl) (Nat.le_of_ble_eq_true rfl) ⟨rfl, rfl, rfl⟩ ?_
  obtain ⟨er, es, erd, ehp⟩ := (hM.hi g1).ers
  refine c_X12_betrayed hT er erd ehp (fun z => (hr z).1) (fun I2 e2 => ?_)
  refine s_icmp_same 1428 dL_law_1052 rfl ?_
  exact k _ _ _ _ _ _ _ (by omega) (by omega) (Jb.q hT hN g2 (hM.hi g1) e2 (by omega))
set_option maxHeartbeats 4000000 in
theorem lw_c33 {X : XT} {c9 s9 : Nat} {I : MI} {L : ML} {R : MR} {F : State → Prop} {Ls : Int} {sc : Int → Int} {i m : Int} {w5 w6 : Option AV} (hS : ScX X Ls sc) (hi : 0 ≤ i ∧ i + 6 ≤ Ls) (hm : 0 ≤ m ∧ m ≤ 900000) (hJ : Jb I L R m)
    (k : ∀ c' s' w5' w6' I' L' R', c' ≤ c9 + 1 → s' ≤ s9 + 6 → Jb I' L' R' (m + 8) → V X M_L_law (c', s', 161) 1428 [some (vq 3 0), some (vr 0), some (vr 138), some (vr 160), some (vi i), w5', w6'] [] I' L' R' F) : V X M_L_law (c9, s9, 161) 1057 [some (vq 3 0), some (vr 0), some (vr 138), some (vr 160), some (vi i), w5, w6] [] I L R F := by
  have hsr := hS.r
  obtain ⟨bt, n, ft, pl, w, HP, r, s, a, U, D, K, P, P', hT, hC, hM, hN⟩ := hJ
  have hr := hC.hr
  have hul := hC.ul
  refine s_aload_n 1058 dL_law_1057 rfl rfl ?_
  refine s_aloadq_n 1059 dL_law_1058 rfl rfl ?_
  refine s_iload 1061 dL_law_1059 rfl rfl ?_
  refine s_iconst 1062 dL_law_1061 rfl ?_
  refine s_iadd 1063 dL_law_1062 rfl ?_
  refine s_sld 1064 dL_law_1063 rfl hS (by omega) ?_
  refine s_aloadq_n 1065 dL_law_1064 rfl rfl ?_
  refine s_iload 1067 dL_law_1065 rfl rfl ?_
  refine s_iconst 1068 dL_law_1067 rfl ?_
  refine s_iadd 1069 dL_law_1068 rfl ?_
  refine s_sld 1070 dL_law_1069 rfl hS (by omega) ?_
  refine s_callV0 (M' := M_X11_swap) (as := [_, _]) 1073 dL_law_1070 rfl cw_L_155 rfl rfl sh_0 rfl (by decide) q0 (Nat.le_of_ble_eq_true rfl) (Nat.le_of_ble_eq_true rfl) (Nat.le_of_ble_eq_true rfl) ⟨rfl, rfl, rfl⟩ ?_
  refine c_X11_swap hT hC hm (hsr _) (hsr _) (fun C1 C2 u1 u2 I1 L1 a1 g1 g2 => ?_)
  refine s_aload_n 1074 dL_law_1073 rfl rfl ?_
  refine s_aloadq_n 1075 dL_law_1074 rfl rfl ?_
  refine s_iload 1077 dL_law_1075 rfl rfl ?_
  refine s_iconst 1078 dL_law_1077 rfl ?_
  refine s_iadd 1079 dL_law_1078 rfl ?_
  refine s_sld 1080 dL_law_1079 rfl hS (by omega) ?_
  refine s_aloadq_n 1081 dL_law_1080 rfl rfl ?_
  refine s_iload 1083 dL_law_1081 rfl rfl ?_
  refine s_iconst 1084 dL_law_1083 rfl ?_
  refine s_iadd 1085 dL_law_1084 rfl ?_
  refine s_sld 1086 dL_law_1085 rfl hS (by omega) ?_
  refine s_callV0 (M' := M_X12_swap) (as := [_, _]) 1089 dL_law_1086 rfl cw_L_159 rfl rfl sh_138 rfl (by decide) q138 (Nat.le_of_ble_eq_true rfl) (Nat.le_of_ble_eq_true rfl) (Nat.le_of_ble_eq_true rfl) ⟨rfl, rfl, rfl⟩ ?_
  refine c_X12_swap hT (hM.hi g1) (fun z => ⟨(hr z).1, (hr z).p⟩) (by omega) (hsr _) (hsr _) (fun D1 D2 v1 v2 I2 b1 b2 => ?_)
  obtain rfl : D1 = C1 := v1.trans u1.symm
  obtain rfl : D2 = C2 := v2.trans u2.symm
  refine s_icmp_same 1428 dL_law_1089 rfl ?_
  exact k _ _ _ _ _ _ _ (by omega) (by omega) ⟨_, _, _, _, _, _, _, _, _, _, _, _, _, _,  hT, g2.lo b1, b2, hN⟩
set_option maxHeartbeats 4000000 in
theorem lw_c34 {X : XT} {c9 s9 : Nat} {I : MI} {L : ML} {R : MR} {F : State → Prop} {Ls : Int} {sc : Int → Int} {i m : Int} {w5 w6 : Option AV} (hS : ScX X Ls sc) (hi : 0 ≤ i ∧ i + 6 ≤ Ls) (hm : 0 ≤ m ∧ m ≤ 900000) (hJ : Jb I L R m)
    (k : ∀ c' s' w5' w6' I' L' R', c' ≤ c9 + 1 → s' ≤ s9 + 6 → Jb I' L' R' (m + 8) → V X M_L_law (c', s', 161) 1428 [some (vq 3 0), some (vr 0), some (vr 138), some (vr 160), some (vi i), w5', w6'] [] I' L' R' F) : V X M_L_law (c9, s9, 161) 1094 [some (vq 3 0), some (vr 0), some (vr 138), some (vr 160), some (vi i), w5, w6] [] I L R F := by
  have hsr := hS.r
  obtain ⟨bt, n, ft, pl, w, HP, r, s, a, U, D, K, P, P', hT, hC, hM, hN⟩ := hJ
  have hr := hC.hr
  have hul := hC.ul
  refine s_aload_n 1095 dL_law_1094 rfl rfl ?_
  refine s_aloadq_n 1096 dL_law_1095 rfl rfl ?_
  refine s_iload 1098 dL_law_1096 rfl rfl ?_
  refine s_iconst 1099 dL_law_1098 rfl ?_
  refine s_iadd 1100 dL_law_1099 rfl ?_
  refine s_sld 1101 dL_law_1100 rfl hS (by omega) ?_
  refine s_aloadq_n 1102 dL_law_1101 rfl rfl ?_
  refine s_iload 1104 dL_law_1102 rfl rfl ?_
  refine s_iconst 1105 dL_law_1104 rfl ?_
  refine s_iadd 1106 dL_law_1105 rfl ?_
  refine s_sld 1107 dL_law_1106 rfl hS (by omega) ?_
  refine s_callV0 (M' := M_X11_cast) (as := [_, _]) 1110 dL_law_1107 rfl cw_L_160 rfl rfl sh_0 rfl (by decide) q0 (Nat.le_of_ble_eq_true rfl) (Nat.le_of_ble_eq_true rfl) (Nat.le_of_ble_eq_true rfl) ⟨rfl, rfl, rfl⟩ ?_
  refine c_X11_cast hT hC hm (hsr _) (hsr _) (fun C1 C2 C3 u1 u2 u3 I1 L1 a1 g1 g2 => ?_)
  refine s_aload_n 1111 dL_law_1110 rfl rfl ?_
  refine s_aloadq_n 1112 dL_law_1111 rfl rfl ?_
  refine s_iload 1114 dL_law_1112 rfl rfl ?_
  refine s_iconst 1115 dL_law_1114 rfl ?_
  refine s_iadd 1116 dL_law_1115 rfl ?_
  refine s_sld 1117 dL_law_1116 rfl hS (by omega) ?_
  refine s_aloadq_n 1118 dL_law_1117 rfl rfl ?_
  refine s_iload 1120 dL_law_1118 rfl rfl ?_
  refine s_iconst 1121 dL_law_1120 rfl ?_
  refine s_iadd 1122 dL_law_1121 rfl ?_
  refine s_sld 1123 dL_law_1122 rfl hS (by omega) ?_
  refine s_callV0 (M' := M_X12_cast) (as := [_, _]) 1126 dL_law_1123 rfl cw_L_163 rfl rfl sh_138 rfl (by decide) q138 (Nat.le_of_ble_eq_true rfl) (Nat.le_of_ble_eq_true rfl) (Nat.le_of_ble_eq_true rfl) ⟨rfl, rfl, rfl⟩ ?_
  refine c_X12_cast hT (hM.hi g1) (fun z => ⟨(hr z).1, fun p p1 p2 => by have := (hr z).2.2.2.1 p p1 p2; omega⟩) (by omega) (hsr _) (hsr _) (fun D1 D2 D3 v1 v2 v3 I2 b1 b2 => ?_)
  obtain rfl : D1 = C1 := v1.trans u1.symm
  obtain rfl : D2 = C2 := v2.trans u2.symm
  obtain rfl : D3 = C3 := v3.trans u3.symm
  refine s_icmp_same 1428 dL_law_1126 rfl ?_
  exact k _ _ _ _ _ _ _ (by omega) (by omega) ⟨_, _, _, _, _, _, _, _, _, _, _, _, _, _,  hT, g2.lo b1, b2, hN⟩
set_option maxHeartbeats 4000000 in
theorem lw_c35 {X : XT} {c9 s9 : Nat} {I : MI} {L : ML} {R : MR} {F : State → Prop} {Ls : Int} {sc : Int → Int} {i m : Int} {w5 w6 : Option AV} (hS : ScX X Ls sc) (hi : 0 ≤ i ∧ i + 6 ≤ Ls) (hm : 0 ≤ m ∧ m ≤ 900000) (hJ : Jb I L R m)
    (k : ∀ c' s' w5' w6' I' L' R', c' ≤ c9 + 1 → s' ≤ s9 + 6 → Jb I' L' R' (m + 8) → V X M_L_law (c', s', 161) 1428 [some (vq 3 0), some (vr 0), some (vr 138), some (vr 160), some (vi i), w5', w6'] [] I' L' R' F) : V X M_L_law (c9, s9, 161) 1131 [some (vq 3 0), some (vr 0), some (vr 138), some (vr 160), some (vi i), w5, w6] [] I L R F := by
  have hsr := hS.r
  obtain ⟨bt, n, ft, pl, w, HP, r, s, a, U, D, K, P, P', hT, hC, hM, hN⟩ := hJ
  have hr := hC.hr
  have hul := hC.ul
  by_cases hB : sc (i + 2) = 0
  · skip
    refine s_aload_n 1132 dL_law_1131 rfl rfl ?_
    refine s_aloadq_n 1133 dL_law_1132 rfl rfl ?_
    refine s_iload 1135 dL_law_1133 rfl rfl ?_
    refine s_iconst 1136 dL_law_1135 rfl ?_
    refine s_iadd 1137 dL_law_1136 rfl ?_
    refine s_sld 1138 dL_law_1137 rfl hS (by omega) ?_
    refine s_aloadq_n 1139 dL_law_1138 rfl rfl ?_
    refine s_iload 1141 dL_law_1139 rfl rfl ?_
    refine s_iconst 1142 dL_law_1141 rfl ?_
    refine s_iadd 1143 dL_law_1142 rfl ?_
    refine s_sld 1144 dL_law_1143 rfl hS (by omega) ?_
    refine s_if_eq 1151 1147 dL_law_1144 rfl rfl (hsr _) (fun h_1144 => ?_) (fun h_1144 => by exfalso; exact h_1144 hB)
    refine s_iconst 1152 dL_law_1151 rfl ?_
    refine s_callV0 (M' := M_X11_cut) (as := [_, _]) 1155 dL_law_1152 rfl cw_L_164 rfl rfl sh_0 rfl (by decide) q0 (Nat.le_of_ble_eq_true rfl) (Nat.le_of_ble_eq_true rfl) (Nat.le_of_ble_eq_true rfl) ⟨rfl, rfl, rfl⟩ ?_
    refine ct_eq (c_X11_cut (B := sc (i + 2) ≠ 0) hT hC hm (hsr _) (fun C1 C2 u1 u2 I1 L1 a1 g1 g2 => ?_)) (by rw [bI_f (fun z => z hB)])
    refine s_aload_n 1156 dL_law_1155 rfl rfl ?_
    refine s_aloadq_n 1157 dL_law_1156 rfl rfl ?_
    refine s_iload 1159 dL_law_1157 rfl rfl ?_
    refine s_iconst 1160 dL_law_1159 rfl ?_
    refine s_iadd 1161 dL_law_1160 rfl ?_
    refine s_sld 1162 dL_law_1161 rfl hS (by omega) ?_
    refine s_aloadq_n 1163 dL_law_1162 rfl rfl ?_
    refine s_iload 1165 dL_law_1163 rfl rfl ?_
    refine s_iconst 1166 dL_law_1165 rfl ?_
    refine s_iadd 1167 dL_law_1166 rfl ?_
    refine s_sld 1168 dL_law_1167 rfl hS (by omega) ?_
    refine s_if_eq 1175 1171 dL_law_1168 rfl rfl (hsr _) (fun h_1168 => ?_) (fun h_1168 => by exfalso; exact h_1168 hB)
    refine s_iconst 1176 dL_law_1175 rfl ?_
    refine s_callV0 (M' := M_X12_cut) (as := [_, _]) 1179 dL_law_1176 rfl cw_L_168 rfl rfl sh_138 rfl (by decide) q138 (Nat.le_of_ble_eq_true rfl) (Nat.le_of_ble_eq_true rfl) (Nat.le_of_ble_eq_true rfl) ⟨rfl, rfl, rfl⟩ ?_
    refine ct_eq (c_X12_cut (P := sc (i + 2) ≠ 0) hT (hM.hi g1) (fun z => (hr z).1) (by omega) (hsr _) (fun D1 D2 v1 v2 I2 b1 b2 => ?_)) (by rw [bI_f (fun z => z hB)])
    obtain rfl : D1 = C1 := v1.trans u1.symm
    obtain rfl : D2 = C2 := v2.trans u2.symm
    refine s_icmp_same 1428 dL_law_1179 rfl ?_
    exact k _ _ _ _ _ _ _ (by omega) (by omega) ⟨_, _, _, _, _, _, _, _, _, _, _, _, _, _,  hT, g2.lo b1, b2, hN⟩
  · skip
    refine s_aload_n 1132 dL_law_1131 rfl rfl ?_
    refine s_aloadq_n 1133 dL_law_1132 rfl rfl ?_
    refine s_iload 1135 dL_law_1133 rfl rfl ?_
    refine s_iconst 1136 dL_law_1135 rfl ?_
    refine s_iadd 1137 dL_law_1136 rfl ?_
    refine s_sld 1138 dL_law_1137 rfl hS (by omega) ?_
    refine s_aloadq_n 1139 dL_law_1138 rfl rfl ?_
    refine s_iload 1141 dL_law_1139 rfl rfl ?_
    refine s_iconst 1142 dL_law_1141 rfl ?_
    refine s_iadd 1143 dL_law_1142 rfl ?_
    refine s_sld 1144 dL_law_1143 rfl hS (by omega) ?_
    refine s_if_eq 1151 1147 dL_law_1144 rfl rfl (hsr _) (fun h_1144 => by exfalso; exact hB h_1144) (fun h_1144 => ?_)
    refine s_iconst 1148 dL_law_1147 rfl ?_
    refine s_goto 1152 dL_law_1148 rfl ?_
    refine s_callV0 (M' := M_X11_cut) (as := [_, _]) 1155 dL_law_1152 rfl cw_L_164 rfl rfl sh_0 rfl (by decide) q0 (Nat.le_of_ble_eq_true rfl) (Nat.le_of_ble_eq_true rfl) (Nat.le_of_ble_eq_true rfl) ⟨rfl, rfl, rfl⟩ ?_
    refine ct_eq (c_X11_cut (B := sc (i + 2) ≠ 0) hT hC hm (hsr _) (fun C1 C2 u1 u2 I1 L1 a1 g1 g2 => ?_)) (by rw [bI_t hB])
    refine s_aload_n 1156 dL_law_1155 rfl rfl ?_
    refine s_aloadq_n 1157 dL_law_1156 rfl rfl ?_
    refine s_iload 1159 dL_law_1157 rfl rfl ?_
    refine s_iconst 1160 dL_law_1159 rfl ?_
    refine s_iadd 1161 dL_law_1160 rfl ?_
    refine s_sld 1162 dL_law_1161 rfl hS (by omega) ?_
    refine s_aloadq_n 1163 dL_law_1162 rfl rfl ?_
    refine s_iload 1165 dL_law_1163 rfl rfl ?_
    refine s_iconst 1166 dL_law_1165 rfl ?_
    refine s_iadd 1167 dL_law_1166 rfl ?_
    refine s_sld 1168 dL_law_1167 rfl hS (by omega) ?_
    refine s_if_eq 1175 1171 dL_law_1168 rfl rfl (hsr _) (fun h_1168 => by exfalso; exact hB h_1168) (fun h_1168 => ?_)
    refine s_iconst 1172 dL_law_1171 rfl ?_
    refine s_goto 1176 dL_law_1172 rfl ?_
    refine s_callV0 (M' := M_X12_cut) (as := [_, _]) 1179 dL_law_1176 rfl cw_L_168 rfl rfl sh_138 rfl (by decide) q138 (Nat.le_of_ble_eq_true rfl) (Nat.le_of_ble_eq_true rfl) (Nat.le_of_ble_eq_true rfl) ⟨rfl, rfl, rfl⟩ ?_
    refine ct_eq (c_X12_cut (P := sc (i + 2) ≠ 0) hT (hM.hi g1) (fun z => (hr z).1) (by omega) (hsr _) (fun D1 D2 v1 v2 I2 b1 b2 => ?_)) (by rw [bI_t hB])
    obtain rfl : D1 = C1 := v1.trans u1.symm
    obtain rfl : D2 = C2 := v2.trans u2.symm
    refine s_icmp_same 1428 dL_law_1179 rfl ?_
    exact k _ _ _ _ _ _ _ (by omega) (by omega) ⟨_, _, _, _, _, _, _, _, _, _, _, _, _, _,  hT, g2.lo b1, b2, hN⟩
