/-! the law, case by case: the class answers, then the reference, the same: 18 .. 26 -/
set_option maxHeartbeats 4000000 in
theorem lw_c18 {X : XT} {c9 s9 : Nat} {I : MI} {L : ML} {R : MR} {F : State → Prop} {Ls : Int} {sc : Int → Int} {i m : Int} {w5 w6 : Option AV} (hS : ScX X Ls sc) (hi : 0 ≤ i ∧ i + 6 ≤ Ls) (hm : 0 ≤ m ∧ m ≤ 900000) (hJ : Jb I L R m)
    (k : ∀ c' s' w5' w6' I' L' R', c' ≤ c9 + 1 → s' ≤ s9 + 6 → Jb I' L' R' (m + 8) → V X M_L_law (c', s', 161) 1428 [some (vq 3 0), some (vr 0), some (vr 138), some (vr 160), some (vi i), w5', w6'] [] I' L' R' F) : V X M_L_law (c9, s9, 161) 778 [some (vq 3 0), some (vr 0), some (vr 138), some (vr 160), some (vi i), w5, w6] [] I L R F := by
  have hsr := hS.r
  obtain ⟨bt, n, ft, pl, w, HP, r, s, a, U, D, K, P, P', hT, hC, hM, hN⟩ := hJ
  have hr := hC.hr
  have hul := hC.ul
  refine s_aload_n 779 dL_law_778 rfl rfl ?_
  refine s_aloadq_n 780 dL_law_779 rfl rfl ?_
  refine s_iload 782 dL_law_780 rfl rfl ?_
  refine s_iconst 783 dL_law_782 rfl ?_
  refine s_iadd 784 dL_law_783 rfl ?_
  refine s_sld 785 dL_law_784 rfl hS (by omega) ?_
  refine s_callV0 (M' := M_X11_player) (as := [_]) 788 dL_law_785 rfl cw_L_95 rfl rfl sh_0 rfl (by decide) q0 (Nat.le_of_ble_eq_true rfl) (Nat.le_of_ble_eq_true rfl) (Nat.le_of_ble_eq_true rfl) ⟨rfl, rfl, rfl⟩ ?_
  refine c_X11_player hT hC hm (hsr _) (fun I1 g1 g2 => ?_)
  refine s_aload_n 789 dL_law_788 rfl rfl ?_
  refine s_aloadq_n 790 dL_law_789 rfl rfl ?_
  refine s_iload 792 dL_law_790 rfl rfl ?_
  refine s_iconst 793 dL_law_792 rfl ?_
  refine s_iadd 794 dL_law_793 rfl ?_
  refine s_sld 795 dL_law_794 rfl hS (by omega) ?_
  refine s_callV0 (M' := M_X12_player) (as := [_]) 798 dL_law_795 rfl cw_L_98 rfl rfl sh_138 rfl (by decide) q138 (Nat.le_of_ble_eq_true rfl) (Nat.le_of_ble_eq_true rfl) (Nat.le_of_ble_eq_true rfl) ⟨rfl, rfl, rfl⟩ ?_
  obtain ⟨er, es, erd, ehp⟩ := (hM.hi g1).ers
  refine c_X12_player hT er es erd ehp hr (hsr _) (fun I2 e2 => ?_)
  refine s_icmp_same 1428 dL_law_798 rfl ?_
  exact k _ _ _ _ _ _ _ (by omega) (by omega) (Jb.q hT hN g2 (hM.hi g1) e2 (by omega))
set_option maxHeartbeats 4000000 in
theorem lw_c19 {X : XT} {c9 s9 : Nat} {I : MI} {L : ML} {R : MR} {F : State → Prop} {Ls : Int} {sc : Int → Int} {i m : Int} {w5 w6 : Option AV} (hS : ScX X Ls sc) (hi : 0 ≤ i ∧ i + 6 ≤ Ls) (hm : 0 ≤ m ∧ m ≤ 900000) (hJ : Jb I L R m)
    (k : ∀ c' s' w5' w6' I' L' R', c' ≤ c9 + 1 → s' ≤ s9 + 6 → Jb I' L' R' (m + 8) → V X M_L_law (c', s', 161) 1428 [some (vq 3 0), some (vr 0), some (vr 138), some (vr 160), some (vi i), w5', w6'] [] I' L' R' F) : V X M_L_law (c9, s9, 161) 803 [some (vq 3 0), some (vr 0), some (vr 138), some (vr 160), some (vi i), w5, w6] [] I L R F := by
  have hsr := hS.r
  obtain ⟨bt, n, ft, pl, w, HP, r, s, a, U, D, K, P, P', hT, hC, hM, hN⟩ := hJ
  have hr := hC.hr
  have hul := hC.ul
  refine s_aload_n 804 dL_law_803 rfl rfl ?_
  refine s_callV0 (M' := M_X11_fewestOfAll) (as := []) 807 dL_law_804 rfl cw_L_99 rfl rfl sh_0 rfl (by decide) q0 (Nat.le_of_ble_eq_true rfl) (Nat.le_of_ble_eq_true rfl) (Nat.le_of_ble_eq_true rfl) ⟨rfl, rfl, rfl⟩ ?_
  refine c_X11_fewestOfAll hT hC hm (fun I1 g1 g2 => ?_)
  refine s_aload_n 808 dL_law_807 rfl rfl ?_
  refine s_callV0 (M' := M_X12_fewestOfAll) (as := []) 811 dL_law_808 rfl cw_L_102 rfl rfl sh_138 rfl (by decide) q138 (Nat.le_of_ble_eq_true rfl) (Nat.le_of_ble_eq_true rfl) (Nat.le_of_ble_eq_true rfl) ⟨rfl, rfl, rfl⟩ ?_
  obtain ⟨er, es, erd, ehp⟩ := (hM.hi g1).ers
  refine c_X12_fewestOfAll hT er es erd ehp hr (fun I2 e2 => ?_)
  refine s_icmp_same 1428 dL_law_811 rfl ?_
  exact k _ _ _ _ _ _ _ (by omega) (by omega) (Jb.q hT hN g2 (hM.hi g1) e2 (by omega))
set_option maxHeartbeats 4000000 in
theorem lw_c20 {X : XT} {c9 s9 : Nat} {I : MI} {L : ML} {R : MR} {F : State → Prop} {Ls : Int} {sc : Int → Int} {i m : Int} {w5 w6 : Option AV} (hS : ScX X Ls sc) (hi : 0 ≤ i ∧ i + 6 ≤ Ls) (hm : 0 ≤ m ∧ m ≤ 900000) (hJ : Jb I L R m)
    (k : ∀ c' s' w5' w6' I' L' R', c' ≤ c9 + 1 → s' ≤ s9 + 6 → Jb I' L' R' (m + 8) → V X M_L_law (c', s', 161) 1428 [some (vq 3 0), some (vr 0), some (vr 138), some (vr 160), some (vi i), w5', w6'] [] I' L' R' F) : V X M_L_law (c9, s9, 161) 816 [some (vq 3 0), some (vr 0), some (vr 138), some (vr 160), some (vi i), w5, w6] [] I L R F := by
  have hsr := hS.r
  obtain ⟨bt, n, ft, pl, w, HP, r, s, a, U, D, K, P, P', hT, hC, hM, hN⟩ := hJ
  have hr := hC.hr
  have hul := hC.ul
  refine s_aload_n 817 dL_law_816 rfl rfl ?_
  refine s_aloadq_n 818 dL_law_817 rfl rfl ?_
  refine s_iload 820 dL_law_818 rfl rfl ?_
  refine s_iconst 821 dL_law_820 rfl ?_
  refine s_iadd 822 dL_law_821 rfl ?_
  refine s_sld 823 dL_law_822 rfl hS (by omega) ?_
  refine s_callV0 (M' := M_X11_sceneOfAll) (as := [_]) 826 dL_law_823 rfl cw_L_103 rfl rfl sh_0 rfl (by decide) q0 (Nat.le_of_ble_eq_true rfl) (Nat.le_of_ble_eq_true rfl) (Nat.le_of_ble_eq_true rfl) ⟨rfl, rfl, rfl⟩ ?_
  refine c_X11_sceneOfAll hT hC hm (hsr _) (fun I1 g1 g2 => ?_)
  refine s_aload_n 827 dL_law_826 rfl rfl ?_
  refine s_aloadq_n 828 dL_law_827 rfl rfl ?_
  refine s_iload 830 dL_law_828 rfl rfl ?_
  refine s_iconst 831 dL_law_830 rfl ?_
  refine s_iadd 832 dL_law_831 rfl ?_
  refine s_sld 833 dL_law_832 rfl hS (by omega) ?_
  refine s_callV0 (M' := M_X12_sceneOfAll) (as := [_]) 836 dL_law_833 rfl cw_L_106 rfl rfl sh_138 rfl (by decide) q138 (Nat.le_of_ble_eq_true rfl) (Nat.le_of_ble_eq_true rfl) (Nat.le_of_ble_eq_true rfl) ⟨rfl, rfl, rfl⟩ ?_
  obtain ⟨er, es, erd, ehp⟩ := (hM.hi g1).ers
  refine c_X12_sceneOfAll hT er es erd ehp hr (hsr _) (fun I2 e2 => ?_)
  refine s_icmp_same 1428 dL_law_836 rfl ?_
  exact k _ _ _ _ _ _ _ (by omega) (by omega) (Jb.q hT hN g2 (hM.hi g1) e2 (by omega))
set_option maxHeartbeats 4000000 in
theorem lw_c21 {X : XT} {c9 s9 : Nat} {I : MI} {L : ML} {R : MR} {F : State → Prop} {Ls : Int} {sc : Int → Int} {i m : Int} {w5 w6 : Option AV} (hS : ScX X Ls sc) (hi : 0 ≤ i ∧ i + 6 ≤ Ls) (hm : 0 ≤ m ∧ m ≤ 900000) (hJ : Jb I L R m)
    (k : ∀ c' s' w5' w6' I' L' R', c' ≤ c9 + 1 → s' ≤ s9 + 6 → Jb I' L' R' (m + 8) → V X M_L_law (c', s', 161) 1428 [some (vq 3 0), some (vr 0), some (vr 138), some (vr 160), some (vi i), w5', w6'] [] I' L' R' F) : V X M_L_law (c9, s9, 161) 841 [some (vq 3 0), some (vr 0), some (vr 138), some (vr 160), some (vi i), w5, w6] [] I L R F := by
  have hsr := hS.r
  obtain ⟨bt, n, ft, pl, w, HP, r, s, a, U, D, K, P, P', hT, hC, hM, hN⟩ := hJ
  have hr := hC.hr
  have hul := hC.ul
  refine s_aload_n 842 dL_law_841 rfl rfl ?_
  refine s_callV0 (M' := M_X11_enough) (as := []) 845 dL_law_842 rfl cw_L_107 rfl rfl sh_0 rfl (by decide) q0 (Nat.le_of_ble_eq_true rfl) (Nat.le_of_ble_eq_true rfl) (Nat.le_of_ble_eq_true rfl) ⟨rfl, rfl, rfl⟩ ?_
  refine c_X11_enough hT hC hm (fun I1 g1 g2 => ?_)
  refine s_aload_n 846 dL_law_845 rfl rfl ?_
  refine s_callV0 (M' := M_X12_enough) (as := []) 849 dL_law_846 rfl cw_L_110 rfl rfl sh_138 rfl (by decide) q138 (Nat.le_of_ble_eq_true rfl) (Nat.le_of_ble_eq_true rfl) (Nat.le_of_ble_eq_true rfl) ⟨rfl, rfl, rfl⟩ ?_
  obtain ⟨er, es, erd, ehp⟩ := (hM.hi g1).ers
  refine c_X12_enough hT er es erd ehp hr (fun I2 e2 => ?_)
  refine s_icmp_same 1428 dL_law_849 rfl ?_
  exact k _ _ _ _ _ _ _ (by omega) (by omega) (Jb.q hT hN g2 (hM.hi g1) e2 (by omega))
set_option maxHeartbeats 4000000 in
theorem lw_c22 {X : XT} {c9 s9 : Nat} {I : MI} {L : ML} {R : MR} {F : State → Prop} {Ls : Int} {sc : Int → Int} {i m : Int} {w5 w6 : Option AV} (hS : ScX X Ls sc) (hi : 0 ≤ i ∧ i + 6 ≤ Ls) (hm : 0 ≤ m ∧ m ≤ 900000) (hJ : Jb I L R m)
    (k : ∀ c' s' w5' w6' I' L' R', c' ≤ c9 + 1 → s' ≤ s9 + 6 → Jb I' L' R' (m + 8) → V X M_L_law (c', s', 161) 1428 [some (vq 3 0), some (vr 0), some (vr 138), some (vr 160), some (vi i), w5', w6'] [] I' L' R' F) : V X M_L_law (c9, s9, 161) 854 [some (vq 3 0), some (vr 0), some (vr 138), some (vr 160), some (vi i), w5, w6] [] I L R F := by
  have hsr := hS.r
  obtain ⟨bt, n, ft, pl, w, HP, r, s, a, U, D, K, P, P', hT, hC, hM, hN⟩ := hJ
  have hr := hC.hr
  have hul := hC.ul
  refine s_aload_n 855 dL_law_854 rfl rfl ?_
  refine s_callV0 (M' := M_X11_cuts) (as := []) 858 dL_law_855 rfl cw_L_111 rfl rfl sh_0 rfl (by decide) q0 (Nat.le_of_ble_eq_true rfl) (Nat.le_of_ble_eq_true rfl) (Nat.le_of_ble_eq_true rfl) ⟨rfl, rfl, rfl⟩ ?_
  refine c_X11_cuts hT hC hm (fun I1 g1 g2 => ?_)
  refine s_aload_n 859 dL_law_858 rfl rfl ?_
  refine s_callV0 (M' := M_X12_cuts) (as := []) 862 dL_law_859 rfl cw_L_114 rfl rfl sh_138 rfl (by decide) q138 (Nat.le_of_ble_eq_true rfl) (Nat.le_of_ble_eq_true rfl) (Nat.le_of_ble_eq_true rfl) ⟨rfl, rfl, rfl⟩ ?_
  obtain ⟨er, es, erd, ehp⟩ := (hM.hi g1).ers
  refine c_X12_cuts hT er es erd ehp hr (fun I2 e2 => ?_)
  refine s_icmp_same 1428 dL_law_862 rfl ?_
  exact k _ _ _ _ _ _ _ (by omega) (by omega) (Jb.q hT hN g2 (hM.hi g1) e2 (by omega))
set_option maxHeartbeats 4000000 in
theorem lw_c23 {X : XT} {c9 s9 : Nat} {I : MI} {L : ML} {R : MR} {F : State → Prop} {Ls : Int} {sc : Int → Int} {i m : Int} {w5 w6 : Option AV} (hS : ScX X Ls sc) (hi : 0 ≤ i ∧ i + 6 ≤ Ls) (hm : 0 ≤ m ∧ m ≤ 900000) (hJ : Jb I L R m)
    (k : ∀ c' s' w5' w6' I' L' R', c' ≤ c9 + 1 → s' ≤ s9 + 6 → Jb I' L' R' (m + 8) → V X M_L_law (c', s', 161) 1428 [some (vq 3 0), some (vr 0), some (vr 138), some (vr 160), some (vi i), w5', w6'] [] I' L' R' F) : V X M_L_law (c9, s9, 161) 867 [some (vq 3 0), some (vr 0), some (vr 138), some (vr 160), some (vi i), w5, w6] [] I L R F := by
  have hsr := hS.r
  obtain ⟨bt, n, ft, pl, w, HP, r, s, a, U, D, K, P, P', hT, hC, hM, hN⟩ := hJ
  have hr := hC.hr
  have hul := hC.ul
  refine s_aload_n 868 dL_law_867 rfl rfl ?_
  refine s_callV0 (M' := M_X11_cutsBy) (as := []) 871 dL_law_868 rfl cw_L_115 rfl rfl sh_0 rfl (by decide) q0 (Nat.le_of_ble_eq_true rfl) (Nat.le_of_ble_eq_true rfl) (Nat.le_of_ble_eq_true rfl) ⟨rfl, rfl, rfl⟩ ?_
  refine c_X11_cutsBy hT hC hm (fun I1 g1 g2 => ?_)
  refine s_aload_n 872 dL_law_871 rfl rfl ?_
  refine s_callV0 (M' := M_X12_cutsBy) (as := []) 875 dL_law_872 rfl cw_L_118 rfl rfl sh_138 rfl (by decide) q138 (Nat.le_of_ble_eq_true rfl) (Nat.le_of_ble_eq_true rfl) (Nat.le_of_ble_eq_true rfl) ⟨rfl, rfl, rfl⟩ ?_
  obtain ⟨er, es, erd, ehp⟩ := (hM.hi g1).ers
  refine c_X12_cutsBy hT er es erd ehp hr (fun I2 e2 => ?_)
  refine s_icmp_same 1428 dL_law_875 rfl ?_
  exact k _ _ _ _ _ _ _ (by omega) (by omega) (Jb.q hT hN g2 (hM.hi g1) e2 (by omega))
set_option maxHeartbeats 4000000 in
theorem lw_c24 {X : XT} {c9 s9 : Nat} {I : MI} {L : ML} {R : MR} {F : State → Prop} {Ls : Int} {sc : Int → Int} {i m : Int} {w5 w6 : Option AV} (hS : ScX X Ls sc) (hi : 0 ≤ i ∧ i + 6 ≤ Ls) (hm : 0 ≤ m ∧ m ≤ 900000) (hJ : Jb I L R m)
    (k : ∀ c' s' w5' w6' I' L' R', c' ≤ c9 + 1 → s' ≤ s9 + 6 → Jb I' L' R' (m + 8) → V X M_L_law (c', s', 161) 1428 [some (vq 3 0), some (vr 0), some (vr 138), some (vr 160), some (vi i), w5', w6'] [] I' L' R' F) : V X M_L_law (c9, s9, 161) 880 [some (vq 3 0), some (vr 0), some (vr 138), some (vr 160), some (vi i), w5, w6] [] I L R F := by
  have hsr := hS.r
  obtain ⟨bt, n, ft, pl, w, HP, r, s, a, U, D, K, P, P', hT, hC, hM, hN⟩ := hJ
  have hr := hC.hr
  have hul := hC.ul
  refine s_aload_n 881 dL_law_880 rfl rfl ?_
  refine s_aloadq_n 882 dL_law_881 rfl rfl ?_
  refine s_iload 884 dL_law_882 rfl rfl ?_
  refine s_iconst 885 dL_law_884 rfl ?_
  refine s_iadd 886 dL_law_885 rfl ?_
  refine s_sld 887 dL_law_886 rfl hS (by omega) ?_
  refine s_callV0 (M' := M_X11_ready) (as := [_]) 890 dL_law_887 rfl cw_L_119 rfl rfl sh_0 rfl (by decide) q0 (Nat.le_of_ble_eq_true rfl) (Nat.le_of_ble_eq_true rfl) (Nat.le_of_ble_eq_true rfl) ⟨rfl, rfl, rfl⟩ ?_
  refine c_X11_ready hT hC hm (hsr _) (fun I1 g1 g2 => ?_)
  refine s_aload_n 891 dL_law_890 rfl rfl ?_
  refine s_aloadq_n 892 dL_law_891 rfl rfl ?_
  refine s_iload 894 dL_law_892 rfl rfl ?_
  refine s_iconst 895 dL_law_894 rfl ?_
  refine s_iadd 896 dL_law_895 rfl ?_
  refine s_sld 897 dL_law_896 rfl hS (by omega) ?_
  refine s_callV0 (M' := M_X12_ready) (as := [_]) 900 dL_law_897 rfl cw_L_122 rfl rfl sh_138 rfl (by decide) q138 (Nat.le_of_ble_eq_true rfl) (Nat.le_of_ble_eq_true rfl) (Nat.le_of_ble_eq_true rfl) ⟨rfl, rfl, rfl⟩ ?_
  obtain ⟨er, es, erd, ehp⟩ := (hM.hi g1).ers
  refine c_X12_ready hT er es erd ehp hr (hsr _) (fun I2 e2 => ?_)
  refine s_icmp_same 1428 dL_law_900 rfl ?_
  exact k _ _ _ _ _ _ _ (by omega) (by omega) (Jb.q hT hN g2 (hM.hi g1) e2 (by omega))
set_option maxHeartbeats 4000000 in
theorem lw_c25 {X : XT} {c9 s9 : Nat} {I : MI} {L : ML} {R : MR} {F : State → Prop} {Ls : Int} {sc : Int → Int} {i m : Int} {w5 w6 : Option AV} (hS : ScX X Ls sc) (hi : 0 ≤ i ∧ i + 6 ≤ Ls) (hm : 0 ≤ m ∧ m ≤ 900000) (hJ : Jb I L R m)
    (k : ∀ c' s' w5' w6' I' L' R', c' ≤ c9 + 1 → s' ≤ s9 + 6 → Jb I' L' R' (m + 8) → V X M_L_law (c', s', 161) 1428 [some (vq 3 0), some (vr 0), some (vr 138), some (vr 160), some (vi i), w5', w6'] [] I' L' R' F) : V X M_L_law (c9, s9, 161) 905 [some (vq 3 0), some (vr 0), some (vr 138), some (vr 160), some (vi i), w5, w6] [] I L R F := by
  have hsr := hS.r
  obtain ⟨bt, n, ft, pl, w, HP, r, s, a, U, D, K, P, P', hT, hC, hM, hN⟩ := hJ
  have hr := hC.hr
  have hul := hC.ul
  refine s_aload_n 906 dL_law_905 rfl rfl ?_
  refine s_aloadq_n 907 dL_law_906 rfl rfl ?_
  refine s_iload 909 dL_law_907 rfl rfl ?_
  refine s_iconst 910 dL_law_909 rfl ?_
  refine s_iadd 911 dL_law_910 rfl ?_
  refine s_sld 912 dL_law_911 rfl hS (by omega) ?_
  refine s_callV0 (M' := M_X11_lent) (as := [_]) 915 dL_law_912 rfl cw_L_123 rfl rfl sh_0 rfl (by decide) q0 (Nat.le_of_ble_eq_true rfl) (Nat.le_of_ble_eq_true rfl) (Nat.le_of_ble_eq_true rfl) ⟨rfl, rfl, rfl⟩ ?_
  refine c_X11_lent hT hC hm (hsr _) (fun I1 g1 g2 => ?_)
  refine s_aload_n 916 dL_law_915 rfl rfl ?_
  refine s_aloadq_n 917 dL_law_916 rfl rfl ?_
  refine s_iload 919 dL_law_917 rfl rfl ?_
  refine s_iconst 920 dL_law_919 rfl ?_
  refine s_iadd 921 dL_law_920 rfl ?_
  refine s_sld 922 dL_law_921 rfl hS (by omega) ?_
  refine s_callV0 (M' := M_X12_lent) (as := [_]) 925 dL_law_922 rfl cw_L_126 rfl rfl sh_138 rfl (by decide) q138 (Nat.le_of_ble_eq_true rfl) (Nat.le_of_ble_eq_true rfl) (Nat.le_of_ble_eq_true rfl) ⟨rfl, rfl, rfl⟩ ?_
  obtain ⟨er, es, erd, ehp⟩ := (hM.hi g1).ers
  refine c_X12_lent hT er es erd ehp hr (hsr _) (fun I2 e2 => ?_)
  refine s_icmp_same 1428 dL_law_925 rfl ?_
  exact k _ _ _ _ _ _ _ (by omega) (by omega) (Jb.q hT hN g2 (hM.hi g1) e2 (by omega))
set_option maxHeartbeats 4000000 in
theorem lw_c26 {X : XT} {c9 s9 : Nat} {I : MI} {L : ML} {R : MR} {F : State → Prop} {Ls : Int} {sc : Int → Int} {i m : Int} {w5 w6 : Option AV} (hS : ScX X Ls sc) (hi : 0 ≤ i ∧ i + 6 ≤ Ls) (hm : 0 ≤ m ∧ m ≤ 900000) (hJ : Jb I L R m)
    (k : ∀ c' s' w5' w6' I' L' R', c' ≤ c9 + 1 → s' ≤ s9 + 6 → Jb I' L' R' (m + 8) → V X M_L_law (c', s', 161) 1428 [some (vq 3 0), some (vr 0), some (vr 138), some (vr 160), some (vi i), w5', w6'] [] I' L' R' F) : V X M_L_law (c9, s9, 161) 930 [some (vq 3 0), some (vr 0), some (vr 138), some (vr 160), some (vi i), w5, w6] [] I L R F := by
  have hsr := hS.r
  obtain ⟨bt, n, ft, pl, w, HP, r, s, a, U, D, K, P, P', hT, hC, hM, hN⟩ := hJ
  have hr := hC.hr
  have hul := hC.ul
  refine s_aload_n 931 dL_law_930 rfl rfl ?_
  refine s_callV0 (M' := M_X11_lend) (as := []) 934 dL_law_931 rfl cw_L_127 rfl rfl sh_0 rfl (by decide) q0 (Nat.le_of_ble_eq_true rfl) (Nat.le_of_ble_eq_true rfl) (Nat.le_of_ble_eq_true rfl) ⟨rfl, rfl, rfl⟩ ?_
  refine c_X11_lend hT hC hm (fun I1 g1 g2 => ?_)
  refine s_aload_n 935 dL_law_934 rfl rfl ?_
  refine s_callV0 (M' := M_X12_lend) (as := []) 938 dL_law_935 rfl cw_L_130 rfl rfl sh_138 rfl (by decide) q138 (Nat.le_of_ble_eq_true rfl) (Nat.le_of_ble_eq_true rfl) (Nat.le_of_ble_eq_true rfl) ⟨rfl, rfl, rfl⟩ ?_
  obtain ⟨er, es, erd, ehp⟩ := (hM.hi g1).ers
  refine c_X12_lend hT er es erd ehp (fun z => ⟨(hr z).1, rfl, (hr z).p⟩) (fun I2 e2 => ?_)
  refine s_icmp_same 1428 dL_law_938 rfl ?_
  exact k _ _ _ _ _ _ _ (by omega) (by omega) (Jb.q hT hN g2 (hM.hi g1) e2 (by omega))
