/-! the law, case by case: the class answers, then the reference, the same: 9 .. 17 -/
set_option maxHeartbeats 4000000 in
theorem lw_c9 {X : XT} {c9 s9 : Nat} {I : MI} {L : ML} {R : MR} {F : State → Prop} {Ls : Int} {sc : Int → Int} {i m : Int} {w5 w6 : Option AV} (hS : ScX X Ls sc) (hi : 0 ≤ i ∧ i + 6 ≤ Ls) (hm : 0 ≤ m ∧ m ≤ 900000) (hJ : Jb I L R m)
    (k : ∀ c' s' w5' w6' I' L' R', c' ≤ c9 + 1 → s' ≤ s9 + 6 → Jb I' L' R' (m + 8) → V X M_L_law (c', s', 161) 1428 [some (vq 3 0), some (vr 0), some (vr 138), some (vr 160), some (vi i), w5', w6'] [] I' L' R' F) : V X M_L_law (c9, s9, 161) 541 [some (vq 3 0), some (vr 0), some (vr 138), some (vr 160), some (vi i), w5, w6] [] I L R F := by
  have hsr := hS.r
  obtain ⟨bt, n, ft, pl, w, HP, r, s, a, U, D, K, P, P', hT, hC, hM, hN⟩ := hJ
  have hr := hC.hr
  have hul := hC.ul
  refine s_aload_n 542 dL_law_541 rfl rfl ?_
  refine s_aloadq_n 543 dL_law_542 rfl rfl ?_
  refine s_iload 545 dL_law_543 rfl rfl ?_
  refine s_iconst 546 dL_law_545 rfl ?_
  refine s_iadd 547 dL_law_546 rfl ?_
  refine s_sld 548 dL_law_547 rfl hS (by omega) ?_
  refine s_aloadq_n 549 dL_law_548 rfl rfl ?_
  refine s_iload 551 dL_law_549 rfl rfl ?_
  refine s_iconst 552 dL_law_551 rfl ?_
  refine s_iadd 553 dL_law_552 rfl ?_
  refine s_sld 554 dL_law_553 rfl hS (by omega) ?_
  refine s_callV0 (M' := M_X11_need) (as := [_, _]) 557 dL_law_554 rfl cw_L_59 rfl rfl sh_0 rfl (by decide) q0 (Nat.le_of_ble_eq_true rfl) (Nat.le_of_ble_eq_true rfl) (Nat.le_of_ble_eq_true rfl) ⟨rfl, rfl, rfl⟩ ?_
  refine c_X11_need hT hC hm (hsr _) (hsr _) (fun I1 g1 g2 => ?_)
  refine s_aload_n 558 dL_law_557 rfl rfl ?_
  refine s_aloadq_n 559 dL_law_558 rfl rfl ?_
  refine s_iload 561 dL_law_559 rfl rfl ?_
  refine s_iconst 562 dL_law_561 rfl ?_
  refine s_iadd 563 dL_law_562 rfl ?_
  refine s_sld 564 dL_law_563 rfl hS (by omega) ?_
  refine s_aloadq_n 565 dL_law_564 rfl rfl ?_
  refine s_iload 567 dL_law_565 rfl rfl ?_
  refine s_iconst 568 dL_law_567 rfl ?_
  refine s_iadd 569 dL_law_568 rfl ?_
  refine s_sld 570 dL_law_569 rfl hS (by omega) ?_
  refine s_callV0 (M' := M_X12_need) (as := [_, _]) 573 dL_law_570 rfl cw_L_62 rfl rfl sh_138 rfl (by decide) q138 (Nat.le_of_ble_eq_true rfl) (Nat.le_of_ble_eq_true rfl) (Nat.le_of_ble_eq_true rfl) ⟨rfl, rfl, rfl⟩ ?_
  obtain ⟨er, es, erd, ehp⟩ := (hM.hi g1).ers
  refine c_X12_need hT er es erd ehp hr (hsr _) (hsr _) (fun I2 e2 => ?_)
  refine s_icmp_same 1428 dL_law_573 rfl ?_
  exact k _ _ _ _ _ _ _ (by omega) (by omega) (Jb.q hT hN g2 (hM.hi g1) e2 (by omega))
set_option maxHeartbeats 4000000 in
theorem lw_c10 {X : XT} {c9 s9 : Nat} {I : MI} {L : ML} {R : MR} {F : State → Prop} {Ls : Int} {sc : Int → Int} {i m : Int} {w5 w6 : Option AV} (hS : ScX X Ls sc) (hi : 0 ≤ i ∧ i + 6 ≤ Ls) (hm : 0 ≤ m ∧ m ≤ 900000) (hJ : Jb I L R m)
    (k : ∀ c' s' w5' w6' I' L' R', c' ≤ c9 + 1 → s' ≤ s9 + 6 → Jb I' L' R' (m + 8) → V X M_L_law (c', s', 161) 1428 [some (vq 3 0), some (vr 0), some (vr 138), some (vr 160), some (vi i), w5', w6'] [] I' L' R' F) : V X M_L_law (c9, s9, 161) 578 [some (vq 3 0), some (vr 0), some (vr 138), some (vr 160), some (vi i), w5, w6] [] I L R F := by
  have hsr := hS.r
  obtain ⟨bt, n, ft, pl, w, HP, r, s, a, U, D, K, P, P', hT, hC, hM, hN⟩ := hJ
  have hr := hC.hr
  have hul := hC.ul
  refine s_aload_n 579 dL_law_578 rfl rfl ?_
  refine s_aloadq_n 580 dL_law_579 rfl rfl ?_
  refine s_iload 582 dL_law_580 rfl rfl ?_
  refine s_iconst 583 dL_law_582 rfl ?_
  refine s_iadd 584 dL_law_583 rfl ?_
  refine s_sld 585 dL_law_584 rfl hS (by omega) ?_
  refine s_aloadq_n 586 dL_law_585 rfl rfl ?_
  refine s_iload 588 dL_law_586 rfl rfl ?_
  refine s_iconst 589 dL_law_588 rfl ?_
  refine s_iadd 590 dL_law_589 rfl ?_
  refine s_sld 591 dL_law_590 rfl hS (by omega) ?_
  refine s_callV0 (M' := M_X11_meet) (as := [_, _]) 594 dL_law_591 rfl cw_L_63 rfl rfl sh_0 rfl (by decide) q0 (Nat.le_of_ble_eq_true rfl) (Nat.le_of_ble_eq_true rfl) (Nat.le_of_ble_eq_true rfl) ⟨rfl, rfl, rfl⟩ ?_
  refine c_X11_meet hT hC hm (hsr _) (hsr _) (fun I1 g1 g2 => ?_)
  refine s_aload_n 595 dL_law_594 rfl rfl ?_
  refine s_aloadq_n 596 dL_law_595 rfl rfl ?_
  refine s_iload 598 dL_law_596 rfl rfl ?_
  refine s_iconst 599 dL_law_598 rfl ?_
  refine s_iadd 600 dL_law_599 rfl ?_
  refine s_sld 601 dL_law_600 rfl hS (by omega) ?_
  refine s_aloadq_n 602 dL_law_601 rfl rfl ?_
  refine s_iload 604 dL_law_602 rfl rfl ?_
  refine s_iconst 605 dL_law_604 rfl ?_
  refine s_iadd 606 dL_law_605 rfl ?_
  refine s_sld 607 dL_law_606 rfl hS (by omega) ?_
  refine s_callV0 (M' := M_X12_meet) (as := [_, _]) 610 dL_law_607 rfl cw_L_66 rfl rfl sh_138 rfl (by decide) q138 (Nat.le_of_ble_eq_true rfl) (Nat.le_of_ble_eq_true rfl) (Nat.le_of_ble_eq_true rfl) ⟨rfl, rfl, rfl⟩ ?_
  obtain ⟨er, es, erd, ehp⟩ := (hM.hi g1).ers
  refine c_X12_meet hT er es erd ehp hr (hsr _) (hsr _) (fun I2 e2 => ?_)
  refine s_icmp_same 1428 dL_law_610 rfl ?_
  exact k _ _ _ _ _ _ _ (by omega) (by omega) (Jb.q hT hN g2 (hM.hi g1) e2 (by omega))
set_option maxHeartbeats 4000000 in
theorem lw_c11 {X : XT} {c9 s9 : Nat} {I : MI} {L : ML} {R : MR} {F : State → Prop} {Ls : Int} {sc : Int → Int} {i m : Int} {w5 w6 : Option AV} (hS : ScX X Ls sc) (hi : 0 ≤ i ∧ i + 6 ≤ Ls) (hm : 0 ≤ m ∧ m ≤ 900000) (hJ : Jb I L R m)
    (k : ∀ c' s' w5' w6' I' L' R', c' ≤ c9 + 1 → s' ≤ s9 + 6 → Jb I' L' R' (m + 8) → V X M_L_law (c', s', 161) 1428 [some (vq 3 0), some (vr 0), some (vr 138), some (vr 160), some (vi i), w5', w6'] [] I' L' R' F) : V X M_L_law (c9, s9, 161) 615 [some (vq 3 0), some (vr 0), some (vr 138), some (vr 160), some (vi i), w5, w6] [] I L R F := by
  have hsr := hS.r
  obtain ⟨bt, n, ft, pl, w, HP, r, s, a, U, D, K, P, P', hT, hC, hM, hN⟩ := hJ
  have hr := hC.hr
  have hul := hC.ul
  refine s_aload_n 616 dL_law_615 rfl rfl ?_
  refine s_aloadq_n 617 dL_law_616 rfl rfl ?_
  refine s_iload 619 dL_law_617 rfl rfl ?_
  refine s_iconst 620 dL_law_619 rfl ?_
  refine s_iadd 621 dL_law_620 rfl ?_
  refine s_sld 622 dL_law_621 rfl hS (by omega) ?_
  refine s_callV0 (M' := M_X11_bodily) (as := [_]) 625 dL_law_622 rfl cw_L_67 rfl rfl sh_0 rfl (by decide) q0 (Nat.le_of_ble_eq_true rfl) (Nat.le_of_ble_eq_true rfl) (Nat.le_of_ble_eq_true rfl) ⟨rfl, rfl, rfl⟩ ?_
  refine c_X11_bodily hT hC hm (hsr _) (fun I1 g1 g2 => ?_)
  refine s_aload_n 626 dL_law_625 rfl rfl ?_
  refine s_aloadq_n 627 dL_law_626 rfl rfl ?_
  refine s_iload 629 dL_law_627 rfl rfl ?_
  refine s_iconst 630 dL_law_629 rfl ?_
  refine s_iadd 631 dL_law_630 rfl ?_
  refine s_sld 632 dL_law_631 rfl hS (by omega) ?_
  refine s_callV0 (M' := M_X12_bodily) (as := [_]) 635 dL_law_632 rfl cw_L_70 rfl rfl sh_138 rfl (by decide) q138 (Nat.le_of_ble_eq_true rfl) (Nat.le_of_ble_eq_true rfl) (Nat.le_of_ble_eq_true rfl) ⟨rfl, rfl, rfl⟩ ?_
  obtain ⟨er, es, erd, ehp⟩ := (hM.hi g1).ers
  refine c_X12_bodily hT er es erd ehp hr (hsr _) (fun I2 e2 => ?_)
  refine s_icmp_same 1428 dL_law_635 rfl ?_
  exact k _ _ _ _ _ _ _ (by omega) (by omega) (Jb.q hT hN g2 (hM.hi g1) e2 (by omega))
set_option maxHeartbeats 4000000 in
theorem lw_c12 {X : XT} {c9 s9 : Nat} {I : MI} {L : ML} {R : MR} {F : State → Prop} {Ls : Int} {sc : Int → Int} {i m : Int} {w5 w6 : Option AV} (hS : ScX X Ls sc) (hi : 0 ≤ i ∧ i + 6 ≤ Ls) (hm : 0 ≤ m ∧ m ≤ 900000) (hJ : Jb I L R m)
    (k : ∀ c' s' w5' w6' I' L' R', c' ≤ c9 + 1 → s' ≤ s9 + 6 → Jb I' L' R' (m + 8) → V X M_L_law (c', s', 161) 1428 [some (vq 3 0), some (vr 0), some (vr 138), some (vr 160), some (vi i), w5', w6'] [] I' L' R' F) : V X M_L_law (c9, s9, 161) 640 [some (vq 3 0), some (vr 0), some (vr 138), some (vr 160), some (vi i), w5, w6] [] I L R F := by
  have hsr := hS.r
  obtain ⟨bt, n, ft, pl, w, HP, r, s, a, U, D, K, P, P', hT, hC, hM, hN⟩ := hJ
  have hr := hC.hr
  have hul := hC.ul
  refine s_aload_n 641 dL_law_640 rfl rfl ?_
  refine s_aloadq_n 642 dL_law_641 rfl rfl ?_
  refine s_iload 644 dL_law_642 rfl rfl ?_
  refine s_iconst 645 dL_law_644 rfl ?_
  refine s_iadd 646 dL_law_645 rfl ?_
  refine s_sld 647 dL_law_646 rfl hS (by omega) ?_
  refine s_callV0 (M' := M_X11_can) (as := [_]) 650 dL_law_647 rfl cw_L_71 rfl rfl sh_0 rfl (by decide) q0 (Nat.le_of_ble_eq_true rfl) (Nat.le_of_ble_eq_true rfl) (Nat.le_of_ble_eq_true rfl) ⟨rfl, rfl, rfl⟩ ?_
  refine c_X11_can hT hC hm (hsr _) (fun I1 g1 g2 => ?_)
  refine s_aload_n 651 dL_law_650 rfl rfl ?_
  refine s_aloadq_n 652 dL_law_651 rfl rfl ?_
  refine s_iload 654 dL_law_652 rfl rfl ?_
  refine s_iconst 655 dL_law_654 rfl ?_
  refine s_iadd 656 dL_law_655 rfl ?_
  refine s_sld 657 dL_law_656 rfl hS (by omega) ?_
  refine s_callV0 (M' := M_X12_can) (as := [_]) 660 dL_law_657 rfl cw_L_74 rfl rfl sh_138 rfl (by decide) q138 (Nat.le_of_ble_eq_true rfl) (Nat.le_of_ble_eq_true rfl) (Nat.le_of_ble_eq_true rfl) ⟨rfl, rfl, rfl⟩ ?_
  obtain ⟨er, es, erd, ehp⟩ := (hM.hi g1).ers
  refine c_X12_can hT er es erd ehp hr (hsr _) (fun I2 e2 => ?_)
  refine s_icmp_same 1428 dL_law_660 rfl ?_
  exact k _ _ _ _ _ _ _ (by omega) (by omega) (Jb.q hT hN g2 (hM.hi g1) e2 (by omega))
set_option maxHeartbeats 4000000 in
theorem lw_c13 {X : XT} {c9 s9 : Nat} {I : MI} {L : ML} {R : MR} {F : State → Prop} {Ls : Int} {sc : Int → Int} {i m : Int} {w5 w6 : Option AV} (hS : ScX X Ls sc) (hi : 0 ≤ i ∧ i + 6 ≤ Ls) (hm : 0 ≤ m ∧ m ≤ 900000) (hJ : Jb I L R m)
    (k : ∀ c' s' w5' w6' I' L' R', c' ≤ c9 + 1 → s' ≤ s9 + 6 → Jb I' L' R' (m + 8) → V X M_L_law (c', s', 161) 1428 [some (vq 3 0), some (vr 0), some (vr 138), some (vr 160), some (vi i), w5', w6'] [] I' L' R' F) : V X M_L_law (c9, s9, 161) 665 [some (vq 3 0), some (vr 0), some (vr 138), some (vr 160), some (vi i), w5, w6] [] I L R F := by
  have hsr := hS.r
  obtain ⟨bt, n, ft, pl, w, HP, r, s, a, U, D, K, P, P', hT, hC, hM, hN⟩ := hJ
  have hr := hC.hr
  have hul := hC.ul
  refine s_aload_n 666 dL_law_665 rfl rfl ?_
  refine s_aloadq_n 667 dL_law_666 rfl rfl ?_
  refine s_iload 669 dL_law_667 rfl rfl ?_
  refine s_iconst 670 dL_law_669 rfl ?_
  refine s_iadd 671 dL_law_670 rfl ?_
  refine s_sld 672 dL_law_671 rfl hS (by omega) ?_
  refine s_callV0 (M' := M_X11_could) (as := [_]) 675 dL_law_672 rfl cw_L_75 rfl rfl sh_0 rfl (by decide) q0 (Nat.le_of_ble_eq_true rfl) (Nat.le_of_ble_eq_true rfl) (Nat.le_of_ble_eq_true rfl) ⟨rfl, rfl, rfl⟩ ?_
  refine c_X11_could hT hC hm (hsr _) (fun I1 g1 g2 => ?_)
  refine s_aload_n 676 dL_law_675 rfl rfl ?_
  refine s_aloadq_n 677 dL_law_676 rfl rfl ?_
  refine s_iload 679 dL_law_677 rfl rfl ?_
  refine s_iconst 680 dL_law_679 rfl ?_
  refine s_iadd 681 dL_law_680 rfl ?_
  refine s_sld 682 dL_law_681 rfl hS (by omega) ?_
  refine s_callV0 (M' := M_X12_could) (as := [_]) 685 dL_law_682 rfl cw_L_78 rfl rfl sh_138 rfl (by decide) q138 (Nat.le_of_ble_eq_true rfl) (Nat.le_of_ble_eq_true rfl) (Nat.le_of_ble_eq_true rfl) ⟨rfl, rfl, rfl⟩ ?_
  obtain ⟨er, es, erd, ehp⟩ := (hM.hi g1).ers
  refine c_X12_could hT er es erd ehp hr (hsr _) (fun I2 e2 => ?_)
  refine s_icmp_same 1428 dL_law_685 rfl ?_
  exact k _ _ _ _ _ _ _ (by omega) (by omega) (Jb.q hT hN g2 (hM.hi g1) e2 (by omega))
set_option maxHeartbeats 4000000 in
theorem lw_c14 {X : XT} {c9 s9 : Nat} {I : MI} {L : ML} {R : MR} {F : State → Prop} {Ls : Int} {sc : Int → Int} {i m : Int} {w5 w6 : Option AV} (hS : ScX X Ls sc) (hi : 0 ≤ i ∧ i + 6 ≤ Ls) (hm : 0 ≤ m ∧ m ≤ 900000) (hJ : Jb I L R m)
    (k : ∀ c' s' w5' w6' I' L' R', c' ≤ c9 + 1 → s' ≤ s9 + 6 → Jb I' L' R' (m + 8) → V X M_L_law (c', s', 161) 1428 [some (vq 3 0), some (vr 0), some (vr 138), some (vr 160), some (vi i), w5', w6'] [] I' L' R' F) : V X M_L_law (c9, s9, 161) 690 [some (vq 3 0), some (vr 0), some (vr 138), some (vr 160), some (vi i), w5, w6] [] I L R F := by
  have hsr := hS.r
  obtain ⟨bt, n, ft, pl, w, HP, r, s, a, U, D, K, P, P', hT, hC, hM, hN⟩ := hJ
  have hr := hC.hr
  have hul := hC.ul
  refine s_aload_n 691 dL_law_690 rfl rfl ?_
  refine s_callV0 (M' := M_X11_troubled) (as := []) 694 dL_law_691 rfl cw_L_79 rfl rfl sh_0 rfl (by decide) q0 (Nat.le_of_ble_eq_true rfl) (Nat.le_of_ble_eq_true rfl) (Nat.le_of_ble_eq_true rfl) ⟨rfl, rfl, rfl⟩ ?_
  refine c_X11_troubled hT hC hm (fun I1 g1 g2 => ?_)
  refine s_aload_n 695 dL_law_694 rfl rfl ?_
  refine s_callV0 (M' := M_X12_troubled) (as := []) 698 dL_law_695 rfl cw_L_82 rfl rfl sh_138 rfl (by decide) q138 (Nat.le_of_ble_eq_true rfl) (Nat.le_of_ble_eq_true rfl) (Nat.le_of_ble_eq_true rfl) ⟨rfl, rfl, rfl⟩ ?_
  obtain ⟨er, es, erd, ehp⟩ := (hM.hi g1).ers
  refine c_X12_troubled hT er es erd ehp hr (fun I2 e2 => ?_)
  refine s_icmp_same 1428 dL_law_698 rfl ?_
  exact k _ _ _ _ _ _ _ (by omega) (by omega) (Jb.q hT hN g2 (hM.hi g1) e2 (by omega))
set_option maxHeartbeats 4000000 in
theorem lw_c15 {X : XT} {c9 s9 : Nat} {I : MI} {L : ML} {R : MR} {F : State → Prop} {Ls : Int} {sc : Int → Int} {i m : Int} {w5 w6 : Option AV} (hS : ScX X Ls sc) (hi : 0 ≤ i ∧ i + 6 ≤ Ls) (hm : 0 ≤ m ∧ m ≤ 900000) (hJ : Jb I L R m)
    (k : ∀ c' s' w5' w6' I' L' R', c' ≤ c9 + 1 → s' ≤ s9 + 6 → Jb I' L' R' (m + 8) → V X M_L_law (c', s', 161) 1428 [some (vq 3 0), some (vr 0), some (vr 138), some (vr 160), some (vi i), w5', w6'] [] I' L' R' F) : V X M_L_law (c9, s9, 161) 703 [some (vq 3 0), some (vr 0), some (vr 138), some (vr 160), some (vi i), w5, w6] [] I L R F := by
  have hsr := hS.r
  obtain ⟨bt, n, ft, pl, w, HP, r, s, a, U, D, K, P, P', hT, hC, hM, hN⟩ := hJ
  have hr := hC.hr
  have hul := hC.ul
  refine s_aload_n 704 dL_law_703 rfl rfl ?_
  refine s_aloadq_n 705 dL_law_704 rfl rfl ?_
  refine s_iload 707 dL_law_705 rfl rfl ?_
  refine s_iconst 708 dL_law_707 rfl ?_
  refine s_iadd 709 dL_law_708 rfl ?_
  refine s_sld 710 dL_law_709 rfl hS (by omega) ?_
  refine s_callV0 (M' := M_X11_slack) (as := [_]) 713 dL_law_710 rfl cw_L_83 rfl rfl sh_0 rfl (by decide) q0 (Nat.le_of_ble_eq_true rfl) (Nat.le_of_ble_eq_true rfl) (Nat.le_of_ble_eq_true rfl) ⟨rfl, rfl, rfl⟩ ?_
  refine c_X11_slack hT hC hm (hsr _) (fun I1 g1 g2 => ?_)
  refine s_aload_n 714 dL_law_713 rfl rfl ?_
  refine s_aloadq_n 715 dL_law_714 rfl rfl ?_
  refine s_iload 717 dL_law_715 rfl rfl ?_
  refine s_iconst 718 dL_law_717 rfl ?_
  refine s_iadd 719 dL_law_718 rfl ?_
  refine s_sld 720 dL_law_719 rfl hS (by omega) ?_
  refine s_callV0 (M' := M_X12_slack) (as := [_]) 723 dL_law_720 rfl cw_L_86 rfl rfl sh_138 rfl (by decide) q138 (Nat.le_of_ble_eq_true rfl) (Nat.le_of_ble_eq_true rfl) (Nat.le_of_ble_eq_true rfl) ⟨rfl, rfl, rfl⟩ ?_
  obtain ⟨er, es, erd, ehp⟩ := (hM.hi g1).ers
  refine c_X12_slack hT er es erd ehp hr (hsr _) (fun I2 e2 => ?_)
  refine s_icmp_same 1428 dL_law_723 rfl ?_
  exact k _ _ _ _ _ _ _ (by omega) (by omega) (Jb.q hT hN g2 (hM.hi g1) e2 (by omega))
set_option maxHeartbeats 4000000 in
theorem lw_c16 {X : XT} {c9 s9 : Nat} {I : MI} {L : ML} {R : MR} {F : State → Prop} {Ls : Int} {sc : Int → Int} {i m : Int} {w5 w6 : Option AV} (hS : ScX X Ls sc) (hi : 0 ≤ i ∧ i + 6 ≤ Ls) (hm : 0 ≤ m ∧ m ≤ 900000) (hJ : Jb I L R m)
    (k : ∀ c' s' w5' w6' I' L' R', c' ≤ c9 + 1 → s' ≤ s9 + 6 → Jb I' L' R' (m + 8) → V X M_L_law (c', s', 161) 1428 [some (vq 3 0), some (vr 0), some (vr 138), some (vr 160), some (vi i), w5', w6'] [] I' L' R' F) : V X M_L_law (c9, s9, 161) 728 [some (vq 3 0), some (vr 0), some (vr 138), some (vr 160), some (vi i), w5, w6] [] I L R F := by
  have hsr := hS.r
  obtain ⟨bt, n, ft, pl, w, HP, r, s, a, U, D, K, P, P', hT, hC, hM, hN⟩ := hJ
  have hr := hC.hr
  have hul := hC.ul
  refine s_aload_n 729 dL_law_728 rfl rfl ?_
  refine s_aloadq_n 730 dL_law_729 rfl rfl ?_
  refine s_iload 732 dL_law_730 rfl rfl ?_
  refine s_iconst 733 dL_law_732 rfl ?_
  refine s_iadd 734 dL_law_733 rfl ?_
  refine s_sld 735 dL_law_734 rfl hS (by omega) ?_
  refine s_aloadq_n 736 dL_law_735 rfl rfl ?_
  refine s_iload 738 dL_law_736 rfl rfl ?_
  refine s_iconst 739 dL_law_738 rfl ?_
  refine s_iadd 740 dL_law_739 rfl ?_
  refine s_sld 741 dL_law_740 rfl hS (by omega) ?_
  refine s_callV0 (M' := M_X11_sweat) (as := [_, _]) 744 dL_law_741 rfl cw_L_87 rfl rfl sh_0 rfl (by decide) q0 (Nat.le_of_ble_eq_true rfl) (Nat.le_of_ble_eq_true rfl) (Nat.le_of_ble_eq_true rfl) ⟨rfl, rfl, rfl⟩ ?_
  refine c_X11_sweat hT hC hm (hsr _) (hsr _) (fun I1 g1 g2 => ?_)
  refine s_aload_n 745 dL_law_744 rfl rfl ?_
  refine s_aloadq_n 746 dL_law_745 rfl rfl ?_
  refine s_iload 748 dL_law_746 rfl rfl ?_
  refine s_iconst 749 dL_law_748 rfl ?_
  refine s_iadd 750 dL_law_749 rfl ?_
  refine s_sld 751 dL_law_750 rfl hS (by omega) ?_
  refine s_aloadq_n 752 dL_law_751 rfl rfl ?_
  refine s_iload 754 dL_law_752 rfl rfl ?_
  refine s_iconst 755 dL_law_754 rfl ?_
  refine s_iadd 756 dL_law_755 rfl ?_
  refine s_sld 757 dL_law_756 rfl hS (by omega) ?_
  refine s_callV0 (M' := M_X12_sweat) (as := [_, _]) 760 dL_law_757 rfl cw_L_90 rfl rfl sh_138 rfl (by decide) q138 (Nat.le_of_ble_eq_true rfl) (Nat.le_of_ble_eq_true rfl) (Nat.le_of_ble_eq_true rfl) ⟨rfl, rfl, rfl⟩ ?_
  obtain ⟨er, es, erd, ehp⟩ := (hM.hi g1).ers
  refine c_X12_sweat hT er es erd ehp hr (hsr _) (hsr _) (fun I2 e2 => ?_)
  refine s_icmp_same 1428 dL_law_760 rfl ?_
  exact k _ _ _ _ _ _ _ (by omega) (by omega) (Jb.q hT hN g2 (hM.hi g1) e2 (by omega))
set_option maxHeartbeats 4000000 in
theorem lw_c17 {X : XT} {c9 s9 : Nat} {I : MI} {L : ML} {R : MR} {F : State → Prop} {Ls : Int} {sc : Int → Int} {i m : Int} {w5 w6 : Option AV} (hS : ScX X Ls sc) (hi : 0 ≤ i ∧ i + 6 ≤ Ls) (hm : 0 ≤ m ∧ m ≤ 900000) (hJ : Jb I L R m)
    (k : ∀ c' s' w5' w6' I' L' R', c' ≤ c9 + 1 → s' ≤ s9 + 6 → Jb I' L' R' (m + 8) → V X M_L_law (c', s', 161) 1428 [some (vq 3 0), some (vr 0), some (vr 138), some (vr 160), some (vi i), w5', w6'] [] I' L' R' F) : V X M_L_law (c9, s9, 161) 765 [some (vq 3 0), some (vr 0), some (vr 138), some (vr 160), some (vi i), w5, w6] [] I L R F := by
  have hsr := hS.r
  obtain ⟨bt, n, ft, pl, w, HP, r, s, a, U, D, K, P, P', hT, hC, hM, hN⟩ := hJ
  have hr := hC.hr
  have hul := hC.ul
  refine s_aload_n 766 dL_law_765 rfl rfl ?_
  refine s_callV0 (M' := M_X11_fewest) (as := []) 769 dL_law_766 rfl cw_L_91 rfl rfl sh_0 rfl (by decide) q0 (Nat.le_of_ble_eq_true rfl) (Nat.le_of_ble_eq_true rfl) (Nat.le_of_ble_eq_true rfl) ⟨rfl, rfl, rfl⟩ ?_
  refine c_X11_fewest hT hC hm (fun I1 g1 g2 => ?_)
  refine s_aload_n 770 dL_law_769 rfl rfl ?_
  refine s_callV0 (M' := M_X12_fewest) (as := []) 773 dL_law_770 rfl cw_L_94 rfl rfl sh_138 rfl (by decide) q138 (Nat.le_of_ble_eq_true rfl) (Nat.le_of_ble_eq_true rfl) (Nat.le_of_ble_eq_true rfl) ⟨rfl, rfl, rfl⟩ ?_
  obtain ⟨er, es, erd, ehp⟩ := (hM.hi g1).ers
  refine c_X12_fewest hT er es erd ehp hr (fun I2 e2 => ?_)
  refine s_icmp_same 1428 dL_law_773 rfl ?_
  exact k _ _ _ _ _ _ _ (by omega) (by omega) (Jb.q hT hN g2 (hM.hi g1) e2 (by omega))
