/-! what the class answers, 4 -/
set_option maxHeartbeats 4000000 in
theorem c_X11_fewestWithout {E : ET} {I : MI} {L : ML} {R : MR} {Q : Option AV → MI → ML → MR → Prop} {m : Int} {bt : F1} {n ft pl w : Int} {HP : Prop} {r s : F1} {a : List Int} {U D K : List (List Int)} {P P' : Nat} {p : Int} (hT : Topo R) (hC : CV I L R m bt n ft pl w HP r s a U D K P P') (hh : HP) (hm : 0 ≤ m ∧ m ≤ 1000000) (hp9 : 0 ≤ p ∧ p < r 4) (h : ∀ I', Hi I I' → CV I' L R (m + 1) bt n ft pl w HP r s a U D K P P' → (lentF r (-1) (r 2) s p = -2 ∨ (0 ≤ lentF r (-1) (r 2) s p ∧ lentF r (-1) (r 2) s p ≤ 7)) → Q (some (vi (lentF r (-1) (r 2) s p))) I' L R) : CT E M_X11_fewestWithout 161 yX11_fewestWithout [(vr (0)), (vi (p))] I L R Q := by
  refine CT_of rfl rfl (fun h => by cases h) (Nat.le_of_ble_eq_true rfl) (fun X => ?_)
  show V X _ z0 0 [some (vr (0)), some (vi (p))] [] I L R _
  have bd := hC.bd
  have hP := hC.1.1
  have t2 := hC.1.2.2.2.1
  obtain ⟨hs, hw9, hN⟩ := hC.2.2.2.2.2.2.1 hh
  have hr9 := hs.1
  have e09 := hr9.1
  have a7 := allF_7 (n := r 4) ⟨by omega, by omega⟩
  have hl := sub_le (s := allF (r 4)) ⟨by omega, by omega⟩ (sub_and (allF (r 4)) (ixor (ishl 1 p) (-1)))
  have hb := splV_bd (G := MayP r (-1) (r 2) s (s 12)) (s := iand (allF (r 4)) (ixor (ishl 1 p) (-1))) ⟨by omega, by omega⟩
  refine s_aload_n 1 dX11_fewestWithout_0 rfl rfl ?_
  refine s_callV0 (M' := M_X11_tonight) (as := []) 4 dX11_fewestWithout_1 rfl cw_X11_184 rfl rfl sh_0 rfl (by decide) (Nat.le_of_ble_eq_true rfl) (Nat.le_of_ble_eq_true rfl) (Nat.le_of_ble_eq_true rfl) (Nat.le_of_ble_eq_true rfl) ⟨rfl, rfl, rfl⟩ ?_
  refine c_X11_tonight hT hC hh (by omega) (fun I1 g1 g2 g3 => ?_)
  refine s_aload_n 5 dX11_fewestWithout_4 rfl rfl ?_
  refine s_getR 8 dX11_fewestWithout_5 rfl fl_X11_19 (fun _ _ _ _ => rfl) (by assumption) sh_0 (Nat.le_of_ble_eq_true rfl) ?_
  refine s_callV0 (M' := M_X5_allParts) (as := []) 11 dX11_fewestWithout_8 rfl cw_X11_237 rfl rfl (isP_sh (by assumption)) rfl (by decide) (isP_lt (by assumption)) (Nat.le_of_ble_eq_true rfl) (Nat.le_of_ble_eq_true rfl) (Nat.le_of_ble_eq_true rfl) ⟨rfl, rfl, rfl⟩ ?_
  refine c_X5_allParts hP g3.2.2.1 ?_
  refine s_iconst 12 dX11_fewestWithout_11 rfl ?_
  refine s_iload_n 13 dX11_fewestWithout_12 rfl rfl ?_
  refine s_ishl 14 dX11_fewestWithout_13 rfl ?_
  refine s_iconst 15 dX11_fewestWithout_14 rfl ?_
  refine s_ixor 16 dX11_fewestWithout_15 rfl ?_
  refine s_iand 17 dX11_fewestWithout_16 rfl ?_
  refine s_callU0 (M' := M_X3_fewestFor) (as := [_]) 20 dX11_fewestWithout_17 rfl cw_X11_271_3 rfl rfl (isN_sh isN_85) rfl (by decide) (isN_lt isN_85) (Nat.le_of_ble_eq_true rfl) (Nat.le_of_ble_eq_true rfl) (Nat.le_of_ble_eq_true rfl) ⟨rfl, rfl, rfl⟩ ?_
  refine c_X3_fewestFor3 hT isN_85 hP hC.1.2.2.2.2.2.1 hr9 hs.p (by omega) (g2.gw g3.2.2.1) ⟨by omega, by omega⟩ (fun I2 k1 k2 => ?_)
  obtain ⟨C2, S2⟩ := g3.gd hh g2 k1 k2
  refine s_iret dX11_fewestWithout_20 rfl rfl ?_
  exact h I2 ((Hi.nt isN_85 g1).tr (Hi.e86 k1)) C2 hb
set_option maxHeartbeats 4000000 in
theorem c_X11_lent {E : ET} {I : MI} {L : ML} {R : MR} {Q : Option AV → MI → ML → MR → Prop} {m : Int} {bt : F1} {n ft pl w : Int} {HP : Prop} {r s : F1} {a : List Int} {U D K : List (List Int)} {P P' : Nat} {i : Int} (hT : Topo R) (hC : CV I L R m bt n ft pl w HP r s a U D K P P') (hm : 0 ≤ m ∧ m ≤ 900000) (hi : -2147483648 ≤ i ∧ i ≤ 2147483647) (h : ∀ I', Hi I I' → CV I' L R (m + 8) bt n ft pl (pick (HP ∧ 0 ≤ i ∧ i < r 4) 0 1) HP r s a U D K P P' → Q (some (vi (pick (HP ∧ 0 ≤ i ∧ i < r 4) (lentF r (-1) (r 2) s i) (-1)))) I' L R) : CT E M_X11_lent 161 yX11_lent [(vr (0)), (vi (i))] I L R Q := by
  refine CT_of rfl rfl (fun h => by cases h) (Nat.le_of_ble_eq_true rfl) (fun X => ?_)
  show V X _ z0 0 [some (vr (0)), some (vi (i))] [] I L R _
  obtain ⟨hn, hy⟩ := c_spl hC h
  have bd := hC.bd
  have hP := hC.1.1
  have t2 := hC.1.2.2.2.1
  have hR := hC.2.2.1
  have hE := hC.2.2.2.1
  refine s_aload_n 1 dX11_lent_0 rfl rfl ?_
  refine s_iload_n 2 dX11_lent_1 rfl rfl ?_
  refine s_callV0 (M' := M_X11_isPart) (as := [_]) 5 dX11_lent_2 rfl cw_X11_203 rfl rfl sh_0 rfl (by decide) (Nat.le_of_ble_eq_true rfl) (Nat.le_of_ble_eq_true rfl) (Nat.le_of_ble_eq_true rfl) (Nat.le_of_ble_eq_true rfl) ⟨rfl, rfl, rfl⟩ ?_
  refine c_X11_isPart hC hi ?_
  refine s_ifb_eq 20 8 dX11_lent_5 rfl rfl (fun h_5 => ?_) (fun h_5 => ?_)
  · skip
    refine s_aload_n 21 dX11_lent_20 rfl rfl ?_
    refine s_iconst 22 dX11_lent_21 rfl ?_
    refine s_callV0 (M' := M_X11_refuse) (as := [_]) 25 dX11_lent_22 rfl cw_X11_102 rfl rfl sh_0 rfl (by decide) (Nat.le_of_ble_eq_true rfl) (Nat.le_of_ble_eq_true rfl) (Nat.le_of_ble_eq_true rfl) (Nat.le_of_ble_eq_true rfl) ⟨rfl, rfl, rfl⟩ ?_
    refine c_X11_refuse (by decide) ?_
    refine s_iret dX11_lent_25 rfl rfl ?_
    first | exact hy h_5 I1 (m + 1) (by omega) g1 g2 | exact hn h_5
  refine s_aload_n 9 dX11_lent_8 rfl rfl ?_
  refine s_aload_n 10 dX11_lent_9 rfl rfl ?_
  refine s_iload_n 11 dX11_lent_10 rfl rfl ?_
  refine s_callV0 (M' := M_X11_fewestWithout) (as := [_]) 14 dX11_lent_11 rfl cw_X11_293 rfl rfl sh_0 rfl (by decide) (Nat.le_of_ble_eq_true rfl) (Nat.le_of_ble_eq_true rfl) (Nat.le_of_ble_eq_true rfl) (Nat.le_of_ble_eq_true rfl) ⟨rfl, rfl, rfl⟩ ?_
  refine c_X11_fewestWithout hT hC h_5.1 (by omega) h_5.2 (fun I1 g1 g2 g3 => ?_)
  refine s_callV0 (M' := M_X11_fine) (as := [_]) 17 dX11_lent_14 rfl cw_X11_119 rfl rfl sh_0 rfl (by decide) (Nat.le_of_ble_eq_true rfl) (Nat.le_of_ble_eq_true rfl) (Nat.le_of_ble_eq_true rfl) (Nat.le_of_ble_eq_true rfl) ⟨rfl, rfl, rfl⟩ ?_
  refine c_X11_fine ?_
  refine s_goto 25 dX11_lent_17 rfl ?_
  refine s_iret dX11_lent_25 rfl rfl ?_
  first | exact hy h_5 I1 (m + 1) (by omega) g1 g2 | exact hn h_5
set_option maxHeartbeats 4000000 in
theorem c_X11_gap {E : ET} {I : MI} {L : ML} {R : MR} {Q : Option AV → MI → ML → MR → Prop} {m : Int} {bt : F1} {n ft pl w : Int} {HP : Prop} {r s : F1} {a : List Int} {U D K : List (List Int)} {P P' : Nat}  (hT : Topo R) (hC : CV I L R m bt n ft pl w HP r s a U D K P P') (hm : 0 ≤ m ∧ m ≤ 900000) (h : ∀ I', Hi I I' → CV I' L R (m + 8) bt n ft pl (pick (HP) 0 1) HP r s a U D K P P' → Q (some (vi (pick (HP) (gapF r s) (-1)))) I' L R) : CT E M_X11_gap 161 yX11_gap [(vr (0))] I L R Q := by
  refine CT_of rfl rfl (fun h => by cases h) (Nat.le_of_ble_eq_true rfl) (fun X => ?_)
  show V X _ z0 0 [some (vr (0))] [] I L R _
  obtain ⟨hn, hy⟩ := c_spl hC h
  have bd := hC.bd
  have hP := hC.1.1
  have t2 := hC.1.2.2.2.1
  have hR := hC.2.2.1
  have hE := hC.2.2.2.1
  refine s_aload_n 1 dX11_gap_0 rfl rfl ?_
  refine s_callV0 (M' := M_X11_noPiece) (as := []) 4 dX11_gap_1 rfl cw_X11_151 rfl rfl sh_0 rfl (by decide) (Nat.le_of_ble_eq_true rfl) (Nat.le_of_ble_eq_true rfl) (Nat.le_of_ble_eq_true rfl) (Nat.le_of_ble_eq_true rfl) ⟨rfl, rfl, rfl⟩ ?_
  refine c_X11_noPiece hC ?_
  refine s_ifb_eq 13 7 dX11_gap_4 rfl rfl (fun h_4 => ?_) (fun h_4 => ?_)
  · skip
    refine s_aload_n 14 dX11_gap_13 rfl rfl ?_
    refine s_aload_n 15 dX11_gap_14 rfl rfl ?_
    refine s_getR 18 dX11_gap_15 rfl fl_X11_70 (fun _ _ _ _ => rfl) (T_X11_search hT) sh_0 (Nat.le_of_ble_eq_true rfl) ?_
    refine s_aload_n 19 dX11_gap_18 rfl rfl ?_
    refine s_getR 22 dX11_gap_19 rfl fl_X11_38 (fun _ _ _ _ => rfl) (T_X11_evening hT) sh_0 (Nat.le_of_ble_eq_true rfl) ?_
    refine s_getI 25 dX11_gap_22 rfl fl_X11_155 (fun _ _ _ _ => rfl) sh_80 (Nat.le_of_ble_eq_true rfl) (fun r_22 => ?_)
    refine s_aload_n 26 dX11_gap_25 rfl rfl ?_
    refine s_getR 29 dX11_gap_26 rfl fl_X11_38 (fun _ _ _ _ => rfl) (T_X11_evening hT) sh_0 (Nat.le_of_ble_eq_true rfl) ?_
    refine s_getI 32 dX11_gap_29 rfl fl_X11_161 (fun _ _ _ _ => rfl) sh_80 (Nat.le_of_ble_eq_true rfl) (fun r_29 => ?_)
    rw [hE.2.2]
    refine s_callV0 (M' := M_X7_leastGap) (as := [_, _]) 35 dX11_gap_32 rfl cw_X11_296 rfl rfl sh_111 rfl (by decide) (Nat.le_of_ble_eq_true rfl) (Nat.le_of_ble_eq_true rfl) (Nat.le_of_ble_eq_true rfl) (Nat.le_of_ble_eq_true rfl) ⟨rfl, rfl, rfl⟩ ?_
    have hh := nn_n h_4
    obtain ⟨hs, hw9, hN⟩ := hC.2.2.2.2.2.2.1 hh
    refine c_X7_leastGap hT hP hC.1.2.2.2.2.2.2.2.1 hC.1.2.2.2.2.2.2.1 hs.1 (hC.tw hh) hE.1 hs.p hs.ct (fun I1 k1 k2 => ?_)
    refine s_callV0 (M' := M_X11_fine) (as := [_]) 38 dX11_gap_35 rfl cw_X11_119 rfl rfl sh_0 rfl (by decide) (Nat.le_of_ble_eq_true rfl) (Nat.le_of_ble_eq_true rfl) (Nat.le_of_ble_eq_true rfl) (Nat.le_of_ble_eq_true rfl) ⟨rfl, rfl, rfl⟩ ?_
    refine c_X11_fine ?_
    refine s_iret dX11_gap_38 rfl rfl ?_
    first | exact hn h_4 | exact hy hh I1 m (by omega) (Hi.nt isN_113 k1) (hC.sn hh k1 k2)
  refine s_aload_n 8 dX11_gap_7 rfl rfl ?_
  refine s_iconst 9 dX11_gap_8 rfl ?_
  refine s_callV0 (M' := M_X11_refuse) (as := [_]) 12 dX11_gap_9 rfl cw_X11_102 rfl rfl sh_0 rfl (by decide) (Nat.le_of_ble_eq_true rfl) (Nat.le_of_ble_eq_true rfl) (Nat.le_of_ble_eq_true rfl) (Nat.le_of_ble_eq_true rfl) ⟨rfl, rfl, rfl⟩ ?_
  refine c_X11_refuse (by decide) ?_
  refine s_iret dX11_gap_12 rfl rfl ?_
  first | exact hn h_4 | exact hy hh I1 m (by omega) (Hi.nt isN_113 k1) (hC.sn hh k1 k2)
set_option maxHeartbeats 4000000 in
theorem c_X11_swaps {E : ET} {I : MI} {L : ML} {R : MR} {Q : Option AV → MI → ML → MR → Prop} {m : Int} {bt : F1} {n ft pl w : Int} {HP : Prop} {r s : F1} {a : List Int} {U D K : List (List Int)} {P P' : Nat}  (hT : Topo R) (hC : CV I L R m bt n ft pl w HP r s a U D K P P') (hm : 0 ≤ m ∧ m ≤ 900000) (h : ∀ I', Hi I I' → CV I' L R (m + 8) bt n ft pl (pick (HP) 0 1) HP r s a U D K P P' → Q (some (vi (pick (HP) (swF r (swapT r s (r 2)) a) (-1)))) I' L R) : CT E M_X11_swaps 161 yX11_swaps [(vr (0))] I L R Q := by
  refine CT_of rfl rfl (fun h => by cases h) (Nat.le_of_ble_eq_true rfl) (fun X => ?_)
  show V X _ z0 0 [some (vr (0))] [] I L R _
  obtain ⟨hn, hy⟩ := c_spl hC h
  have bd := hC.bd
  have hP := hC.1.1
  have t2 := hC.1.2.2.2.1
  have hR := hC.2.2.1
  have hE := hC.2.2.2.1
  refine s_aload_n 1 dX11_swaps_0 rfl rfl ?_
  refine s_callV0 (M' := M_X11_noPiece) (as := []) 4 dX11_swaps_1 rfl cw_X11_151 rfl rfl sh_0 rfl (by decide) (Nat.le_of_ble_eq_true rfl) (Nat.le_of_ble_eq_true rfl) (Nat.le_of_ble_eq_true rfl) (Nat.le_of_ble_eq_true rfl) ⟨rfl, rfl, rfl⟩ ?_
  refine c_X11_noPiece hC ?_
  refine s_ifb_eq 13 7 dX11_swaps_4 rfl rfl (fun h_4 => ?_) (fun h_4 => ?_)
  · skip
    refine s_aload_n 14 dX11_swaps_13 rfl rfl ?_
    refine s_aload_n 15 dX11_swaps_14 rfl rfl ?_
    refine s_getR 18 dX11_swaps_15 rfl fl_X11_70 (fun _ _ _ _ => rfl) (T_X11_search hT) sh_0 (Nat.le_of_ble_eq_true rfl) ?_
    refine s_aload_n 19 dX11_swaps_18 rfl rfl ?_
    refine s_getR 22 dX11_swaps_19 rfl fl_X11_38 (fun _ _ _ _ => rfl) (T_X11_evening hT) sh_0 (Nat.le_of_ble_eq_true rfl) ?_
    refine s_getI 25 dX11_swaps_22 rfl fl_X11_155 (fun _ _ _ _ => rfl) sh_80 (Nat.le_of_ble_eq_true rfl) (fun r_22 => ?_)
    refine s_aload_n 26 dX11_swaps_25 rfl rfl ?_
    refine s_getR 29 dX11_swaps_26 rfl fl_X11_38 (fun _ _ _ _ => rfl) (T_X11_evening hT) sh_0 (Nat.le_of_ble_eq_true rfl) ?_
    refine s_getI 32 dX11_swaps_29 rfl fl_X11_161 (fun _ _ _ _ => rfl) sh_80 (Nat.le_of_ble_eq_true rfl) (fun r_29 => ?_)
    rw [hE.2.2]
    refine s_callV0 (M' := M_X7_fewestSwaps) (as := [_, _]) 35 dX11_swaps_32 rfl cw_X11_299 rfl rfl sh_111 rfl (by decide) (Nat.le_of_ble_eq_true rfl) (Nat.le_of_ble_eq_true rfl) (Nat.le_of_ble_eq_true rfl) (Nat.le_of_ble_eq_true rfl) ⟨rfl, rfl, rfl⟩ ?_
    have hh := nn_n h_4
    obtain ⟨hs, hw9, hN⟩ := hC.2.2.2.2.2.2.1 hh
    refine c_X7_fewestSwaps hT hP hC.1.2.2.2.2.2.2.2.1 hC.1.2.2.2.2.2.2.1 hs.1 (hC.tw hh) hs.2.1 (hE.1.c hs.2.2.1) hs.ct (fun I1 k1 k2 => ?_)
    have B1 : BaI I1 r := by have b5 := hN.2.2.2.2.1; unfold BaI at *; rw [k1 111 (by decide) (by decide)]; exact b5
    refine s_callV0 (M' := M_X11_fine) (as := [_]) 38 dX11_swaps_35 rfl cw_X11_119 rfl rfl sh_0 rfl (by decide) (Nat.le_of_ble_eq_true rfl) (Nat.le_of_ble_eq_true rfl) (Nat.le_of_ble_eq_true rfl) (Nat.le_of_ble_eq_true rfl) ⟨rfl, rfl, rfl⟩ ?_
    refine c_X11_fine ?_
    refine s_iret dX11_swaps_38 rfl rfl ?_
    first | exact hn h_4 | exact hy hh I1 m (by omega) (fun c hc => k1 c (by omega) (by omega)) (hC.se hh (fun c hc => k1 c (by omega) (by omega)) k2 B1)
  refine s_aload_n 8 dX11_swaps_7 rfl rfl ?_
  refine s_iconst 9 dX11_swaps_8 rfl ?_
  refine s_callV0 (M' := M_X11_refuse) (as := [_]) 12 dX11_swaps_9 rfl cw_X11_102 rfl rfl sh_0 rfl (by decide) (Nat.le_of_ble_eq_true rfl) (Nat.le_of_ble_eq_true rfl) (Nat.le_of_ble_eq_true rfl) (Nat.le_of_ble_eq_true rfl) ⟨rfl, rfl, rfl⟩ ?_
  refine c_X11_refuse (by decide) ?_
  refine s_iret dX11_swaps_12 rfl rfl ?_
  first | exact hn h_4 | exact hy hh I1 m (by omega) (fun c hc => k1 c (by omega) (by omega)) (hC.se hh (fun c hc => k1 c (by omega) (by omega)) k2 B1)
set_option maxHeartbeats 4000000 in
theorem c_X11_same {E : ET} {I : MI} {L : ML} {R : MR} {Q : Option AV → MI → ML → MR → Prop} {m : Int} {bt : F1} {n ft pl w : Int} {HP : Prop} {r s : F1} {a : List Int} {U D K : List (List Int)} {P P' : Nat} {i j : Int} (hT : Topo R) (hC : CV I L R m bt n ft pl w HP r s a U D K P P') (hm : 0 ≤ m ∧ m ≤ 900000) (hi : -2147483648 ≤ i ∧ i ≤ 2147483647) (hj : -2147483648 ≤ j ∧ j ≤ 2147483647) (h : ∀ I', Hi I I' → CV I' L R (m + 8) bt n ft pl (pick ((HP ∧ 0 ≤ i ∧ i < r 8) ∧ (HP ∧ 0 ≤ j ∧ j < r 8) ∧ i ≠ j) 0 1) HP r s a U D K P P' → Q (some (vi (pick ((HP ∧ 0 ≤ i ∧ i < r 8) ∧ (HP ∧ 0 ≤ j ∧ j < r 8) ∧ i ≠ j) (bI (BoP r i j)) (-1)))) I' L R) : CT E M_X11_same 161 yX11_same [(vr (0)), (vi (i)), (vi (j))] I L R Q := by
  refine CT_of rfl rfl (fun h => by cases h) (Nat.le_of_ble_eq_true rfl) (fun X => ?_)
  show V X _ z0 0 [some (vr (0)), some (vi (i)), some (vi (j))] [] I L R _
  obtain ⟨hn, hy⟩ := c_spl hC h
  have bd := hC.bd
  have hP := hC.1.1
  have t2 := hC.1.2.2.2.1
  have hR := hC.2.2.1
  have hE := hC.2.2.2.1
  refine s_aload_n 1 dX11_same_0 rfl rfl ?_
  refine s_iload_n 2 dX11_same_1 rfl rfl ?_
  refine s_callV0 (M' := M_X11_isSaw) (as := [_]) 5 dX11_same_2 rfl cw_X11_305 rfl rfl sh_0 rfl (by decide) (Nat.le_of_ble_eq_true rfl) (Nat.le_of_ble_eq_true rfl) (Nat.le_of_ble_eq_true rfl) (Nat.le_of_ble_eq_true rfl) ⟨rfl, rfl, rfl⟩ ?_
  refine c_X11_isSaw hC hi ?_
  refine s_ifb_eq 21 8 dX11_same_5 rfl rfl (fun h_5 => ?_) (fun h_5 => ?_)
  · skip
    refine s_aload_n 22 dX11_same_21 rfl rfl ?_
    refine s_iconst 23 dX11_same_22 rfl ?_
    refine s_callV0 (M' := M_X11_refuse) (as := [_]) 26 dX11_same_23 rfl cw_X11_102 rfl rfl sh_0 rfl (by decide) (Nat.le_of_ble_eq_true rfl) (Nat.le_of_ble_eq_true rfl) (Nat.le_of_ble_eq_true rfl) (Nat.le_of_ble_eq_true rfl) ⟨rfl, rfl, rfl⟩ ?_
    refine c_X11_refuse (by decide) ?_
    refine s_iret dX11_same_26 rfl rfl ?_
    first | exact hy ⟨h_5, h_13, h_18⟩ I1 m (by omega) (fun c hc => k1 c (by simp; omega)) (hC.sg hh k1 k2) | exact hn (fun z => h_5 z.1) | exact hn (fun z => h_13 z.2.1) | exact hn (fun z => z.2.2 (by omega))
  refine s_aload_n 9 dX11_same_8 rfl rfl ?_
  refine s_iload_n 10 dX11_same_9 rfl rfl ?_
  refine s_callV0 (M' := M_X11_isSaw) (as := [_]) 13 dX11_same_10 rfl cw_X11_305 rfl rfl sh_0 rfl (by decide) (Nat.le_of_ble_eq_true rfl) (Nat.le_of_ble_eq_true rfl) (Nat.le_of_ble_eq_true rfl) (Nat.le_of_ble_eq_true rfl) ⟨rfl, rfl, rfl⟩ ?_
  refine c_X11_isSaw hC hj ?_
  refine s_ifb_eq 21 16 dX11_same_13 rfl rfl (fun h_13 => ?_) (fun h_13 => ?_)
  · skip
    refine s_aload_n 22 dX11_same_21 rfl rfl ?_
    refine s_iconst 23 dX11_same_22 rfl ?_
    refine s_callV0 (M' := M_X11_refuse) (as := [_]) 26 dX11_same_23 rfl cw_X11_102 rfl rfl sh_0 rfl (by decide) (Nat.le_of_ble_eq_true rfl) (Nat.le_of_ble_eq_true rfl) (Nat.le_of_ble_eq_true rfl) (Nat.le_of_ble_eq_true rfl) ⟨rfl, rfl, rfl⟩ ?_
    refine c_X11_refuse (by decide) ?_
    refine s_iret dX11_same_26 rfl rfl ?_
    first | exact hy ⟨h_5, h_13, h_18⟩ I1 m (by omega) (fun c hc => k1 c (by simp; omega)) (hC.sg hh k1 k2) | exact hn (fun z => h_5 z.1) | exact hn (fun z => h_13 z.2.1) | exact hn (fun z => z.2.2 (by omega))
  refine s_iload_n 17 dX11_same_16 rfl rfl ?_
  refine s_iload_n 18 dX11_same_17 rfl rfl ?_
  refine s_icmp_ne 27 21 dX11_same_18 rfl rfl (by first | omega | exact bI_r _ | exact iI_r _) (by first | omega | exact bI_r _ | exact iI_r _) (fun h_18 => ?_) (fun h_18 => ?_)
  · skip
    refine s_aload_n 28 dX11_same_27 rfl rfl ?_
    refine s_aload_n 29 dX11_same_28 rfl rfl ?_
    refine s_getR 32 dX11_same_29 rfl fl_X11_77 (fun _ _ _ _ => rfl) (T_X11_sightings hT) sh_0 (Nat.le_of_ble_eq_true rfl) ?_
    refine s_iconst 33 dX11_same_32 rfl ?_
    refine s_iload_n 34 dX11_same_33 rfl rfl ?_
    refine s_ishl 35 dX11_same_34 rfl ?_
    refine s_iconst 36 dX11_same_35 rfl ?_
    refine s_iload_n 37 dX11_same_36 rfl rfl ?_
    refine s_ishl 38 dX11_same_37 rfl ?_
    refine s_ior 39 dX11_same_38 rfl ?_
    refine s_callU0 (M' := M_X3_good) (as := [_]) 42 dX11_same_39 rfl cw_X11_308_7 rfl rfl sh_135 rfl (by decide) (Nat.le_of_ble_eq_true rfl) (Nat.le_of_ble_eq_true rfl) (Nat.le_of_ble_eq_true rfl) (Nat.le_of_ble_eq_true rfl) ⟨rfl, rfl, rfl⟩ ?_
    have hh := h_5.1
    obtain ⟨hs, hw9, hN⟩ := hC.2.2.2.2.2.2.1 hh
    have st := seen_two (r := r) (w := i) (v := j) (by omega) h_5.2 h_13.2 h_18
    have o7 : 0 ≤ ior (ishl 1 i) (ishl 1 j) ∧ ior (ishl 1 i) (ishl 1 j) < 128 := set_lt (n := 7) (x := ior (ishl 1 i) (ishl 1 j)) (by decide) (iI_r _) (fun k k1 k2 z => by rw [has_or ⟨by omega, k2⟩, has_shl (by omega) ⟨by omega, k2⟩, has_shl (by omega) ⟨by omega, k2⟩] at z; omega)
    refine c_X3_good7 hT hP hC.1.2.2.2.2.2.2.2.2 hs.1 hw9 (hC.g7 hh) ⟨by omega, by omega⟩ (fun I1 k1 k2 => ?_)
    rw [bI_c (show ((0 ≤ ior (ishl 1 i) (ishl 1 j) ∧ ior (ishl 1 i) (ishl 1 j) < 128) ∧ SeenP r (ior (ishl 1 i) (ishl 1 j))) ↔ BoP r i j from ⟨fun z => st.mp z.2, fun z => ⟨o7, st.mpr z⟩⟩)]
    refine s_callV0 (M' := M_X11_fineIf) (as := [_]) 45 dX11_same_42 rfl cw_X11_217 rfl rfl sh_0 rfl (by decide) (Nat.le_of_ble_eq_true rfl) (Nat.le_of_ble_eq_true rfl) (Nat.le_of_ble_eq_true rfl) (Nat.le_of_ble_eq_true rfl) ⟨rfl, rfl, rfl⟩ ?_
    refine c_X11_fineIf ?_
    refine s_iret dX11_same_45 rfl rfl ?_
    first | exact hy ⟨h_5, h_13, h_18⟩ I1 m (by omega) (fun c hc => k1 c (by simp; omega)) (hC.sg hh k1 k2) | exact hn (fun z => h_5 z.1) | exact hn (fun z => h_13 z.2.1) | exact hn (fun z => z.2.2 (by omega))
  refine s_aload_n 22 dX11_same_21 rfl rfl ?_
  refine s_iconst 23 dX11_same_22 rfl ?_
  refine s_callV0 (M' := M_X11_refuse) (as := [_]) 26 dX11_same_23 rfl cw_X11_102 rfl rfl sh_0 rfl (by decide) (Nat.le_of_ble_eq_true rfl) (Nat.le_of_ble_eq_true rfl) (Nat.le_of_ble_eq_true rfl) (Nat.le_of_ble_eq_true rfl) ⟨rfl, rfl, rfl⟩ ?_
  refine c_X11_refuse (by decide) ?_
  refine s_iret dX11_same_26 rfl rfl ?_
  first | exact hy ⟨h_5, h_13, h_18⟩ I1 m (by omega) (fun c hc => k1 c (by simp; omega)) (hC.sg hh k1 k2) | exact hn (fun z => h_5 z.1) | exact hn (fun z => h_13 z.2.1) | exact hn (fun z => z.2.2 (by omega))
set_option maxHeartbeats 4000000 in
theorem c_X11_must {E : ET} {I : MI} {L : ML} {R : MR} {Q : Option AV → MI → ML → MR → Prop} {m : Int} {bt : F1} {n ft pl w : Int} {HP : Prop} {r s : F1} {a : List Int} {U D K : List (List Int)} {P P' : Nat}  (hT : Topo R) (hC : CV I L R m bt n ft pl w HP r s a U D K P P') (hm : 0 ≤ m ∧ m ≤ 900000) (h : ∀ I', Hi I I' → CV I' L R (m + 8) bt n ft pl (pick (HP) 0 1) HP r s a U D K P P' → Q (some (vi (pick (HP) (splV (SeenP r) (allF (r 8))) (-1)))) I' L R) : CT E M_X11_must 161 yX11_must [(vr (0))] I L R Q := by
  refine CT_of rfl rfl (fun h => by cases h) (Nat.le_of_ble_eq_true rfl) (fun X => ?_)
  show V X _ z0 0 [some (vr (0))] [] I L R _
  obtain ⟨hn, hy⟩ := c_spl hC h
  have bd := hC.bd
  have hP := hC.1.1
  have t2 := hC.1.2.2.2.1
  have hR := hC.2.2.1
  have hE := hC.2.2.2.1
  refine s_aload_n 1 dX11_must_0 rfl rfl ?_
  refine s_callV0 (M' := M_X11_noPiece) (as := []) 4 dX11_must_1 rfl cw_X11_151 rfl rfl sh_0 rfl (by decide) (Nat.le_of_ble_eq_true rfl) (Nat.le_of_ble_eq_true rfl) (Nat.le_of_ble_eq_true rfl) (Nat.le_of_ble_eq_true rfl) ⟨rfl, rfl, rfl⟩ ?_
  refine c_X11_noPiece hC ?_
  refine s_ifb_eq 13 7 dX11_must_4 rfl rfl (fun h_4 => ?_) (fun h_4 => ?_)
  · skip
    refine s_aload_n 14 dX11_must_13 rfl rfl ?_
    refine s_aload_n 15 dX11_must_14 rfl rfl ?_
    refine s_getR 18 dX11_must_15 rfl fl_X11_77 (fun _ _ _ _ => rfl) (T_X11_sightings hT) sh_0 (Nat.le_of_ble_eq_true rfl) ?_
    refine s_iconst 19 dX11_must_18 rfl ?_
    refine s_aload_n 20 dX11_must_19 rfl rfl ?_
    refine s_getR 23 dX11_must_20 rfl fl_X11_19 (fun _ _ _ _ => rfl) (by assumption) sh_0 (Nat.le_of_ble_eq_true rfl) ?_
    refine s_getI 26 dX11_must_23 rfl fl_X11_148 (fun _ _ _ _ => rfl) (isP_sh (by assumption)) (isP_lt (by assumption)) (fun r_23 => ?_)
    rw [hR.1.2.2.2.2.2.2.2]
    refine s_ishl 27 dX11_must_26 rfl ?_
    refine s_iconst 28 dX11_must_27 rfl ?_
    refine s_isub 29 dX11_must_28 rfl ?_
    refine s_callU0 (M' := M_X3_fewestFor) (as := [_]) 32 dX11_must_29 rfl cw_X11_309_7 rfl rfl sh_135 rfl (by decide) (Nat.le_of_ble_eq_true rfl) (Nat.le_of_ble_eq_true rfl) (Nat.le_of_ble_eq_true rfl) (Nat.le_of_ble_eq_true rfl) ⟨rfl, rfl, rfl⟩ ?_
    have hh := nn_n h_4
    obtain ⟨hs, hw9, hN⟩ := hC.2.2.2.2.2.2.1 hh
    have a7 := allF_7 (n := r 8) ⟨by omega, by omega⟩
    rw [show ishl 1 (r 8) - 1 = allF (r 8) from rfl]
    refine c_X3_fewestFor7 hT hP hC.1.2.2.2.2.2.2.2.2 hs.1 hw9 (hC.g7 hh) a7 (fun I1 k1 k2 => ?_)
    refine s_callV0 (M' := M_X11_fine) (as := [_]) 35 dX11_must_32 rfl cw_X11_119 rfl rfl sh_0 rfl (by decide) (Nat.le_of_ble_eq_true rfl) (Nat.le_of_ble_eq_true rfl) (Nat.le_of_ble_eq_true rfl) (Nat.le_of_ble_eq_true rfl) ⟨rfl, rfl, rfl⟩ ?_
    refine c_X11_fine ?_
    refine s_iret dX11_must_35 rfl rfl ?_
    first | exact hn h_4 | exact hy hh I1 m (by omega) (fun c hc => k1 c (by simp; omega)) (hC.sg hh k1 k2)
  refine s_aload_n 8 dX11_must_7 rfl rfl ?_
  refine s_iconst 9 dX11_must_8 rfl ?_
  refine s_callV0 (M' := M_X11_refuse) (as := [_]) 12 dX11_must_9 rfl cw_X11_102 rfl rfl sh_0 rfl (by decide) (Nat.le_of_ble_eq_true rfl) (Nat.le_of_ble_eq_true rfl) (Nat.le_of_ble_eq_true rfl) (Nat.le_of_ble_eq_true rfl) ⟨rfl, rfl, rfl⟩ ?_
  refine c_X11_refuse (by decide) ?_
  refine s_iret dX11_must_12 rfl rfl ?_
  first | exact hn h_4 | exact hy hh I1 m (by omega) (fun c hc => k1 c (by simp; omega)) (hC.sg hh k1 k2)
