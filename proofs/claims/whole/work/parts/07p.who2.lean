/-! what the class answers, 13: who -/
set_option maxHeartbeats 4000000 in
theorem c_X11_who {E : ET} {I : MI} {L : ML} {R : MR} {Q : Option AV → MI → ML → MR → Prop} {m : Int} {bt : F1} {n ft pl w : Int} {HP : Prop} {r s : F1} {a : List Int} {U D K : List (List Int)} {P P' : Nat} {i : Int} (hT : Topo R) (hC : CV I L R m bt n ft pl w HP r s a U D K P P') (hm : 0 ≤ m ∧ m ≤ 900000) (hi : -2147483648 ≤ i ∧ i ≤ 2147483647) (h : ∀ I', Hi I I' → CV I' L R (m + 8) bt n ft pl (pick HP (pick (1 ≤ i ∧ i ≤ 3) 0 2) 1) HP r s a U D K P P' → Q (some (vi (pick HP (pick (1 ≤ i ∧ i ≤ 3) (whoF (MayP r (-1) (r 2) s (s 12)) (r 4) i (pwF i (r 4).toNat).toNat) (-1)) (-1)))) I' L R) : CT E M_X11_who 161 yX11_who [(vr (0)), (vi (i))] I L R Q := by
  refine CT_of rfl rfl (fun h => by cases h) (Nat.le_of_ble_eq_true rfl) (fun X => ?_)
  show V X _ z0 0 [some (vr (0)), some (vi (i))] [] I L R _
  have bd := hC.bd
  have hP := hC.1.1
  have t2 := hC.1.2.2.2.1
  have h85 := hC.1.2.2.2.2.2.1
  have hR := hC.2.2.1
  by_cases hh : HP
  · obtain ⟨hs, hw9, hN⟩ := hC.2.2.2.2.2.2.1 hh
    have hr9 := hs.1
    have e09 := hr9.1
    rw [pick_t hh, pick_t hh] at h
    by_cases h0 : 1 ≤ i ∧ i ≤ 3
    · rw [pick_t h0, pick_t h0] at h
      have ew := who_wy (G := MayP r (-1) (r 2) s (s 12)) (n := (r 4).toNat) (m := i) (by omega) h0
      rw [show (((r 4).toNat : Nat) : Int) = r 4 by omega] at ew
      rw [ew] at h
      refine s_aload_n 1 dX11_who_0 rfl rfl ?_
      refine s_callV0 (M' := M_X11_noPiece) (as := []) 4 dX11_who_1 rfl cw_X11_151 rfl rfl sh_0 rfl (by decide) (Nat.le_of_ble_eq_true rfl) (Nat.le_of_ble_eq_true rfl) (Nat.le_of_ble_eq_true rfl) (Nat.le_of_ble_eq_true rfl) ⟨rfl, rfl, rfl⟩ ?_
      refine c_X11_noPiece hC ?_
      refine s_ifb_eq 13 7 dX11_who_4 rfl rfl (fun h_4 => ?_) (fun h_4 => by exfalso; exact absurd hh h_4)
      refine s_iload_n 14 dX11_who_13 rfl rfl ?_
      refine s_iconst 15 dX11_who_14 rfl ?_
      refine s_icmp_lt 23 18 dX11_who_15 rfl rfl (by first | omega | exact bI_r _ | exact iI_r _) (by first | omega | exact bI_r _ | exact iI_r _) (fun h_15 => by exfalso; omega) (fun h_15 => ?_)
      refine s_iload_n 19 dX11_who_18 rfl rfl ?_
      refine s_iconst 20 dX11_who_19 rfl ?_
      refine s_icmp_le 29 23 dX11_who_20 rfl rfl (by first | omega | exact bI_r _ | exact iI_r _) (by first | omega | exact bI_r _ | exact iI_r _) (fun h_20 => ?_) (fun h_20 => by exfalso; omega)
      refine s_aload_n 30 dX11_who_29 rfl rfl ?_
      refine s_callV0 (M' := M_X11_tonight) (as := []) 33 dX11_who_30 rfl cw_X11_184 rfl rfl sh_0 rfl (by decide) (Nat.le_of_ble_eq_true rfl) (Nat.le_of_ble_eq_true rfl) (Nat.le_of_ble_eq_true rfl) (Nat.le_of_ble_eq_true rfl) ⟨rfl, rfl, rfl⟩ ?_
      refine c_X11_tonight hT hC hh (by omega) (fun I1 g1 g2 g3 => ?_)
      refine s_pop 34 dX11_who_33 rfl rfl ?_
      refine s_aload_n 35 dX11_who_34 rfl rfl ?_
      refine s_aload_n 36 dX11_who_35 rfl rfl ?_
      refine s_getR 39 dX11_who_36 rfl fl_X11_63 (fun _ _ _ _ => rfl) (T_X11_casting hT) sh_0 (Nat.le_of_ble_eq_true rfl) ?_
      refine s_iload_n 40 dX11_who_39 rfl rfl ?_
      refine s_callV0 (M' := M_X1_castsFor) (as := [_]) 43 dX11_who_40 rfl cw_X11_302 rfl rfl sh_107 rfl (by decide) (Nat.le_of_ble_eq_true rfl) (Nat.le_of_ble_eq_true rfl) (Nat.le_of_ble_eq_true rfl) (Nat.le_of_ble_eq_true rfl) ⟨rfl, rfl, rfl⟩ ?_
      refine c_X1_castsFor hT hP h85 hr9 hs.p (by omega) (g2.gw g3.2.2.1) h0 (fun I2 k1 k2 => ?_)
      obtain ⟨C2, S2⟩ := g3.gd hh g2 k1 k2
      refine s_callV0 (M' := M_X11_fine) (as := [_]) 46 dX11_who_43 rfl cw_X11_119 rfl rfl sh_0 rfl (by decide) (Nat.le_of_ble_eq_true rfl) (Nat.le_of_ble_eq_true rfl) (Nat.le_of_ble_eq_true rfl) (Nat.le_of_ble_eq_true rfl) ⟨rfl, rfl, rfl⟩ ?_
      refine c_X11_fine ?_
      refine s_iret dX11_who_46 rfl rfl ?_
      exact h _ (((Hi.nt isN_85 g1).tr (Hi.e86 k1)).st (by decide)) ((C2.mo (by omega)).rf (by decide))
    · rw [pick_f h0, pick_f h0] at h
      refine s_aload_n 1 dX11_who_0 rfl rfl ?_
      refine s_callV0 (M' := M_X11_noPiece) (as := []) 4 dX11_who_1 rfl cw_X11_151 rfl rfl sh_0 rfl (by decide) (Nat.le_of_ble_eq_true rfl) (Nat.le_of_ble_eq_true rfl) (Nat.le_of_ble_eq_true rfl) (Nat.le_of_ble_eq_true rfl) ⟨rfl, rfl, rfl⟩ ?_
      refine c_X11_noPiece hC ?_
      refine s_ifb_eq 13 7 dX11_who_4 rfl rfl (fun h_4 => ?_) (fun h_4 => by exfalso; exact absurd hh h_4)
      refine s_iload_n 14 dX11_who_13 rfl rfl ?_
      refine s_iconst 15 dX11_who_14 rfl ?_
      refine s_icmp_lt 23 18 dX11_who_15 rfl rfl (by first | omega | exact bI_r _ | exact iI_r _) (by first | omega | exact bI_r _ | exact iI_r _) (fun h_15 => ?_) (fun h_15 => ?_)
      · skip
        refine s_aload_n 24 dX11_who_23 rfl rfl ?_
        refine s_iconst 25 dX11_who_24 rfl ?_
        refine s_callV0 (M' := M_X11_refuse) (as := [_]) 28 dX11_who_25 rfl cw_X11_102 rfl rfl sh_0 rfl (by decide) (Nat.le_of_ble_eq_true rfl) (Nat.le_of_ble_eq_true rfl) (Nat.le_of_ble_eq_true rfl) (Nat.le_of_ble_eq_true rfl) ⟨rfl, rfl, rfl⟩ ?_
        refine c_X11_refuse (by decide) ?_
        refine s_iret dX11_who_28 rfl rfl ?_
        exact h _ (Hi.rf.st (by decide)) ((hC.mo (by omega)).rf (by decide))
      refine s_iload_n 19 dX11_who_18 rfl rfl ?_
      refine s_iconst 20 dX11_who_19 rfl ?_
      refine s_icmp_le 29 23 dX11_who_20 rfl rfl (by first | omega | exact bI_r _ | exact iI_r _) (by first | omega | exact bI_r _ | exact iI_r _) (fun h_20 => by exfalso; omega) (fun h_20 => ?_)
      refine s_aload_n 24 dX11_who_23 rfl rfl ?_
      refine s_iconst 25 dX11_who_24 rfl ?_
      refine s_callV0 (M' := M_X11_refuse) (as := [_]) 28 dX11_who_25 rfl cw_X11_102 rfl rfl sh_0 rfl (by decide) (Nat.le_of_ble_eq_true rfl) (Nat.le_of_ble_eq_true rfl) (Nat.le_of_ble_eq_true rfl) (Nat.le_of_ble_eq_true rfl) ⟨rfl, rfl, rfl⟩ ?_
      refine c_X11_refuse (by decide) ?_
      refine s_iret dX11_who_28 rfl rfl ?_
      exact h _ (Hi.rf.st (by decide)) ((hC.mo (by omega)).rf (by decide))
  · rw [pick_f hh, pick_f hh] at h
    refine s_aload_n 1 dX11_who_0 rfl rfl ?_
    refine s_callV0 (M' := M_X11_noPiece) (as := []) 4 dX11_who_1 rfl cw_X11_151 rfl rfl sh_0 rfl (by decide) (Nat.le_of_ble_eq_true rfl) (Nat.le_of_ble_eq_true rfl) (Nat.le_of_ble_eq_true rfl) (Nat.le_of_ble_eq_true rfl) ⟨rfl, rfl, rfl⟩ ?_
    refine c_X11_noPiece hC ?_
    refine s_ifb_eq 13 7 dX11_who_4 rfl rfl (fun h_4 => by exfalso; exact absurd h_4 (fun z => z hh)) (fun h_4 => ?_)
    refine s_aload_n 8 dX11_who_7 rfl rfl ?_
    refine s_iconst 9 dX11_who_8 rfl ?_
    refine s_callV0 (M' := M_X11_refuse) (as := [_]) 12 dX11_who_9 rfl cw_X11_102 rfl rfl sh_0 rfl (by decide) (Nat.le_of_ble_eq_true rfl) (Nat.le_of_ble_eq_true rfl) (Nat.le_of_ble_eq_true rfl) (Nat.le_of_ble_eq_true rfl) ⟨rfl, rfl, rfl⟩ ?_
    refine c_X11_refuse (by decide) ?_
    refine s_iret dX11_who_12 rfl rfl ?_
    exact h _ (Hi.rf.st (by decide)) ((hC.mo (by omega)).rf (by decide))
