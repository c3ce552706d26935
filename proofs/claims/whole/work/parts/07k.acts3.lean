/-! what the class answers, 10: acts -/
theorem AcR.hp {HP : Prop} {r s : F1} {L : ML} {c : Nat} {U : List (List Int)} (h : AcR L c r U) (hn : U ≠ []) (hz : ¬ HP → (∀ j, 0 ≤ j → j < 281 → r j = 0) ∧ ∀ j, 0 ≤ j → j < 13 → s j = 0) : HP := by
  apply Classical.byContradiction
  intro z
  have z4 := (hz z).1 4 (by decide) (by decide)
  obtain ⟨o, g, a, _, _, _, hs⟩ := h 0 (List.length_pos_iff.mpr hn)
  have := hs.1.1
  omega
theorem kp_ap {U : List (List Int)} {x : List Int} (h : U.length ≤ 11) : kp U x = U ++ [x] := by
  unfold kp
  rw [if_neg (by omega)]
theorem stO_E {I : MI} {r s : F1} {x : List Int} {o g : Int} (ho : EnO o (vL x) (r 5)) (h5 : r 5 ≤ 5) (hg : GvO g (fun p => vL x (5 + p))) (e0 : I 80 0 = o) (e1 : I 80 1 = g) (e2 : I 80 2 = vL x 12) : CvE I r (stO x s) := by
  have e : ∀ k, 0 ≤ k → k < 13 → stO x s k = vL x k := fun k a b => by unfold stO; rw [if_pos ⟨a, b⟩]
  refine ⟨by rw [e0]; exact ho.c (fun k a b => (e k a (by omega)).symm), by rw [e1]; exact hg.c (fun p a b => (e (5 + p) (by omega) (by omega)).symm), by rw [e2, e 12 (by decide) (by decide)]⟩
theorem stO_S {r s : F1} {x a : List Int} (h : SOk r (vL x) a) : SOk r (stO x s) a := h.c (fun k a b => by unfold stO; rw [if_pos ⟨a, b⟩])
set_option maxHeartbeats 4000000 in
theorem c_X11_undo {E : ET} {I : MI} {L : ML} {R : MR} {Q : Option AV → MI → ML → MR → Prop} {m : Int} {bt : F1} {n ft pl w : Int} {HP : Prop} {r s : F1} {a : List Int} {U D K : List (List Int)} {P P' : Nat} (hT : Topo R) (hC : CV I L R m bt n ft pl w HP r s a U D K P P') (hm : 0 ≤ m ∧ m ≤ 900000) (h : ∀ C, C = (U ≠ []) → ∀ I' L' a', Hi I I' → CV I' L' R (m + 8) bt n ft pl (pick C 0 6) HP r (pick C (stO (lastR U) s) s) a' (pick C U.dropLast U) (pick C (kp D (rowAt s 0)) D) K P P' → Q (some (vi (bI C))) I' L' R) : CT E M_X11_undo 161 yX11_undo [(vr (0))] I L R Q := by
  refine CT_of rfl rfl (fun h => by cases h) (Nat.le_of_ble_eq_true rfl) (fun X => ?_)
  show V X _ z0 0 [some (vr (0))] [] I L R _
  have h := h _ rfl
  have bd := hC.bd
  have hP := hC.1.1
  have t2 := hC.1.2.2.2.1
  have hR := hC.2.2.1
  have hE := hC.2.2.2.1
  have hH := hC.2.2.2.2.1
  have hul := hH.2.2.2.1
  obtain ⟨A, hA1, hA2⟩ := hH.1.2.mk
  obtain ⟨B, hB1, hB2⟩ := hH.2.1.2.mk
  have eA := hA2.1
  have eB := hB2.1
  by_cases hc : U ≠ []
  · have hl : 0 < U.length := List.length_pos_iff.mpr hc
    have hh : HP := AcR.hp (hH.1.2) hc hC.2.2.2.2.2.2.2
    obtain ⟨hs, hw9, hN⟩ := hC.2.2.2.2.2.2.1 hh
    have e0 := hs.1.1
    have hct := hs.ct
    have hx := PkR.mk hE hs
    rw [pick_t hc, pick_t hc, pick_t hc, pick_t hc, bI_t hc, kp_ap (by omega)] at h
    obtain ⟨o, g, a', x1, x2, x3, x4⟩ := hA2.la hc
    have x5 := x4.ct
    have x1b := x1.1
    have x2b := x2.1
    refine s_aload_n 1 dX11_undo_0 rfl rfl ?_
    refine s_getR 4 dX11_undo_1 rfl fl_X11_45 (fun _ _ _ _ => rfl) (T_X11_acts hT) sh_0 (Nat.le_of_ble_eq_true rfl) ?_
    refine s_getI 7 dX11_undo_4 rfl fl_X11_334 (fun _ _ _ _ => rfl) sh_81 (Nat.le_of_ble_eq_true rfl) (fun r_4 => ?_)
    rw [hH.1.1]
    refine s_if_ne 17 10 dX11_undo_7 rfl rfl (by first | omega | exact bI_r _ | exact iI_r _) (fun h_7 => ?_) (fun h_7 => by exfalso; omega)
    refine s_aload_n 18 dX11_undo_17 rfl rfl ?_
    refine s_getR 21 dX11_undo_18 rfl fl_X11_38 (fun _ _ _ _ => rfl) (T_X11_evening hT) sh_0 (Nat.le_of_ble_eq_true rfl) ?_
    refine s_aload_n 22 dX11_undo_21 rfl rfl ?_
    refine s_getR 25 dX11_undo_22 rfl fl_X11_45 (fun _ _ _ _ => rfl) (T_X11_acts hT) sh_0 (Nat.le_of_ble_eq_true rfl) ?_
    refine s_aload_n 26 dX11_undo_25 rfl rfl ?_
    refine s_getR 29 dX11_undo_26 rfl fl_X11_38 (fun _ _ _ _ => rfl) (T_X11_evening hT) sh_0 (Nat.le_of_ble_eq_true rfl) ?_
    refine s_callV0 (M' := M_X2_packed) (as := []) 32 dX11_undo_29 rfl cw_X11_319 rfl rfl sh_80 rfl (by decide) (Nat.le_of_ble_eq_true rfl) (Nat.le_of_ble_eq_true rfl) (Nat.le_of_ble_eq_true rfl) (Nat.le_of_ble_eq_true rfl) ⟨rfl, rfl, rfl⟩ ?_
    refine c_X2_packed (g := I 80 1) rfl rfl hE.2.2 hE.1.n hE.2.1.1 hct ?_
    refine s_callV0 (M' := M_X0_stepBack) (as := [_]) 35 dX11_undo_32 rfl cw_X11_337 rfl rfl sh_81 rfl (by decide) (Nat.le_of_ble_eq_true rfl) (Nat.le_of_ble_eq_true rfl) (Nat.le_of_ble_eq_true rfl) (Nat.le_of_ble_eq_true rfl) ⟨rfl, rfl, rfl⟩ ?_
    refine c_X0_stepBack (U := A) (D := B) hT (by rw [eA]; exact hH.1.1) (by rw [eB]; exact hH.2.1.1) (fun z => by rw [z] at eA; simp at eA; omega) (by omega) hA1 hB1 (fun I1 L1 g1 g2 g3 g4 g5 g6 => ?_)
    refine s_callV0 (M' := M_X2_unpack) (as := [_]) 38 dX11_undo_35 rfl cw_X11_341 rfl rfl sh_80 rfl (by decide) (Nat.le_of_ble_eq_true rfl) (Nat.le_of_ble_eq_true rfl) (Nat.le_of_ble_eq_true rfl) (Nat.le_of_ble_eq_true rfl) ⟨rfl, rfl, rfl⟩ ?_
    rw [x3]
    refine c_X2_unpack (by omega) (by omega) (by omega) ?_
    refine s_aload_n 39 dX11_undo_38 rfl rfl ?_
    refine s_callV0 (M' := M_X11_done) (as := []) 42 dX11_undo_39 rfl cw_X11_327 rfl rfl sh_0 rfl (by decide) (Nat.le_of_ble_eq_true rfl) (Nat.le_of_ble_eq_true rfl) (Nat.le_of_ble_eq_true rfl) (Nat.le_of_ble_eq_true rfl) ⟨rfl, rfl, rfl⟩ ?_
    refine c_X11_done ?_
    refine s_zret dX11_undo_42 rfl (by first | omega | exact bI_b _) rfl ?_
    refine h _ L1 a' ?_ ((CV.ac (hC.mo (by omega)) hh (fun c c1 c2 => ?_) ?_ (stO_S x4) ?_).rf (by decide))
    · exact Hi.st (Hi.st (Hi.st (Hi.st (fun c hc => g1 c (by simp; omega)) (by decide)) (by decide)) (by decide)) (by decide)
    · rw [up_ne c1, up_ne c1, up_ne c1]; exact g1 c (by simpa using c2)
    · exact stO_E x1 (by omega) x2 (by rw [upn (by decide), upn (by decide), ups]) (by rw [upn (by decide), ups]) ups
    · unfold CvH
      rw [up_ne (by decide), up_ne (by decide), up_ne (by decide)]
      exact ⟨⟨by rw [g2, List.length_dropLast]; omega, hA2.dl.ac (hA1.dl.c (g5 82 (by decide)))⟩, ⟨by rw [g3, List.length_append, List.length_singleton]; omega, (hB2.ap hx).ac g6⟩, ⟨by rw [g4]; exact hH.2.2.1.1, fun j hj => by rw [g5 84 (by decide)]; exact hH.2.2.1.2 j hj⟩, by rw [List.length_dropLast, List.length_append, List.length_singleton]; omega, hH.2.2.2.2⟩
  · have hz : U = [] := Classical.byContradiction hc
    rw [pick_f hc, pick_f hc, pick_f hc, pick_f hc, bI_f hc] at h
    have e1 := hH.1.1
    rw [hz] at e1
    simp at e1
    refine s_aload_n 1 dX11_undo_0 rfl rfl ?_
    refine s_getR 4 dX11_undo_1 rfl fl_X11_45 (fun _ _ _ _ => rfl) (T_X11_acts hT) sh_0 (Nat.le_of_ble_eq_true rfl) ?_
    refine s_getI 7 dX11_undo_4 rfl fl_X11_334 (fun _ _ _ _ => rfl) sh_81 (Nat.le_of_ble_eq_true rfl) (fun r_4 => ?_)
    rw [e1]
    refine s_if_ne 17 10 dX11_undo_7 rfl rfl (by first | omega | exact bI_r _ | exact iI_r _) (fun h_7 => by exfalso; omega) (fun h_7 => ?_)
    refine s_aload_n 11 dX11_undo_10 rfl rfl ?_
    refine s_bipush 13 dX11_undo_11 rfl (by decide) ?_
    refine s_callV0 (M' := M_X11_denied) (as := [_]) 16 dX11_undo_13 rfl cw_X11_310 rfl rfl sh_0 rfl (by decide) (Nat.le_of_ble_eq_true rfl) (Nat.le_of_ble_eq_true rfl) (Nat.le_of_ble_eq_true rfl) (Nat.le_of_ble_eq_true rfl) ⟨rfl, rfl, rfl⟩ ?_
    refine c_X11_denied (by decide) ?_
    refine s_zret dX11_undo_16 rfl (by first | omega | exact bI_b _) rfl ?_
    rw [bI_f id]; exact h _ _ a (Hi.rf.st (by decide)) ((hC.mo (by omega)).rf (by decide))
set_option maxHeartbeats 4000000 in
theorem c_X11_redo {E : ET} {I : MI} {L : ML} {R : MR} {Q : Option AV → MI → ML → MR → Prop} {m : Int} {bt : F1} {n ft pl w : Int} {HP : Prop} {r s : F1} {a : List Int} {U D K : List (List Int)} {P P' : Nat} (hT : Topo R) (hC : CV I L R m bt n ft pl w HP r s a U D K P P') (hm : 0 ≤ m ∧ m ≤ 900000) (h : ∀ C, C = (D ≠ []) → ∀ I' L' a', Hi I I' → CV I' L' R (m + 8) bt n ft pl (pick C 0 6) HP r (pick C (stO (lastR D) s) s) a' (pick C (kp U (rowAt s 0)) U) (pick C D.dropLast D) K P P' → Q (some (vi (bI C))) I' L' R) : CT E M_X11_redo 161 yX11_redo [(vr (0))] I L R Q := by
  refine CT_of rfl rfl (fun h => by cases h) (Nat.le_of_ble_eq_true rfl) (fun X => ?_)
  show V X _ z0 0 [some (vr (0))] [] I L R _
  have h := h _ rfl
  have bd := hC.bd
  have hP := hC.1.1
  have t2 := hC.1.2.2.2.1
  have hR := hC.2.2.1
  have hE := hC.2.2.2.1
  have hH := hC.2.2.2.2.1
  have hul := hH.2.2.2.1
  obtain ⟨A, hA1, hA2⟩ := hH.1.2.mk
  obtain ⟨B, hB1, hB2⟩ := hH.2.1.2.mk
  have eA := hA2.1
  have eB := hB2.1
  by_cases hc : D ≠ []
  · have hl : 0 < D.length := List.length_pos_iff.mpr hc
    have hh : HP := AcR.hp (hH.2.1.2) hc hC.2.2.2.2.2.2.2
    obtain ⟨hs, hw9, hN⟩ := hC.2.2.2.2.2.2.1 hh
    have e0 := hs.1.1
    have hct := hs.ct
    have hx := PkR.mk hE hs
    rw [pick_t hc, pick_t hc, pick_t hc, pick_t hc, bI_t hc, kp_ap (by omega)] at h
    obtain ⟨o, g, a', x1, x2, x3, x4⟩ := hB2.la hc
    have x5 := x4.ct
    have x1b := x1.1
    have x2b := x2.1
    refine s_aload_n 1 dX11_redo_0 rfl rfl ?_
    refine s_getR 4 dX11_redo_1 rfl fl_X11_45 (fun _ _ _ _ => rfl) (T_X11_acts hT) sh_0 (Nat.le_of_ble_eq_true rfl) ?_
    refine s_getI 7 dX11_redo_4 rfl fl_X11_344 (fun _ _ _ _ => rfl) sh_81 (Nat.le_of_ble_eq_true rfl) (fun r_4 => ?_)
    rw [hH.2.1.1]
    refine s_if_ne 17 10 dX11_redo_7 rfl rfl (by first | omega | exact bI_r _ | exact iI_r _) (fun h_7 => ?_) (fun h_7 => by exfalso; omega)
    refine s_aload_n 18 dX11_redo_17 rfl rfl ?_
    refine s_getR 21 dX11_redo_18 rfl fl_X11_38 (fun _ _ _ _ => rfl) (T_X11_evening hT) sh_0 (Nat.le_of_ble_eq_true rfl) ?_
    refine s_aload_n 22 dX11_redo_21 rfl rfl ?_
    refine s_getR 25 dX11_redo_22 rfl fl_X11_45 (fun _ _ _ _ => rfl) (T_X11_acts hT) sh_0 (Nat.le_of_ble_eq_true rfl) ?_
    refine s_aload_n 26 dX11_redo_25 rfl rfl ?_
    refine s_getR 29 dX11_redo_26 rfl fl_X11_38 (fun _ _ _ _ => rfl) (T_X11_evening hT) sh_0 (Nat.le_of_ble_eq_true rfl) ?_
    refine s_callV0 (M' := M_X2_packed) (as := []) 32 dX11_redo_29 rfl cw_X11_319 rfl rfl sh_80 rfl (by decide) (Nat.le_of_ble_eq_true rfl) (Nat.le_of_ble_eq_true rfl) (Nat.le_of_ble_eq_true rfl) (Nat.le_of_ble_eq_true rfl) ⟨rfl, rfl, rfl⟩ ?_
    refine c_X2_packed (g := I 80 1) rfl rfl hE.2.2 hE.1.n hE.2.1.1 hct ?_
    refine s_callV0 (M' := M_X0_stepOn) (as := [_]) 35 dX11_redo_32 rfl cw_X11_347 rfl rfl sh_81 rfl (by decide) (Nat.le_of_ble_eq_true rfl) (Nat.le_of_ble_eq_true rfl) (Nat.le_of_ble_eq_true rfl) (Nat.le_of_ble_eq_true rfl) ⟨rfl, rfl, rfl⟩ ?_
    refine c_X0_stepOn (U := A) (D := B) hT (by rw [eA]; exact hH.1.1) (by rw [eB]; exact hH.2.1.1) (fun z => by rw [z] at eB; simp at eB; omega) (by omega) hA1 hB1 (fun I1 L1 g1 g2 g3 g4 g5 g6 => ?_)
    refine s_callV0 (M' := M_X2_unpack) (as := [_]) 38 dX11_redo_35 rfl cw_X11_341 rfl rfl sh_80 rfl (by decide) (Nat.le_of_ble_eq_true rfl) (Nat.le_of_ble_eq_true rfl) (Nat.le_of_ble_eq_true rfl) (Nat.le_of_ble_eq_true rfl) ⟨rfl, rfl, rfl⟩ ?_
    rw [x3]
    refine c_X2_unpack (by omega) (by omega) (by omega) ?_
    refine s_aload_n 39 dX11_redo_38 rfl rfl ?_
    refine s_callV0 (M' := M_X11_done) (as := []) 42 dX11_redo_39 rfl cw_X11_327 rfl rfl sh_0 rfl (by decide) (Nat.le_of_ble_eq_true rfl) (Nat.le_of_ble_eq_true rfl) (Nat.le_of_ble_eq_true rfl) (Nat.le_of_ble_eq_true rfl) ⟨rfl, rfl, rfl⟩ ?_
    refine c_X11_done ?_
    refine s_zret dX11_redo_42 rfl (by first | omega | exact bI_b _) rfl ?_
    refine h _ L1 a' ?_ ((CV.ac (hC.mo (by omega)) hh (fun c c1 c2 => ?_) ?_ (stO_S x4) ?_).rf (by decide))
    · exact Hi.st (Hi.st (Hi.st (Hi.st (fun c hc => g1 c (by simp; omega)) (by decide)) (by decide)) (by decide)) (by decide)
    · rw [up_ne c1, up_ne c1, up_ne c1]; exact g1 c (by simpa using c2)
    · exact stO_E x1 (by omega) x2 (by rw [upn (by decide), upn (by decide), ups]) (by rw [upn (by decide), ups]) ups
    · unfold CvH
      rw [up_ne (by decide), up_ne (by decide), up_ne (by decide)]
      exact ⟨⟨by rw [g2, List.length_append, List.length_singleton]; omega, (hA2.ap hx).ac g6⟩, ⟨by rw [g3, List.length_dropLast]; omega, hB2.dl.ac (hB1.dl.c (g5 83 (by decide)))⟩, ⟨by rw [g4]; exact hH.2.2.1.1, fun j hj => by rw [g5 84 (by decide)]; exact hH.2.2.1.2 j hj⟩, by rw [List.length_dropLast, List.length_append, List.length_singleton]; omega, hH.2.2.2.2⟩
  · have hz : D = [] := Classical.byContradiction hc
    rw [pick_f hc, pick_f hc, pick_f hc, pick_f hc, bI_f hc] at h
    have e1 := hH.2.1.1
    rw [hz] at e1
    simp at e1
    refine s_aload_n 1 dX11_redo_0 rfl rfl ?_
    refine s_getR 4 dX11_redo_1 rfl fl_X11_45 (fun _ _ _ _ => rfl) (T_X11_acts hT) sh_0 (Nat.le_of_ble_eq_true rfl) ?_
    refine s_getI 7 dX11_redo_4 rfl fl_X11_344 (fun _ _ _ _ => rfl) sh_81 (Nat.le_of_ble_eq_true rfl) (fun r_4 => ?_)
    rw [e1]
    refine s_if_ne 17 10 dX11_redo_7 rfl rfl (by first | omega | exact bI_r _ | exact iI_r _) (fun h_7 => by exfalso; omega) (fun h_7 => ?_)
    refine s_aload_n 11 dX11_redo_10 rfl rfl ?_
    refine s_bipush 13 dX11_redo_11 rfl (by decide) ?_
    refine s_callV0 (M' := M_X11_denied) (as := [_]) 16 dX11_redo_13 rfl cw_X11_310 rfl rfl sh_0 rfl (by decide) (Nat.le_of_ble_eq_true rfl) (Nat.le_of_ble_eq_true rfl) (Nat.le_of_ble_eq_true rfl) (Nat.le_of_ble_eq_true rfl) ⟨rfl, rfl, rfl⟩ ?_
    refine c_X11_denied (by decide) ?_
    refine s_zret dX11_redo_16 rfl (by first | omega | exact bI_b _) rfl ?_
    rw [bI_f id]; exact h _ _ a (Hi.rf.st (by decide)) ((hC.mo (by omega)).rf (by decide))
set_option maxHeartbeats 4000000 in
theorem c_X11_image {E : ET} {I : MI} {L : ML} {R : MR} {Q : Option AV → MI → ML → MR → Prop} {m : Int} {bt : F1} {n ft pl w : Int} {HP : Prop} {r s : F1} {a : List Int} {U D K : List (List Int)} {P P' : Nat} (hT : Topo R) (hC : CV I L R m bt n ft pl w HP r s a U D K P P') (hm : 0 ≤ m ∧ m ≤ 900000) (h : ∀ C, C = (K.length ≠ 3) → ∀ I' L', Hi I I' → CV I' L' R (m + 8) bt n ft pl (pick HP (pick C 0 3) 1) HP r s a U D (pick (HP ∧ C) (K ++ [rowAt s 0]) K) P P' → Q (some (vi (pick HP (pick C (K.length : Int) (-1)) (-1)))) I' L' R) : CT E M_X11_image 161 yX11_image [(vr (0))] I L R Q := by
  refine CT_of rfl rfl (fun h => by cases h) (Nat.le_of_ble_eq_true rfl) (fun X => ?_)
  show V X _ z0 0 [some (vr (0))] [] I L R _
  have h := h _ rfl
  have bd := hC.bd
  have hP := hC.1.1
  have t2 := hC.1.2.2.2.1
  have hR := hC.2.2.1
  have hE := hC.2.2.2.1
  have hH := hC.2.2.2.2.1
  have hul := hH.2.2.2.1
  obtain ⟨A, hA1, hA2⟩ := hH.2.2.1.2.mk
  have eA := hA2.1
  have hk3 := hH.2.2.2.2
  by_cases hh : HP
  · obtain ⟨hs, hw9, hN⟩ := hC.2.2.2.2.2.2.1 hh
    have hct := hs.ct
    have hx := PkR.mk hE hs
    rw [pick_t hh, pick_t hh] at h
    by_cases hc : K.length ≠ 3
    · rw [pick_t hc, pick_t hc, pick_t ⟨hh, hc⟩] at h
      refine s_aload_n 1 dX11_image_0 rfl rfl ?_
      refine s_callV0 (M' := M_X11_noPiece) (as := []) 4 dX11_image_1 rfl cw_X11_151 rfl rfl sh_0 rfl (by decide) (Nat.le_of_ble_eq_true rfl) (Nat.le_of_ble_eq_true rfl) (Nat.le_of_ble_eq_true rfl) (Nat.le_of_ble_eq_true rfl) ⟨rfl, rfl, rfl⟩ ?_
      refine c_X11_noPiece hC ?_
      refine s_ifb_eq 13 7 dX11_image_4 rfl rfl (fun h_4 => ?_) (fun h_4 => by exfalso; exact h_4 hh)
      refine s_aload_n 14 dX11_image_13 rfl rfl ?_
      refine s_getR 17 dX11_image_14 rfl fl_X11_45 (fun _ _ _ _ => rfl) (T_X11_acts hT) sh_0 (Nat.le_of_ble_eq_true rfl) ?_
      refine s_getI 20 dX11_image_17 rfl fl_X11_350 (fun _ _ _ _ => rfl) sh_81 (Nat.le_of_ble_eq_true rfl) (fun r_17 => ?_)
      rw [hH.2.2.1.1]
      refine s_iconst 21 dX11_image_20 rfl ?_
      refine s_icmp_ne 30 24 dX11_image_21 rfl rfl (by first | omega | exact bI_r _ | exact iI_r _) (by first | omega | exact bI_r _ | exact iI_r _) (fun h_21 => ?_) (fun h_21 => by exfalso; omega)
      refine s_aload_n 31 dX11_image_30 rfl rfl ?_
      refine s_aload_n 32 dX11_image_31 rfl rfl ?_
      refine s_getR 35 dX11_image_32 rfl fl_X11_45 (fun _ _ _ _ => rfl) (T_X11_acts hT) sh_0 (Nat.le_of_ble_eq_true rfl) ?_
      refine s_aload_n 36 dX11_image_35 rfl rfl ?_
      refine s_getR 39 dX11_image_36 rfl fl_X11_38 (fun _ _ _ _ => rfl) (T_X11_evening hT) sh_0 (Nat.le_of_ble_eq_true rfl) ?_
      refine s_callV0 (M' := M_X2_packed) (as := []) 42 dX11_image_39 rfl cw_X11_319 rfl rfl sh_80 rfl (by decide) (Nat.le_of_ble_eq_true rfl) (Nat.le_of_ble_eq_true rfl) (Nat.le_of_ble_eq_true rfl) (Nat.le_of_ble_eq_true rfl) ⟨rfl, rfl, rfl⟩ ?_
      refine c_X2_packed (g := I 80 1) rfl rfl hE.2.2 hE.1.n hE.2.1.1 hct ?_
      refine s_callV0 (M' := M_X0_addImage) (as := [_]) 45 dX11_image_42 rfl cw_X11_353 rfl rfl sh_81 rfl (by decide) (Nat.le_of_ble_eq_true rfl) (Nat.le_of_ble_eq_true rfl) (Nat.le_of_ble_eq_true rfl) (Nat.le_of_ble_eq_true rfl) ⟨rfl, rfl, rfl⟩ ?_
      refine c_X0_addImage hT (by rw [eA]; exact hH.2.2.1.1) (by omega) hA1 (fun L1 g5 g6 => ?_)
      refine s_callV0 (M' := M_X11_fine) (as := [_]) 48 dX11_image_45 rfl cw_X11_119 rfl rfl sh_0 rfl (by decide) (Nat.le_of_ble_eq_true rfl) (Nat.le_of_ble_eq_true rfl) (Nat.le_of_ble_eq_true rfl) (Nat.le_of_ble_eq_true rfl) ⟨rfl, rfl, rfl⟩ ?_
      refine c_X11_fine ?_
      refine s_iret dX11_image_48 rfl rfl ?_
      rw [eA]
      refine h _ L1 (Hi.st (Hi.st Hi.rf (by decide)) (by decide)) ((CV.ac (I' := up I 81 5 ((K.length : Int) + 1)) (hC.mo (by omega)) hh (fun c c1 c2 => up_ne c2) ?_ hs ?_).rf (by decide))
      · unfold CvE; rw [up_ne (by decide)]; exact hE
      · exact ⟨⟨by rw [upn (by decide)]; exact hH.1.1, fun j hj => by rw [g5 82 (by decide)]; exact hH.1.2 j hj⟩, ⟨by rw [upn (by decide)]; exact hH.2.1.1, fun j hj => by rw [g5 83 (by decide)]; exact hH.2.1.2 j hj⟩, ⟨by rw [ups, List.length_append, List.length_singleton]; omega, (hA2.ap hx).ac g6⟩, hul, by rw [List.length_append, List.length_singleton]; omega⟩
    · rw [pick_f hc, pick_f hc, pick_f (fun z => hc z.2)] at h
      skip
      refine s_aload_n 1 dX11_image_0 rfl rfl ?_
      refine s_callV0 (M' := M_X11_noPiece) (as := []) 4 dX11_image_1 rfl cw_X11_151 rfl rfl sh_0 rfl (by decide) (Nat.le_of_ble_eq_true rfl) (Nat.le_of_ble_eq_true rfl) (Nat.le_of_ble_eq_true rfl) (Nat.le_of_ble_eq_true rfl) ⟨rfl, rfl, rfl⟩ ?_
      refine c_X11_noPiece hC ?_
      refine s_ifb_eq 13 7 dX11_image_4 rfl rfl (fun h_4 => ?_) (fun h_4 => by exfalso; exact h_4 hh)
      refine s_aload_n 14 dX11_image_13 rfl rfl ?_
      refine s_getR 17 dX11_image_14 rfl fl_X11_45 (fun _ _ _ _ => rfl) (T_X11_acts hT) sh_0 (Nat.le_of_ble_eq_true rfl) ?_
      refine s_getI 20 dX11_image_17 rfl fl_X11_350 (fun _ _ _ _ => rfl) sh_81 (Nat.le_of_ble_eq_true rfl) (fun r_17 => ?_)
      rw [hH.2.2.1.1]
      refine s_iconst 21 dX11_image_20 rfl ?_
      refine s_icmp_ne 30 24 dX11_image_21 rfl rfl (by first | omega | exact bI_r _ | exact iI_r _) (by first | omega | exact bI_r _ | exact iI_r _) (fun h_21 => by exfalso; omega) (fun h_21 => ?_)
      refine s_aload_n 25 dX11_image_24 rfl rfl ?_
      refine s_iconst 26 dX11_image_25 rfl ?_
      refine s_callV0 (M' := M_X11_refuse) (as := [_]) 29 dX11_image_26 rfl cw_X11_102 rfl rfl sh_0 rfl (by decide) (Nat.le_of_ble_eq_true rfl) (Nat.le_of_ble_eq_true rfl) (Nat.le_of_ble_eq_true rfl) (Nat.le_of_ble_eq_true rfl) ⟨rfl, rfl, rfl⟩ ?_
      refine c_X11_refuse (by decide) ?_
      refine s_iret dX11_image_29 rfl rfl ?_
      exact h _ _ (Hi.rf.st (by decide)) ((hC.mo (by omega)).rf (by decide))
  · rw [pick_f hh, pick_f hh, pick_f (fun z => hh z.1)] at h
    skip
    refine s_aload_n 1 dX11_image_0 rfl rfl ?_
    refine s_callV0 (M' := M_X11_noPiece) (as := []) 4 dX11_image_1 rfl cw_X11_151 rfl rfl sh_0 rfl (by decide) (Nat.le_of_ble_eq_true rfl) (Nat.le_of_ble_eq_true rfl) (Nat.le_of_ble_eq_true rfl) (Nat.le_of_ble_eq_true rfl) ⟨rfl, rfl, rfl⟩ ?_
    refine c_X11_noPiece hC ?_
    refine s_ifb_eq 13 7 dX11_image_4 rfl rfl (fun h_4 => by exfalso; exact h_4 hh) (fun h_4 => ?_)
    refine s_aload_n 8 dX11_image_7 rfl rfl ?_
    refine s_iconst 9 dX11_image_8 rfl ?_
    refine s_callV0 (M' := M_X11_refuse) (as := [_]) 12 dX11_image_9 rfl cw_X11_102 rfl rfl sh_0 rfl (by decide) (Nat.le_of_ble_eq_true rfl) (Nat.le_of_ble_eq_true rfl) (Nat.le_of_ble_eq_true rfl) (Nat.le_of_ble_eq_true rfl) ⟨rfl, rfl, rfl⟩ ?_
    refine c_X11_refuse (by decide) ?_
    refine s_iret dX11_image_12 rfl rfl ?_
    exact h _ _ (Hi.rf.st (by decide)) ((hC.mo (by omega)).rf (by decide))
set_option maxHeartbeats 4000000 in
theorem c_X11_back {E : ET} {I : MI} {L : ML} {R : MR} {Q : Option AV → MI → ML → MR → Prop} {m : Int} {bt : F1} {n ft pl w : Int} {HP : Prop} {r s : F1} {a : List Int} {U D K : List (List Int)} {P P' : Nat} {i : Int} (hT : Topo R) (hC : CV I L R m bt n ft pl w HP r s a U D K P P') (hm : 0 ≤ m ∧ m ≤ 900000) (hi : -2147483648 ≤ i ∧ i ≤ 2147483647) (h : ∀ C, C = (0 ≤ i ∧ i < (K.length : Int)) → ∀ I' L' a', Hi I I' → CV I' L' R (m + 8) bt n ft pl (pick C 0 1) HP r (pick C (stO (K.getD i.toNat []) s) s) a' (pick C [] U) (pick C [] D) K P P' → Q (some (vi (bI C))) I' L' R) : CT E M_X11_back 161 yX11_back [(vr (0)), (vi (i))] I L R Q := by
  refine CT_of rfl rfl (fun h => by cases h) (Nat.le_of_ble_eq_true rfl) (fun X => ?_)
  show V X _ z0 0 [some (vr (0)), some (vi (i))] [] I L R _
  have h := h _ rfl
  have bd := hC.bd
  have hP := hC.1.1
  have t2 := hC.1.2.2.2.1
  have hR := hC.2.2.1
  have hE := hC.2.2.2.1
  have hH := hC.2.2.2.2.1
  have hul := hH.2.2.2.1
  have hk3 := hH.2.2.2.2
  by_cases hc : 0 ≤ i ∧ i < (K.length : Int)
  · have hh : HP := AcR.hp (s := s) hH.2.2.1.2 (fun z => by rw [z] at hc; simp at hc; omega) hC.2.2.2.2.2.2.2
    have e0 := (hC.2.2.2.2.2.2.1 hh).1.1.1
    rw [pick_t hc, pick_t hc, pick_t hc, pick_t hc, bI_t hc] at h
    obtain ⟨o, g, a', x1, x2, x3, x4⟩ := hH.2.2.1.2 i.toNat (by omega)
    rw [show ((i.toNat : Nat) : Int) = i by omega] at x3
    have x5 := x4.ct
    have x1b := x1.1
    have x2b := x2.1
    refine s_iload_n 1 dX11_back_0 rfl rfl ?_
    refine s_if_lt 15 4 dX11_back_1 rfl rfl (by first | omega | exact bI_r _ | exact iI_r _) (fun h_1 => by exfalso; omega) (fun h_1 => ?_)
    refine s_iload_n 5 dX11_back_4 rfl rfl ?_
    refine s_aload_n 6 dX11_back_5 rfl rfl ?_
    refine s_getR 9 dX11_back_6 rfl fl_X11_45 (fun _ _ _ _ => rfl) (T_X11_acts hT) sh_0 (Nat.le_of_ble_eq_true rfl) ?_
    refine s_getI 12 dX11_back_9 rfl fl_X11_350 (fun _ _ _ _ => rfl) sh_81 (Nat.le_of_ble_eq_true rfl) (fun r_9 => ?_)
    rw [hH.2.2.1.1]
    refine s_icmp_lt 21 15 dX11_back_12 rfl rfl (by first | omega | exact bI_r _ | exact iI_r _) (by first | omega | exact bI_r _ | exact iI_r _) (fun h_12 => ?_) (fun h_12 => by exfalso; omega)
    refine s_aload_n 22 dX11_back_21 rfl rfl ?_
    refine s_getR 25 dX11_back_22 rfl fl_X11_38 (fun _ _ _ _ => rfl) (T_X11_evening hT) sh_0 (Nat.le_of_ble_eq_true rfl) ?_
    refine s_aload_n 26 dX11_back_25 rfl rfl ?_
    refine s_getR 29 dX11_back_26 rfl fl_X11_45 (fun _ _ _ _ => rfl) (T_X11_acts hT) sh_0 (Nat.le_of_ble_eq_true rfl) ?_
    refine s_getR 32 dX11_back_29 rfl fl_X11_357 (fun _ _ _ _ => rfl) (T_X0_images hT) sh_81 (Nat.le_of_ble_eq_true rfl) ?_
    refine s_iload_n 33 dX11_back_32 rfl rfl ?_
    refine s_lald 34 dX11_back_33 rfl sh_84 (Nat.le_of_ble_eq_true rfl) (by omega) (by omega) ?_
    refine s_callV0 (M' := M_X2_unpack) (as := [_]) 37 dX11_back_34 rfl cw_X11_341 rfl rfl sh_80 rfl (by decide) (Nat.le_of_ble_eq_true rfl) (Nat.le_of_ble_eq_true rfl) (Nat.le_of_ble_eq_true rfl) (Nat.le_of_ble_eq_true rfl) ⟨rfl, rfl, rfl⟩ ?_
    rw [x3]
    refine c_X2_unpack (by omega) (by omega) (by omega) ?_
    refine s_aload_n 38 dX11_back_37 rfl rfl ?_
    refine s_getR 41 dX11_back_38 rfl fl_X11_45 (fun _ _ _ _ => rfl) (T_X11_acts hT) sh_0 (Nat.le_of_ble_eq_true rfl) ?_
    refine s_callV0 (M' := M_X0_forgetSteps) (as := []) 44 dX11_back_41 rfl cw_X11_361 rfl rfl sh_81 rfl (by decide) (Nat.le_of_ble_eq_true rfl) (Nat.le_of_ble_eq_true rfl) (Nat.le_of_ble_eq_true rfl) (Nat.le_of_ble_eq_true rfl) ⟨rfl, rfl, rfl⟩ ?_
    refine c_X0_forgetSteps ?_
    refine s_aload_n 45 dX11_back_44 rfl rfl ?_
    refine s_callV0 (M' := M_X11_done) (as := []) 48 dX11_back_45 rfl cw_X11_327 rfl rfl sh_0 rfl (by decide) (Nat.le_of_ble_eq_true rfl) (Nat.le_of_ble_eq_true rfl) (Nat.le_of_ble_eq_true rfl) (Nat.le_of_ble_eq_true rfl) ⟨rfl, rfl, rfl⟩ ?_
    refine c_X11_done ?_
    refine s_zret dX11_back_48 rfl (by first | omega | exact bI_b _) rfl ?_
    refine h _ L a' (Hi.st (Hi.st (Hi.st (Hi.st (Hi.st (Hi.st Hi.rf (by decide)) (by decide)) (by decide)) (by decide)) (by decide)) (by decide)) ((CV.ac (hC.mo (by omega)) hh (fun c c1 c2 => by rw [up_ne c2, up_ne c2, up_ne c1, up_ne c1, up_ne c1]) ?_ (stO_S x4) ?_).rf (by decide))
    · exact stO_E x1 (by omega) x2 (by rw [up_ne (by decide), up_ne (by decide), upn (by decide), upn (by decide), ups]) (by rw [up_ne (by decide), up_ne (by decide), upn (by decide), ups]) (by rw [up_ne (by decide), up_ne (by decide), ups])
    · exact ⟨⟨by rw [upn (by decide), ups]; rfl, fun j hj => absurd hj (by simp)⟩, ⟨by rw [ups]; rfl, fun j hj => absurd hj (by simp)⟩, ⟨by rw [upn (by decide), upn (by decide), up_ne (by decide), up_ne (by decide), up_ne (by decide)]; exact hH.2.2.1.1, hH.2.2.1.2⟩, by simp, hk3⟩
  · rw [pick_f hc, pick_f hc, pick_f hc, pick_f hc, bI_f hc] at h
    skip
    refine s_iload_n 1 dX11_back_0 rfl rfl ?_
    refine s_if_lt 15 4 dX11_back_1 rfl rfl (by first | omega | exact bI_r _ | exact iI_r _) (fun h_1 => ?_) (fun h_1 => ?_)
    · skip
      refine s_aload_n 16 dX11_back_15 rfl rfl ?_
      refine s_iconst 17 dX11_back_16 rfl ?_
      refine s_callV0 (M' := M_X11_denied) (as := [_]) 20 dX11_back_17 rfl cw_X11_310 rfl rfl sh_0 rfl (by decide) (Nat.le_of_ble_eq_true rfl) (Nat.le_of_ble_eq_true rfl) (Nat.le_of_ble_eq_true rfl) (Nat.le_of_ble_eq_true rfl) ⟨rfl, rfl, rfl⟩ ?_
      refine c_X11_denied (by decide) ?_
      refine s_zret dX11_back_20 rfl (by first | omega | exact bI_b _) rfl ?_
      rw [bI_f id]; exact h _ _ a (Hi.rf.st (by decide)) ((hC.mo (by omega)).rf (by decide))
    refine s_iload_n 5 dX11_back_4 rfl rfl ?_
    refine s_aload_n 6 dX11_back_5 rfl rfl ?_
    refine s_getR 9 dX11_back_6 rfl fl_X11_45 (fun _ _ _ _ => rfl) (T_X11_acts hT) sh_0 (Nat.le_of_ble_eq_true rfl) ?_
    refine s_getI 12 dX11_back_9 rfl fl_X11_350 (fun _ _ _ _ => rfl) sh_81 (Nat.le_of_ble_eq_true rfl) (fun r_9 => ?_)
    rw [hH.2.2.1.1]
    refine s_icmp_lt 21 15 dX11_back_12 rfl rfl (by first | omega | exact bI_r _ | exact iI_r _) (by first | omega | exact bI_r _ | exact iI_r _) (fun h_12 => by exfalso; exact hc ⟨by omega, by omega⟩) (fun h_12 => ?_)
    refine s_aload_n 16 dX11_back_15 rfl rfl ?_
    refine s_iconst 17 dX11_back_16 rfl ?_
    refine s_callV0 (M' := M_X11_denied) (as := [_]) 20 dX11_back_17 rfl cw_X11_310 rfl rfl sh_0 rfl (by decide) (Nat.le_of_ble_eq_true rfl) (Nat.le_of_ble_eq_true rfl) (Nat.le_of_ble_eq_true rfl) (Nat.le_of_ble_eq_true rfl) ⟨rfl, rfl, rfl⟩ ?_
    refine c_X11_denied (by decide) ?_
    refine s_zret dX11_back_20 rfl (by first | omega | exact bI_b _) rfl ?_
    rw [bI_f id]; exact h _ _ a (Hi.rf.st (by decide)) ((hC.mo (by omega)).rf (by decide))
