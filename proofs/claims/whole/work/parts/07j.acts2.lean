/-! what the class answers, 9: acts -/
set_option maxHeartbeats 4000000 in
theorem c_X11_cast {E : ET} {I : MI} {L : ML} {R : MR} {Q : Option AV → MI → ML → MR → Prop} {m : Int} {bt : F1} {n ft pl w : Int} {HP : Prop} {r s : F1} {a : List Int} {U D K : List (List Int)} {P P' : Nat} {i j : Int} (hT : Topo R) (hC : CV I L R m bt n ft pl w HP r s a U D K P P') (hm : 0 ≤ m ∧ m ≤ 900000) (hi : -2147483648 ≤ i ∧ i ≤ 2147483647) (hj : -2147483648 ≤ j ∧ j ≤ 2147483647) (h : ∀ C1 C2 C3, C1 = (HP ∧ 0 ≤ i ∧ i < r 4) → C2 = (0 ≤ j ∧ j ≤ 6) → C3 = (s (5 + i) ≠ j) → ∀ I' L' a', Hi I I' → CV I' L' R (m + 8) bt n ft pl (pick C1 (pick C2 (pick C3 0 5) 2) 1) HP r (pick (C1 ∧ C2 ∧ C3) (stP s (5 + i) j) s) a' (pick (C1 ∧ C2 ∧ C3) (kp U (rowAt s 0)) U) (pick (C1 ∧ C2 ∧ C3) [] D) K P P' → Q (some (vi (bI (C1 ∧ C2 ∧ C3)))) I' L' R) : CT E M_X11_cast 161 yX11_cast [(vr (0)), (vi (i)), (vi (j))] I L R Q := by
  refine CT_of rfl rfl (fun h => by cases h) (Nat.le_of_ble_eq_true rfl) (fun X => ?_)
  show V X _ z0 0 [some (vr (0)), some (vi (i)), some (vi (j))] [] I L R _
  have h := h _ _ _ rfl rfl rfl
  have bd := hC.bd
  have hP := hC.1.1
  have t2 := hC.1.2.2.2.1
  have hR := hC.2.2.1
  have hE := hC.2.2.2.1
  have hH := hC.2.2.2.2.1
  have hul := hH.2.2.2.1
  have neg : ∀ {v : Int}, 1 ≤ v ∧ v ≤ 9 → ¬ ((HP ∧ 0 ≤ i ∧ i < r 4) ∧ (0 ≤ j ∧ j ≤ 6) ∧ s (5 + i) ≠ j) → pick (HP ∧ 0 ≤ i ∧ i < r 4) (pick (0 ≤ j ∧ j ≤ 6) (pick (s (5 + i) ≠ j) 0 5) 2) 1 = v → v ≠ 4 → Q (some (vi (bI False))) (up I 0 10 v) L R := fun {v} v1 hz e v4 => by
    rw [e, pick_f hz, pick_f hz, pick_f hz, bI_f hz] at h
    rw [bI_f id]
    exact h _ _ a (Hi.rf.st (by decide)) ((hC.mo (by omega)).rf v4)
  by_cases hc : HP ∧ 0 ≤ i ∧ i < r 4
  · have hh := hc.1
    obtain ⟨hs, hw9, hN⟩ := hC.2.2.2.2.2.2.1 hh
    have hct := hs.ct
    have hx := PkR.mk hE hs
    obtain ⟨A, hA1, hA2⟩ := hH.1.2.mk
    by_cases h2 : 0 ≤ j ∧ j ≤ 6
    · have hsi := hs.2.2.2.1 i hc.2.1 (by omega)
      by_cases h3 : s (5 + i) ≠ j
      · have hcc : (HP ∧ 0 ≤ i ∧ i < r 4) ∧ (0 ≤ j ∧ j ≤ 6) ∧ s (5 + i) ≠ j := ⟨hc, h2, h3⟩
        rw [pick_t hc, pick_t h2, pick_t h3, pick_t hcc, pick_t hcc, pick_t hcc, bI_t hcc] at h
        have e0 := hs.1.1
        have hs' : SOk r (stP s (5 + i) j) a := by
          refine ⟨hs.1, hs.2.1, fun k k1 k2 => ?_, fun p p1 p2 => ?_, ?_⟩
          · unfold stP; rw [if_neg (by omega)]; exact hs.2.2.1 k k1 k2
          · unfold stP
            by_cases e : 5 + p = 5 + i
            · rw [if_pos e]; exact h2
            · rw [if_neg e]; exact hs.2.2.2.1 p p1 p2
          · unfold stP; rw [if_neg (by omega)]; exact hs.2.2.2.2
        refine s_aload_n 1 dX11_cast_0 rfl rfl ?_
        refine s_iload_n 2 dX11_cast_1 rfl rfl ?_
        refine s_callV0 (M' := M_X11_isPart) (as := [_]) 5 dX11_cast_2 rfl cw_X11_203 rfl rfl sh_0 rfl (by decide) (Nat.le_of_ble_eq_true rfl) (Nat.le_of_ble_eq_true rfl) (Nat.le_of_ble_eq_true rfl) (Nat.le_of_ble_eq_true rfl) ⟨rfl, rfl, rfl⟩ ?_
        refine c_X11_isPart hC hi ?_
        refine s_ifb_ne 14 8 dX11_cast_5 rfl rfl (fun h_5 => ?_) (fun h_5 => by exfalso; exact h_5 hc)
        refine s_iload_n 15 dX11_cast_14 rfl rfl ?_
        refine s_if_lt 24 18 dX11_cast_15 rfl rfl (by first | omega | exact bI_r _ | exact iI_r _) (fun h_15 => by exfalso; omega) (fun h_15 => ?_)
        refine s_iload_n 19 dX11_cast_18 rfl rfl ?_
        refine s_bipush 21 dX11_cast_19 rfl (by decide) ?_
        refine s_icmp_lt 30 24 dX11_cast_21 rfl rfl (by first | omega | exact bI_r _ | exact iI_r _) (by first | omega | exact bI_r _ | exact iI_r _) (fun h_21 => ?_) (fun h_21 => by exfalso; omega)
        refine s_aload_n 31 dX11_cast_30 rfl rfl ?_
        refine s_getR 34 dX11_cast_31 rfl fl_X11_38 (fun _ _ _ _ => rfl) (T_X11_evening hT) sh_0 (Nat.le_of_ble_eq_true rfl) ?_
        refine s_iload_n 35 dX11_cast_34 rfl rfl ?_
        refine s_callV0 (M' := M_X2_playerOf) (as := [_]) 38 dX11_cast_35 rfl cw_X11_253 rfl rfl sh_80 rfl (by decide) (Nat.le_of_ble_eq_true rfl) (Nat.le_of_ble_eq_true rfl) (Nat.le_of_ble_eq_true rfl) (Nat.le_of_ble_eq_true rfl) ⟨rfl, rfl, rfl⟩ ?_
        refine c_X2_playerOf (s := fun p => s (5 + p)) hE.2.1 (by omega) ?_
        refine s_iload_n 39 dX11_cast_38 rfl rfl ?_
        refine s_icmp_ne 48 42 dX11_cast_39 rfl rfl (by first | omega | exact bI_r _ | exact iI_r _) (by first | omega | exact bI_r _ | exact iI_r _) (fun h_39 => ?_) (fun h_39 => by exfalso; exact h3 (by omega))
        refine s_aload_n 49 dX11_cast_48 rfl rfl ?_
        refine s_getR 52 dX11_cast_49 rfl fl_X11_45 (fun _ _ _ _ => rfl) (T_X11_acts hT) sh_0 (Nat.le_of_ble_eq_true rfl) ?_
        refine s_aload_n 53 dX11_cast_52 rfl rfl ?_
        refine s_getR 56 dX11_cast_53 rfl fl_X11_38 (fun _ _ _ _ => rfl) (T_X11_evening hT) sh_0 (Nat.le_of_ble_eq_true rfl) ?_
        refine s_callV0 (M' := M_X2_packed) (as := []) 59 dX11_cast_56 rfl cw_X11_319 rfl rfl sh_80 rfl (by decide) (Nat.le_of_ble_eq_true rfl) (Nat.le_of_ble_eq_true rfl) (Nat.le_of_ble_eq_true rfl) (Nat.le_of_ble_eq_true rfl) ⟨rfl, rfl, rfl⟩ ?_
        refine c_X2_packed (g := I 80 1) rfl rfl hE.2.2 hE.1.n hE.2.1.1 hct ?_
        refine s_callV0 (M' := M_X0_keep) (as := [_]) 62 dX11_cast_59 rfl cw_X11_323 rfl rfl sh_81 rfl (by decide) (Nat.le_of_ble_eq_true rfl) (Nat.le_of_ble_eq_true rfl) (Nat.le_of_ble_eq_true rfl) (Nat.le_of_ble_eq_true rfl) ⟨rfl, rfl, rfl⟩ ?_
        refine c_X0_keep hT (by rw [hA2.1]; exact hH.1.1) (by rw [hA2.1]; omega) hA1 (fun I1 L1 g1 g2 g3 g4 g5 g6 => ?_)
        refine s_aload_n 63 dX11_cast_62 rfl rfl ?_
        refine s_getR 66 dX11_cast_63 rfl fl_X11_38 (fun _ _ _ _ => rfl) (T_X11_evening hT) sh_0 (Nat.le_of_ble_eq_true rfl) ?_
        refine s_iload_n 67 dX11_cast_66 rfl rfl ?_
        refine s_iload_n 68 dX11_cast_67 rfl rfl ?_
        refine s_callV0 (M' := M_X2_give) (as := [_, _]) 71 dX11_cast_68 rfl cw_X11_330 rfl rfl sh_80 rfl (by decide) (Nat.le_of_ble_eq_true rfl) (Nat.le_of_ble_eq_true rfl) (Nat.le_of_ble_eq_true rfl) (Nat.le_of_ble_eq_true rfl) ⟨rfl, rfl, rfl⟩ ?_
        have I80 : I1 80 = I 80 := g1 80 (by decide)
        refine c_X2_give (s := fun p => s (5 + p)) (by rw [I80]; exact hE.2.1) (by omega) (by omega) (fun g' hg' => ?_)
        refine s_aload_n 72 dX11_cast_71 rfl rfl ?_
        refine s_callV0 (M' := M_X11_done) (as := []) 75 dX11_cast_72 rfl cw_X11_327 rfl rfl sh_0 rfl (by decide) (Nat.le_of_ble_eq_true rfl) (Nat.le_of_ble_eq_true rfl) (Nat.le_of_ble_eq_true rfl) (Nat.le_of_ble_eq_true rfl) ⟨rfl, rfl, rfl⟩ ?_
        refine c_X11_done ?_
        refine s_zret dX11_cast_75 rfl (by first | omega | exact bI_b _) rfl ?_
        have H2 := hH.keep hA2 hx g2 g3 g4 g5 g6
        refine h _ L1 a ?_ ((CV.ac (hC.mo (by omega)) hh (fun c c1 c2 => ?_) ?_ hs' ?_).rf (by decide))
        · exact Hi.st (Hi.st (fun c hc => g1 c (by simp; omega)) (by decide)) (by decide)
        · rw [up_ne c1]; exact g1 c (by simpa using c2)
        · refine ⟨by rw [upn (by decide), I80]; exact hE.1.c (fun k k1 k2 => by unfold stP; rw [if_neg (by omega)]), ?_, by rw [upn (by decide), I80]; exact hE.2.2.trans (by unfold stP; rw [if_neg (by omega)])⟩
          rw [ups]
          refine hg'.c (fun p p1 p2 => ?_)
          unfold stP
          by_cases e : p = i
          · rw [if_pos e, if_pos (by omega)]
          · rw [if_neg e, if_neg (by omega)]
        · unfold CvH at *
          rw [up_ne (by decide)]; exact H2
      · skip
        refine s_aload_n 1 dX11_cast_0 rfl rfl ?_
        refine s_iload_n 2 dX11_cast_1 rfl rfl ?_
        refine s_callV0 (M' := M_X11_isPart) (as := [_]) 5 dX11_cast_2 rfl cw_X11_203 rfl rfl sh_0 rfl (by decide) (Nat.le_of_ble_eq_true rfl) (Nat.le_of_ble_eq_true rfl) (Nat.le_of_ble_eq_true rfl) (Nat.le_of_ble_eq_true rfl) ⟨rfl, rfl, rfl⟩ ?_
        refine c_X11_isPart hC hi ?_
        refine s_ifb_ne 14 8 dX11_cast_5 rfl rfl (fun h_5 => ?_) (fun h_5 => by exfalso; exact h_5 hc)
        refine s_iload_n 15 dX11_cast_14 rfl rfl ?_
        refine s_if_lt 24 18 dX11_cast_15 rfl rfl (by first | omega | exact bI_r _ | exact iI_r _) (fun h_15 => by exfalso; omega) (fun h_15 => ?_)
        refine s_iload_n 19 dX11_cast_18 rfl rfl ?_
        refine s_bipush 21 dX11_cast_19 rfl (by decide) ?_
        refine s_icmp_lt 30 24 dX11_cast_21 rfl rfl (by first | omega | exact bI_r _ | exact iI_r _) (by first | omega | exact bI_r _ | exact iI_r _) (fun h_21 => ?_) (fun h_21 => by exfalso; omega)
        refine s_aload_n 31 dX11_cast_30 rfl rfl ?_
        refine s_getR 34 dX11_cast_31 rfl fl_X11_38 (fun _ _ _ _ => rfl) (T_X11_evening hT) sh_0 (Nat.le_of_ble_eq_true rfl) ?_
        refine s_iload_n 35 dX11_cast_34 rfl rfl ?_
        refine s_callV0 (M' := M_X2_playerOf) (as := [_]) 38 dX11_cast_35 rfl cw_X11_253 rfl rfl sh_80 rfl (by decide) (Nat.le_of_ble_eq_true rfl) (Nat.le_of_ble_eq_true rfl) (Nat.le_of_ble_eq_true rfl) (Nat.le_of_ble_eq_true rfl) ⟨rfl, rfl, rfl⟩ ?_
        refine c_X2_playerOf (s := fun p => s (5 + p)) hE.2.1 (by omega) ?_
        refine s_iload_n 39 dX11_cast_38 rfl rfl ?_
        refine s_icmp_ne 48 42 dX11_cast_39 rfl rfl (by first | omega | exact bI_r _ | exact iI_r _) (by first | omega | exact bI_r _ | exact iI_r _) (fun h_39 => by exfalso; exact h3 (by omega)) (fun h_39 => ?_)
        refine s_aload_n 43 dX11_cast_42 rfl rfl ?_
        refine s_iconst 44 dX11_cast_43 rfl ?_
        refine s_callV0 (M' := M_X11_denied) (as := [_]) 47 dX11_cast_44 rfl cw_X11_310 rfl rfl sh_0 rfl (by decide) (Nat.le_of_ble_eq_true rfl) (Nat.le_of_ble_eq_true rfl) (Nat.le_of_ble_eq_true rfl) (Nat.le_of_ble_eq_true rfl) ⟨rfl, rfl, rfl⟩ ?_
        refine c_X11_denied (by decide) ?_
        refine s_zret dX11_cast_47 rfl (by first | omega | exact bI_b _) rfl ?_
        exact neg (by decide) (fun z => h3 z.2.2) (by rw [pick_t hc, pick_t h2, pick_f h3]) (by decide)
    · skip
      refine s_aload_n 1 dX11_cast_0 rfl rfl ?_
      refine s_iload_n 2 dX11_cast_1 rfl rfl ?_
      refine s_callV0 (M' := M_X11_isPart) (as := [_]) 5 dX11_cast_2 rfl cw_X11_203 rfl rfl sh_0 rfl (by decide) (Nat.le_of_ble_eq_true rfl) (Nat.le_of_ble_eq_true rfl) (Nat.le_of_ble_eq_true rfl) (Nat.le_of_ble_eq_true rfl) ⟨rfl, rfl, rfl⟩ ?_
      refine c_X11_isPart hC hi ?_
      refine s_ifb_ne 14 8 dX11_cast_5 rfl rfl (fun h_5 => ?_) (fun h_5 => by exfalso; exact h_5 hc)
      refine s_iload_n 15 dX11_cast_14 rfl rfl ?_
      refine s_if_lt 24 18 dX11_cast_15 rfl rfl (by first | omega | exact bI_r _ | exact iI_r _) (fun h_15 => ?_) (fun h_15 => ?_)
      · skip
        refine s_aload_n 25 dX11_cast_24 rfl rfl ?_
        refine s_iconst 26 dX11_cast_25 rfl ?_
        refine s_callV0 (M' := M_X11_denied) (as := [_]) 29 dX11_cast_26 rfl cw_X11_310 rfl rfl sh_0 rfl (by decide) (Nat.le_of_ble_eq_true rfl) (Nat.le_of_ble_eq_true rfl) (Nat.le_of_ble_eq_true rfl) (Nat.le_of_ble_eq_true rfl) ⟨rfl, rfl, rfl⟩ ?_
        refine c_X11_denied (by decide) ?_
        refine s_zret dX11_cast_29 rfl (by first | omega | exact bI_b _) rfl ?_
        exact neg (by decide) (fun z => h2 z.2.1) (by rw [pick_t hc, pick_f h2]) (by decide)
      refine s_iload_n 19 dX11_cast_18 rfl rfl ?_
      refine s_bipush 21 dX11_cast_19 rfl (by decide) ?_
      refine s_icmp_lt 30 24 dX11_cast_21 rfl rfl (by first | omega | exact bI_r _ | exact iI_r _) (by first | omega | exact bI_r _ | exact iI_r _) (fun h_21 => by exfalso; omega) (fun h_21 => ?_)
      refine s_aload_n 25 dX11_cast_24 rfl rfl ?_
      refine s_iconst 26 dX11_cast_25 rfl ?_
      refine s_callV0 (M' := M_X11_denied) (as := [_]) 29 dX11_cast_26 rfl cw_X11_310 rfl rfl sh_0 rfl (by decide) (Nat.le_of_ble_eq_true rfl) (Nat.le_of_ble_eq_true rfl) (Nat.le_of_ble_eq_true rfl) (Nat.le_of_ble_eq_true rfl) ⟨rfl, rfl, rfl⟩ ?_
      refine c_X11_denied (by decide) ?_
      refine s_zret dX11_cast_29 rfl (by first | omega | exact bI_b _) rfl ?_
      exact neg (by decide) (fun z => h2 z.2.1) (by rw [pick_t hc, pick_f h2]) (by decide)
  · skip
    refine s_aload_n 1 dX11_cast_0 rfl rfl ?_
    refine s_iload_n 2 dX11_cast_1 rfl rfl ?_
    refine s_callV0 (M' := M_X11_isPart) (as := [_]) 5 dX11_cast_2 rfl cw_X11_203 rfl rfl sh_0 rfl (by decide) (Nat.le_of_ble_eq_true rfl) (Nat.le_of_ble_eq_true rfl) (Nat.le_of_ble_eq_true rfl) (Nat.le_of_ble_eq_true rfl) ⟨rfl, rfl, rfl⟩ ?_
    refine c_X11_isPart hC hi ?_
    refine s_ifb_ne 14 8 dX11_cast_5 rfl rfl (fun h_5 => by exfalso; exact hc h_5) (fun h_5 => ?_)
    refine s_aload_n 9 dX11_cast_8 rfl rfl ?_
    refine s_iconst 10 dX11_cast_9 rfl ?_
    refine s_callV0 (M' := M_X11_denied) (as := [_]) 13 dX11_cast_10 rfl cw_X11_310 rfl rfl sh_0 rfl (by decide) (Nat.le_of_ble_eq_true rfl) (Nat.le_of_ble_eq_true rfl) (Nat.le_of_ble_eq_true rfl) (Nat.le_of_ble_eq_true rfl) ⟨rfl, rfl, rfl⟩ ?_
    refine c_X11_denied (by decide) ?_
    refine s_zret dX11_cast_13 rfl (by first | omega | exact bI_b _) rfl ?_
    exact neg (by decide) (fun z => hc z.1) (by rw [pick_f hc]) (by decide)
set_option maxHeartbeats 4000000 in
theorem c_X11_cut {E : ET} {I : MI} {L : ML} {R : MR} {Q : Option AV → MI → ML → MR → Prop} {m : Int} {bt : F1} {n ft pl w : Int} {HP B : Prop} {r s : F1} {a : List Int} {U D K : List (List Int)} {P P' : Nat} {i : Int} (hT : Topo R) (hC : CV I L R m bt n ft pl w HP r s a U D K P P') (hm : 0 ≤ m ∧ m ≤ 900000) (hi : -2147483648 ≤ i ∧ i ≤ 2147483647) (h : ∀ C1 C2, C1 = (HP ∧ 0 ≤ i ∧ i < r 7) → C2 = ¬ (hasI (s 12) i ↔ B) → ∀ I' L' a', Hi I I' → CV I' L' R (m + 8) bt n ft pl (pick C1 (pick C2 0 5) 1) HP r (pick (C1 ∧ C2) (stP s 12 (ixor (s 12) (ishl 1 i))) s) a' (pick (C1 ∧ C2) (kp U (rowAt s 0)) U) (pick (C1 ∧ C2) [] D) K P P' → Q (some (vi (bI (C1 ∧ C2)))) I' L' R) : CT E M_X11_cut 161 yX11_cut [(vr (0)), (vi (i)), (vi (bI B))] I L R Q := by
  refine CT_of rfl rfl (fun h => by cases h) (Nat.le_of_ble_eq_true rfl) (fun X => ?_)
  show V X _ z0 0 [some (vr (0)), some (vi (i)), some (vi (bI B))] [] I L R _
  have h := h _ _ rfl rfl
  have bd := hC.bd
  have hP := hC.1.1
  have t2 := hC.1.2.2.2.1
  have hR := hC.2.2.1
  have hE := hC.2.2.2.1
  have hH := hC.2.2.2.2.1
  have hul := hH.2.2.2.1
  have neg : ∀ {v : Int}, 1 ≤ v ∧ v ≤ 9 → ¬ ((HP ∧ 0 ≤ i ∧ i < r 7) ∧ ¬ (hasI (s 12) i ↔ B)) → pick (HP ∧ 0 ≤ i ∧ i < r 7) (pick (¬ (hasI (s 12) i ↔ B)) 0 5) 1 = v → v ≠ 4 → Q (some (vi (bI False))) (up I 0 10 v) L R := fun {v} v1 hz e v4 => by
    rw [e, pick_f hz, pick_f hz, pick_f hz, bI_f hz] at h
    rw [bI_f id]
    exact h _ _ a (Hi.rf.st (by decide)) ((hC.mo (by omega)).rf v4)
  have bb : (bI (hasI (s 12) i) = bI B) ↔ (hasI (s 12) i ↔ B) := by
    by_cases x : hasI (s 12) i <;> by_cases y : B
    · rw [bI_t x, bI_t y]; exact ⟨fun _ => ⟨fun _ => y, fun _ => x⟩, fun _ => rfl⟩
    · rw [bI_t x, bI_f y]; exact ⟨fun z => absurd z (by decide), fun z => absurd (z.mp x) y⟩
    · rw [bI_f x, bI_t y]; exact ⟨fun z => absurd z (by decide), fun z => absurd (z.mpr y) x⟩
    · rw [bI_f x, bI_f y]; exact ⟨fun _ => ⟨fun z => absurd z x, fun z => absurd z y⟩, fun _ => rfl⟩
  by_cases hc : HP ∧ 0 ≤ i ∧ i < r 7
  · have hh := hc.1
    obtain ⟨hs, hw9, hN⟩ := hC.2.2.2.2.2.2.1 hh
    have hct := hs.ct
    have hx := PkR.mk hE hs
    obtain ⟨A, hA1, hA2⟩ := hH.1.2.mk
    by_cases h3 : ¬ (hasI (s 12) i ↔ B)
    · have hcc : (HP ∧ 0 ≤ i ∧ i < r 7) ∧ ¬ (hasI (s 12) i ↔ B) := ⟨hc, h3⟩
      rw [pick_t hc, pick_t h3, pick_t hcc, pick_t hcc, pick_t hcc, bI_t hcc] at h
      have e0 := hs.1.1
      have hs' : SOk r (stP s 12 (ixor (s 12) (ishl 1 i))) a := by
        refine ⟨hs.1, hs.2.1, fun k k1 k2 => ?_, fun p p1 p2 => ?_, ?_⟩
        · unfold stP; rw [if_neg (by omega)]; exact hs.2.2.1 k k1 k2
        · unfold stP; rw [if_neg (by omega)]; exact hs.2.2.2.1 p p1 p2
        · unfold stP; rw [if_pos rfl]
          refine set_lt (n := (r 7).toNat) (by omega) (iI_r _) (fun k k1 k2 z => ?_)
          rw [has_xor ⟨by omega, k2⟩, has_shl (by omega) ⟨by omega, k2⟩] at z
          have hn : ¬ hasI (s 12) k := has_lt (n := (r 7).toNat) (by omega) ⟨hs.2.2.2.2.1, hs.2.2.2.2.2⟩ ⟨k1, k2⟩
          exact z ⟨fun y => absurd y hn, fun y => by omega⟩
      refine s_aload_n 1 dX11_cut_0 rfl rfl ?_
      refine s_iload_n 2 dX11_cut_1 rfl rfl ?_
      refine s_callV0 (M' := M_X11_isOn) (as := [_]) 5 dX11_cut_2 rfl cw_X11_194 rfl rfl sh_0 rfl (by decide) (Nat.le_of_ble_eq_true rfl) (Nat.le_of_ble_eq_true rfl) (Nat.le_of_ble_eq_true rfl) (Nat.le_of_ble_eq_true rfl) ⟨rfl, rfl, rfl⟩ ?_
      refine c_X11_isOn hC hi ?_
      refine s_ifb_ne 14 8 dX11_cut_5 rfl rfl (fun h_5 => ?_) (fun h_5 => by exfalso; exact h_5 hc)
      refine s_aload_n 15 dX11_cut_14 rfl rfl ?_
      refine s_getR 18 dX11_cut_15 rfl fl_X11_38 (fun _ _ _ _ => rfl) (T_X11_evening hT) sh_0 (Nat.le_of_ble_eq_true rfl) ?_
      refine s_iload_n 19 dX11_cut_18 rfl rfl ?_
      refine s_callV0 (M' := M_X2_isCut) (as := [_]) 22 dX11_cut_19 rfl cw_X11_246 rfl rfl sh_80 rfl (by decide) (Nat.le_of_ble_eq_true rfl) (Nat.le_of_ble_eq_true rfl) (Nat.le_of_ble_eq_true rfl) (Nat.le_of_ble_eq_true rfl) ⟨rfl, rfl, rfl⟩ ?_
      refine c_X2_isCut hE.2.2 ?_
      refine s_iload_n 23 dX11_cut_22 rfl rfl ?_
      refine s_icmp_ne 32 26 dX11_cut_23 rfl rfl (by first | omega | exact bI_r _ | exact iI_r _) (by first | omega | exact bI_r _ | exact iI_r _) (fun h_23 => ?_) (fun h_23 => by exfalso; exact h3 (bb.mp (by omega)))
      refine s_aload_n 33 dX11_cut_32 rfl rfl ?_
      refine s_getR 36 dX11_cut_33 rfl fl_X11_45 (fun _ _ _ _ => rfl) (T_X11_acts hT) sh_0 (Nat.le_of_ble_eq_true rfl) ?_
      refine s_aload_n 37 dX11_cut_36 rfl rfl ?_
      refine s_getR 40 dX11_cut_37 rfl fl_X11_38 (fun _ _ _ _ => rfl) (T_X11_evening hT) sh_0 (Nat.le_of_ble_eq_true rfl) ?_
      refine s_callV0 (M' := M_X2_packed) (as := []) 43 dX11_cut_40 rfl cw_X11_319 rfl rfl sh_80 rfl (by decide) (Nat.le_of_ble_eq_true rfl) (Nat.le_of_ble_eq_true rfl) (Nat.le_of_ble_eq_true rfl) (Nat.le_of_ble_eq_true rfl) ⟨rfl, rfl, rfl⟩ ?_
      refine c_X2_packed (g := I 80 1) rfl rfl hE.2.2 hE.1.n hE.2.1.1 hct ?_
      refine s_callV0 (M' := M_X0_keep) (as := [_]) 46 dX11_cut_43 rfl cw_X11_323 rfl rfl sh_81 rfl (by decide) (Nat.le_of_ble_eq_true rfl) (Nat.le_of_ble_eq_true rfl) (Nat.le_of_ble_eq_true rfl) (Nat.le_of_ble_eq_true rfl) ⟨rfl, rfl, rfl⟩ ?_
      refine c_X0_keep hT (by rw [hA2.1]; exact hH.1.1) (by rw [hA2.1]; omega) hA1 (fun I1 L1 g1 g2 g3 g4 g5 g6 => ?_)
      have I80 : I1 80 = I 80 := g1 80 (by decide)
      refine s_aload_n 47 dX11_cut_46 rfl rfl ?_
      refine s_getR 50 dX11_cut_47 rfl fl_X11_38 (fun _ _ _ _ => rfl) (T_X11_evening hT) sh_0 (Nat.le_of_ble_eq_true rfl) ?_
      refine s_dup 51 dX11_cut_50 rfl rfl ?_
      refine s_getI 54 dX11_cut_51 rfl fl_X11_161 (fun _ _ _ _ => rfl) sh_80 (Nat.le_of_ble_eq_true rfl) (fun r_51 => ?_)
      rw [I80, hE.2.2]
      refine s_iconst 55 dX11_cut_54 rfl ?_
      refine s_iload_n 56 dX11_cut_55 rfl rfl ?_
      refine s_ishl 57 dX11_cut_56 rfl ?_
      refine s_ixor 58 dX11_cut_57 rfl ?_
      refine s_putI 61 dX11_cut_58 rfl fl_X11_161 (fun _ => rfl) (fun _ => rfl) (fun _ _ _ _ => rfl) sh_80 (Nat.le_of_ble_eq_true rfl) (by first | omega | exact bI_r _ | exact iI_r _) ?_
      refine s_aload_n 62 dX11_cut_61 rfl rfl ?_
      refine s_callV0 (M' := M_X11_done) (as := []) 65 dX11_cut_62 rfl cw_X11_327 rfl rfl sh_0 rfl (by decide) (Nat.le_of_ble_eq_true rfl) (Nat.le_of_ble_eq_true rfl) (Nat.le_of_ble_eq_true rfl) (Nat.le_of_ble_eq_true rfl) ⟨rfl, rfl, rfl⟩ ?_
      refine c_X11_done ?_
      refine s_zret dX11_cut_65 rfl (by first | omega | exact bI_b _) rfl ?_
      have H2 := hH.keep hA2 hx g2 g3 g4 g5 g6
      refine h _ L1 a ?_ ((CV.ac (hC.mo (by omega)) hh (fun c c1 c2 => ?_) ?_ hs' ?_).rf (by decide))
      · exact Hi.st (Hi.st (fun c hc => g1 c (by simp; omega)) (by decide)) (by decide)
      · rw [up_ne c1]; exact g1 c (by simpa using c2)
      · refine ⟨by rw [upn (by decide), I80]; exact hE.1.c (fun k k1 k2 => by unfold stP; rw [if_neg (by omega)]), ?_, by rw [ups]; unfold stP; rw [if_pos rfl]⟩
        rw [upn (by decide), I80]
        exact hE.2.1.c (fun p p1 p2 => by unfold stP; rw [if_neg (by omega)])
      · unfold CvH at *
        rw [up_ne (by decide)]; exact H2
    · skip
      refine s_aload_n 1 dX11_cut_0 rfl rfl ?_
      refine s_iload_n 2 dX11_cut_1 rfl rfl ?_
      refine s_callV0 (M' := M_X11_isOn) (as := [_]) 5 dX11_cut_2 rfl cw_X11_194 rfl rfl sh_0 rfl (by decide) (Nat.le_of_ble_eq_true rfl) (Nat.le_of_ble_eq_true rfl) (Nat.le_of_ble_eq_true rfl) (Nat.le_of_ble_eq_true rfl) ⟨rfl, rfl, rfl⟩ ?_
      refine c_X11_isOn hC hi ?_
      refine s_ifb_ne 14 8 dX11_cut_5 rfl rfl (fun h_5 => ?_) (fun h_5 => by exfalso; exact h_5 hc)
      refine s_aload_n 15 dX11_cut_14 rfl rfl ?_
      refine s_getR 18 dX11_cut_15 rfl fl_X11_38 (fun _ _ _ _ => rfl) (T_X11_evening hT) sh_0 (Nat.le_of_ble_eq_true rfl) ?_
      refine s_iload_n 19 dX11_cut_18 rfl rfl ?_
      refine s_callV0 (M' := M_X2_isCut) (as := [_]) 22 dX11_cut_19 rfl cw_X11_246 rfl rfl sh_80 rfl (by decide) (Nat.le_of_ble_eq_true rfl) (Nat.le_of_ble_eq_true rfl) (Nat.le_of_ble_eq_true rfl) (Nat.le_of_ble_eq_true rfl) ⟨rfl, rfl, rfl⟩ ?_
      refine c_X2_isCut hE.2.2 ?_
      refine s_iload_n 23 dX11_cut_22 rfl rfl ?_
      refine s_icmp_ne 32 26 dX11_cut_23 rfl rfl (by first | omega | exact bI_r _ | exact iI_r _) (by first | omega | exact bI_r _ | exact iI_r _) (fun h_23 => by exfalso; exact h_23 (bb.mpr (nn_n h3))) (fun h_23 => ?_)
      refine s_aload_n 27 dX11_cut_26 rfl rfl ?_
      refine s_iconst 28 dX11_cut_27 rfl ?_
      refine s_callV0 (M' := M_X11_denied) (as := [_]) 31 dX11_cut_28 rfl cw_X11_310 rfl rfl sh_0 rfl (by decide) (Nat.le_of_ble_eq_true rfl) (Nat.le_of_ble_eq_true rfl) (Nat.le_of_ble_eq_true rfl) (Nat.le_of_ble_eq_true rfl) ⟨rfl, rfl, rfl⟩ ?_
      refine c_X11_denied (by decide) ?_
      refine s_zret dX11_cut_31 rfl (by first | omega | exact bI_b _) rfl ?_
      exact neg (by decide) (fun z => h3 z.2) (by rw [pick_t hc, pick_f h3]) (by decide)
  · skip
    refine s_aload_n 1 dX11_cut_0 rfl rfl ?_
    refine s_iload_n 2 dX11_cut_1 rfl rfl ?_
    refine s_callV0 (M' := M_X11_isOn) (as := [_]) 5 dX11_cut_2 rfl cw_X11_194 rfl rfl sh_0 rfl (by decide) (Nat.le_of_ble_eq_true rfl) (Nat.le_of_ble_eq_true rfl) (Nat.le_of_ble_eq_true rfl) (Nat.le_of_ble_eq_true rfl) ⟨rfl, rfl, rfl⟩ ?_
    refine c_X11_isOn hC hi ?_
    refine s_ifb_ne 14 8 dX11_cut_5 rfl rfl (fun h_5 => by exfalso; exact hc h_5) (fun h_5 => ?_)
    refine s_aload_n 9 dX11_cut_8 rfl rfl ?_
    refine s_iconst 10 dX11_cut_9 rfl ?_
    refine s_callV0 (M' := M_X11_denied) (as := [_]) 13 dX11_cut_10 rfl cw_X11_310 rfl rfl sh_0 rfl (by decide) (Nat.le_of_ble_eq_true rfl) (Nat.le_of_ble_eq_true rfl) (Nat.le_of_ble_eq_true rfl) (Nat.le_of_ble_eq_true rfl) ⟨rfl, rfl, rfl⟩ ?_
    refine c_X11_denied (by decide) ?_
    refine s_zret dX11_cut_13 rfl (by first | omega | exact bI_b _) rfl ?_
    exact neg (by decide) (fun z => hc z.1) (by rw [pick_f hc]) (by decide)
