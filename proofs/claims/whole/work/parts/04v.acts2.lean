/-! cast, cut, undo, redo, image, back, by the reference -/
theorem bI_eq {A B : Prop} : bI A = bI B ↔ (A ↔ B) := by
  by_cases a : A <;> by_cases b : B
  · rw [bI_t a, bI_t b]; exact ⟨fun _ => ⟨fun _ => b, fun _ => a⟩, fun _ => rfl⟩
  · rw [bI_t a, bI_f b]; exact ⟨fun z => by omega, fun z => absurd (z.mp a) b⟩
  · rw [bI_f a, bI_t b]; exact ⟨fun z => by omega, fun z => absurd (z.mpr b) a⟩
  · rw [bI_f a, bI_f b]; exact ⟨fun _ => ⟨fun z => absurd z a, fun z => absurd z b⟩, fun _ => rfl⟩
def stP (s : F1) (k v : Int) : F1 := fun j => if j = k then v else s j
theorem gd_up {I : MI} {w w' : Int} {I2 : MI} (k1 : Eqo MS (gd I w) I2) : Eqo MS (gd I w') (up I2 138 11 w') := fun c hc => by
  by_cases ec : c = 138
  · subst ec
    rw [← gd_no (v := w)]
    funext k
    rw [upd9, upd9, k1 138 (by decide)]
  · rw [up_ne ec, k1 c hc, gd_n ec, gd_n ec]
theorem was_c {I : MI} {s : F1} (es : I 143 = s) : Eqo MS (gd I 0) (cpI (gd I 0) 143 0 144 0 13) ∧ rowAt (cpI (gd I 0) 143 0 144 0 13 144) 0 = rowAt s 0 ∧ cpI (gd I 0) 143 0 144 0 13 143 = s := by
  refine ⟨fun c hc => by rw [cpI_ne (fun e => hc (by rw [e]; decide))], rowAt_c (fun k z1 z2 => ?_), by rw [cpI_ne (by decide), gd_n (by decide), es]⟩
  rw [cpI_eq]
  simp only []
  rw [if_pos (by omega), gd_n (by decide), es]
  congr 1
  omega
set_option maxHeartbeats 4000000 in
theorem c_X12_cast {E : ET} {I : MI} {L : ML} {R : MR} {Q : Option AV → MI → ML → MR → Prop} {bt r s : F1} {n ft pl w i j : Int} {HP : Prop} {U D K : List (List Int)} (hT : Topo R) (hM : MV I bt n ft pl w HP r s U D K) (hr : HP → WFr r ∧ ∀ p, 0 ≤ p → p < 7 → 0 ≤ s (5 + p) ∧ s (5 + p) < 7) (hu : U.length ≤ 12) (hi : -2147483648 ≤ i ∧ i ≤ 2147483647) (hj : -2147483648 ≤ j ∧ j ≤ 2147483647) (h : ∀ C1 C2 C3, C1 = (HP ∧ 0 ≤ i ∧ i < r 4) → C2 = (0 ≤ j ∧ j ≤ 6) → C3 = (s (5 + i) ≠ j) → ∀ I', Lo I I' → MV I' bt n ft pl (pick C1 (pick C2 (pick C3 0 5) 2) 1) HP r (pick (C1 ∧ C2 ∧ C3) (stP s (5 + i) j) s) (pick (C1 ∧ C2 ∧ C3) (kp U (rowAt s 0)) U) (pick (C1 ∧ C2 ∧ C3) [] D) K → Q (some (vi (bI (C1 ∧ C2 ∧ C3)))) I' L R) : CT E M_X12_cast 161 yX12_cast [(vr (138)), (vi (i)), (vi (j))] I L R Q := by
  refine CT_of rfl rfl (fun h => by cases h) (Nat.le_of_ble_eq_true rfl) (fun X => ?_)
  show V X _ z0 0 [some (vr (138)), some (vi (i)), some (vi (j))] [] I L R _
  have h := h _ _ _ rfl rfl rfl
  have hM0 := hM
  obtain ⟨⟨a1, a2, a3, a4, a5, ehp⟩, erd, er, es, ⟨e1, e2⟩, ⟨f1, f2⟩, g1, g2⟩ := hM
  have er1 : up (up I 138 0 0) 138 11 0 141 = r := (gd_n (by decide)).trans er
  have es1 : up (up I 138 0 0) 138 11 0 143 = s := (gd_n (by decide)).trans es
  have ehp1 : up (up I 138 0 0) 138 11 0 138 14 = bI HP := (gd_f (by decide)).trans ehp
  have hr1 : HP → WFr r := fun z => (hr z).1
  obtain ⟨C1, hC1⟩ : ∃ C1, C1 = (HP ∧ 0 ≤ i ∧ i < r 4) := ⟨_, rfl⟩
  obtain ⟨C2, hC2⟩ : ∃ C2, C2 = (0 ≤ j ∧ j ≤ 6) := ⟨_, rfl⟩
  obtain ⟨C3, hC3⟩ : ∃ C3, C3 = (s (5 + i) ≠ j) := ⟨_, rfl⟩
  rw [← hC1, ← hC2, ← hC3] at h
  have no : ∀ w', ¬ (C1 ∧ C2 ∧ C3) → pick C1 (pick C2 (pick C3 0 5) 2) 1 = w' → Q (some (vi (bI False))) (gd I w') L R := fun w' z zw => by
    have q := h (gd I w') (Lo.gd Eqo.rf) (by rw [pick_f z, pick_f z, pick_f z, zw]; exact hM0.q Eqo.rf)
    rw [bI_f z, ← bI_f (b := False) id] at q
    exact q
  obtain ⟨w1, w2, w3⟩ := was_c es
  have i5 : C1 → 0 ≤ i ∧ i < 7 := fun z => by rw [hC1] at z; have := (hr z.1).1.1; omega
  have hsb : C1 → 0 ≤ s (5 + i) ∧ s (5 + i) < 7 := fun z => by have q := i5 z; rw [hC1] at z; exact (hr z.1).2 i q.1 q.2
  by_cases z1 : C1
  · have i5 := i5 z1
    have hsb := hsb z1
    refine s_aload_n 1 dX12_cast_0 rfl rfl ?_
    refine s_callV0 (M' := M_X12_good) (as := []) 4 dX12_cast_1 rfl cw_X12_190 rfl rfl sh_138 rfl (by decide) (Nat.le_of_ble_eq_true rfl) (Nat.le_of_ble_eq_true rfl) (Nat.le_of_ble_eq_true rfl) (Nat.le_of_ble_eq_true rfl) ⟨rfl, rfl, rfl⟩ ?_
    refine c_X12_good ?_
    refine s_aload_n 5 dX12_cast_4 rfl rfl ?_
    refine s_iload_n 6 dX12_cast_5 rfl rfl ?_
    refine s_callV0 (M' := M_X12_isPart) (as := [_]) 9 dX12_cast_6 rfl cw_X12_318 rfl rfl sh_138 rfl (by decide) (Nat.le_of_ble_eq_true rfl) (Nat.le_of_ble_eq_true rfl) (Nat.le_of_ble_eq_true rfl) (Nat.le_of_ble_eq_true rfl) ⟨rfl, rfl, rfl⟩ ?_
    refine c_X12_isPart hT er1 ehp1 hr1 (by omega) ?_
    rw [← hC1]
    refine s_ifb_ne 18 12 dX12_cast_9 rfl rfl (fun h_9 => ?_) (fun h_9 => by exfalso; exact absurd z1 (by assumption))
    refine s_iload_n 19 dX12_cast_18 rfl rfl ?_
    refine s_iconst 20 dX12_cast_19 rfl ?_
    refine s_bipush 22 dX12_cast_20 rfl (by decide) ?_
    refine s_callS0 (M' := M_X12_within) (as := [_, _, _]) 25 dX12_cast_22 rfl cw_X12_174 rfl rfl (Nat.le_of_ble_eq_true rfl) (Nat.le_of_ble_eq_true rfl) (Nat.le_of_ble_eq_true rfl) ⟨rfl, rfl, rfl⟩ ?_
    refine c_X12_within (by omega) (by omega) (by omega) ?_
    refine s_ifb_ne 34 28 dX12_cast_25 rfl rfl (fun h_25 => ?_) (fun h_25 => ?_)
    · skip
      refine s_aload_n 35 dX12_cast_34 rfl rfl ?_
      refine s_getR 38 dX12_cast_35 rfl fl_X12_26 (fun _ _ _ _ => rfl) (T_X12_st hT) sh_138 (Nat.le_of_ble_eq_true rfl) ?_
      refine s_iconst 39 dX12_cast_38 rfl ?_
      refine s_iload_n 40 dX12_cast_39 rfl rfl ?_
      refine s_iadd 41 dX12_cast_40 rfl ?_
      refine s_iald 42 dX12_cast_41 rfl sh_143 (Nat.le_of_ble_eq_true rfl) (by omega) (by omega) (fun r_41 => ?_)
      rw [es1] at r_41 ⊢
      refine s_iload_n 43 dX12_cast_42 rfl rfl ?_
      refine s_icmp_ne 52 46 dX12_cast_43 rfl rfl (by first | omega | exact bI_r _ | exact iI_r _) (by first | omega | exact bI_r _ | exact iI_r _) (fun h_43 => ?_) (fun h_43 => ?_)
      · skip
        refine s_aload_n 53 dX12_cast_52 rfl rfl ?_
        refine s_getR 56 dX12_cast_53 rfl fl_X12_26 (fun _ _ _ _ => rfl) (T_X12_st hT) sh_138 (Nat.le_of_ble_eq_true rfl) ?_
        refine s_iconst 57 dX12_cast_56 rfl ?_
        refine s_aload_n 58 dX12_cast_57 rfl rfl ?_
        refine s_getR 61 dX12_cast_58 rfl fl_X12_29 (fun _ _ _ _ => rfl) (T_X12_was hT) sh_138 (Nat.le_of_ble_eq_true rfl) ?_
        refine s_iconst 62 dX12_cast_61 rfl ?_
        refine s_bipush 64 dX12_cast_62 rfl (by decide) ?_
        refine s_callS0 (M' := M_X12_copy) (as := [_, _, _, _, _]) 67 dX12_cast_64 rfl cw_X12_199 rfl rfl (Nat.le_of_ble_eq_true rfl) (Nat.le_of_ble_eq_true rfl) (Nat.le_of_ble_eq_true rfl) ⟨rfl, rfl, rfl⟩ ?_
        refine c_X12_copy sh_143 sh_144 (by decide) (by decide) (by decide) (by decide) (by omega) (by omega) (by omega) ?_
        refine s_aload_n 68 dX12_cast_67 rfl rfl ?_
        refine s_getR 71 dX12_cast_68 rfl fl_X12_26 (fun _ _ _ _ => rfl) (T_X12_st hT) sh_138 (Nat.le_of_ble_eq_true rfl) ?_
        refine s_iconst 72 dX12_cast_71 rfl ?_
        refine s_iload_n 73 dX12_cast_72 rfl rfl ?_
        refine s_iadd 74 dX12_cast_73 rfl ?_
        refine s_iload_n 75 dX12_cast_74 rfl rfl ?_
        refine s_iast 76 dX12_cast_75 rfl sh_143 (Nat.le_of_ble_eq_true rfl) (by omega) (by omega) (by first | omega | exact bI_r _ | exact iI_r _) ?_
        refine s_aload_n 77 dX12_cast_76 rfl rfl ?_
        refine s_callV0 (M' := M_X12_did) (as := []) 80 dX12_cast_77 rfl cw_X12_427 rfl rfl sh_138 rfl (by decide) (Nat.le_of_ble_eq_true rfl) (Nat.le_of_ble_eq_true rfl) (Nat.le_of_ble_eq_true rfl) (Nat.le_of_ble_eq_true rfl) ⟨rfl, rfl, rfl⟩ ?_
        have n5 : ∀ k, k ≠ 0 → k ≠ 11 → up (cpI (gd I 0) 143 0 144 0 13) 143 (5 + i) j 138 k = I 138 k := fun k z1 z2 => (congrFun (w1 138 (by decide)) k).trans (gd_f ⟨z1, z2⟩)
        refine c_X12_did (U := U) hT hu (by rw [show up (up I 138 0 0) 138 11 0 = gd I 0 from rfl, n5 22 (by decide) (by decide)]; exact e1) (by rw [show up (up I 138 0 0) 138 11 0 = gd I 0 from rfl, up_ne (by decide), w1 145 (by decide), gd_n (by decide)]; exact e2) (fun I5 j1 j2 j3 j4 j5 => ?_)
        refine s_zret dX12_cast_80 rfl (by first | omega | exact bI_b _) rfl ?_
        have c2 : C2 := by rw [hC2]; assumption
        have c3 : C3 := by rw [hC3]; assumption
        have hA := hM0.act (s' := stP s (5 + i) j) (Eqo.st (w1.mo (fun a ha => List.mem_cons_of_mem _ ha)) (by decide)) (by funext k; rw [upd9, w3]; rfl) (by rw [up_ne (by decide)]; exact w2) j1 j2 j3 j4 j5
        have q := h I5 hA.1 (by rw [pick_t z1, pick_t c2, pick_t c3, pick_t ⟨z1, c2, c3⟩, pick_t ⟨z1, c2, c3⟩, pick_t ⟨z1, c2, c3⟩]; exact hA.2)
        exact ret_t ⟨z1, c2, c3⟩ q
      refine s_aload_n 47 dX12_cast_46 rfl rfl ?_
      refine s_iconst 48 dX12_cast_47 rfl ?_
      refine s_callV0 (M' := M_X12_isNot) (as := [_]) 51 dX12_cast_48 rfl cw_X12_424 rfl rfl sh_138 rfl (by decide) (Nat.le_of_ble_eq_true rfl) (Nat.le_of_ble_eq_true rfl) (Nat.le_of_ble_eq_true rfl) (Nat.le_of_ble_eq_true rfl) ⟨rfl, rfl, rfl⟩ ?_
      refine c_X12_isNot (by decide) ?_
      first | rw [show up (up (up I 138 0 0) 138 11 0) 138 11 2 = gd I 2 from gd_no] | rw [show up (up (up I 138 0 0) 138 11 0) 138 11 5 = gd I 5 from gd_no]
      refine s_zret dX12_cast_51 rfl (by first | omega | exact bI_b _) rfl ?_
      have c2 : C2 := by rw [hC2]; assumption
      have c3 : ¬ C3 := by rw [hC3]; exact fun z => z (by assumption)
      exact no 5 (fun z => c3 z.2.2) (by rw [pick_t z1, pick_t c2, pick_f c3])
    refine s_aload_n 29 dX12_cast_28 rfl rfl ?_
    refine s_iconst 30 dX12_cast_29 rfl ?_
    refine s_callV0 (M' := M_X12_isNot) (as := [_]) 33 dX12_cast_30 rfl cw_X12_424 rfl rfl sh_138 rfl (by decide) (Nat.le_of_ble_eq_true rfl) (Nat.le_of_ble_eq_true rfl) (Nat.le_of_ble_eq_true rfl) (Nat.le_of_ble_eq_true rfl) ⟨rfl, rfl, rfl⟩ ?_
    refine c_X12_isNot (by decide) ?_
    first | rw [show up (up (up I 138 0 0) 138 11 0) 138 11 2 = gd I 2 from gd_no] | rw [show up (up (up I 138 0 0) 138 11 0) 138 11 5 = gd I 5 from gd_no]
    refine s_zret dX12_cast_33 rfl (by first | omega | exact bI_b _) rfl ?_
    have c2 : ¬ C2 := by rw [hC2]; assumption
    exact no 2 (fun z => c2 z.2.1) (by rw [pick_t z1, pick_f c2])
  · skip
    refine s_aload_n 1 dX12_cast_0 rfl rfl ?_
    refine s_callV0 (M' := M_X12_good) (as := []) 4 dX12_cast_1 rfl cw_X12_190 rfl rfl sh_138 rfl (by decide) (Nat.le_of_ble_eq_true rfl) (Nat.le_of_ble_eq_true rfl) (Nat.le_of_ble_eq_true rfl) (Nat.le_of_ble_eq_true rfl) ⟨rfl, rfl, rfl⟩ ?_
    refine c_X12_good ?_
    refine s_aload_n 5 dX12_cast_4 rfl rfl ?_
    refine s_iload_n 6 dX12_cast_5 rfl rfl ?_
    refine s_callV0 (M' := M_X12_isPart) (as := [_]) 9 dX12_cast_6 rfl cw_X12_318 rfl rfl sh_138 rfl (by decide) (Nat.le_of_ble_eq_true rfl) (Nat.le_of_ble_eq_true rfl) (Nat.le_of_ble_eq_true rfl) (Nat.le_of_ble_eq_true rfl) ⟨rfl, rfl, rfl⟩ ?_
    refine c_X12_isPart hT er1 ehp1 hr1 (by omega) ?_
    rw [← hC1]
    refine s_ifb_ne 18 12 dX12_cast_9 rfl rfl (fun h_9 => by exfalso; exact absurd (by assumption) z1) (fun h_9 => ?_)
    refine s_aload_n 13 dX12_cast_12 rfl rfl ?_
    refine s_iconst 14 dX12_cast_13 rfl ?_
    refine s_callV0 (M' := M_X12_isNot) (as := [_]) 17 dX12_cast_14 rfl cw_X12_424 rfl rfl sh_138 rfl (by decide) (Nat.le_of_ble_eq_true rfl) (Nat.le_of_ble_eq_true rfl) (Nat.le_of_ble_eq_true rfl) (Nat.le_of_ble_eq_true rfl) ⟨rfl, rfl, rfl⟩ ?_
    refine c_X12_isNot (by decide) ?_
    rw [show up (up (up I 138 0 0) 138 11 0) 138 11 1 = gd I 1 from gd_no]
    refine s_zret dX12_cast_17 rfl (by first | omega | exact bI_b _) rfl ?_
    exact no 1 (fun z => z1 z.1) (by rw [pick_f z1])
set_option maxHeartbeats 4000000 in
theorem c_X12_cut {E : ET} {I : MI} {L : ML} {R : MR} {Q : Option AV → MI → ML → MR → Prop} {bt r s : F1} {n ft pl w i : Int} {HP P : Prop} {U D K : List (List Int)} (hT : Topo R) (hM : MV I bt n ft pl w HP r s U D K) (hr : HP → WFr r) (hu : U.length ≤ 12) (hi : -2147483648 ≤ i ∧ i ≤ 2147483647) (h : ∀ C1 C2, C1 = (HP ∧ 0 ≤ i ∧ i < r 7) → C2 = ¬ (hasI (s 12) i ↔ P) → ∀ I', Lo I I' → MV I' bt n ft pl (pick C1 (pick C2 0 5) 1) HP r (pick (C1 ∧ C2) (stP s 12 (ixor (s 12) (ishl 1 i))) s) (pick (C1 ∧ C2) (kp U (rowAt s 0)) U) (pick (C1 ∧ C2) [] D) K → Q (some (vi (bI (C1 ∧ C2)))) I' L R) : CT E M_X12_cut 161 yX12_cut [(vr (138)), (vi (i)), (vi (bI P))] I L R Q := by
  refine CT_of rfl rfl (fun h => by cases h) (Nat.le_of_ble_eq_true rfl) (fun X => ?_)
  show V X _ z0 0 [some (vr (138)), some (vi (i)), some (vi (bI P))] [] I L R _
  have h := h _ _ rfl rfl
  have hM0 := hM
  obtain ⟨⟨a1, a2, a3, a4, a5, ehp⟩, erd, er, es, ⟨e1, e2⟩, ⟨f1, f2⟩, g1, g2⟩ := hM
  have er1 : up (up I 138 0 0) 138 11 0 141 = r := (gd_n (by decide)).trans er
  have es1 : up (up I 138 0 0) 138 11 0 143 = s := (gd_n (by decide)).trans es
  have ehp1 : up (up I 138 0 0) 138 11 0 138 14 = bI HP := (gd_f (by decide)).trans ehp
  obtain ⟨C1, hC1⟩ : ∃ C1, C1 = (HP ∧ 0 ≤ i ∧ i < r 7) := ⟨_, rfl⟩
  obtain ⟨C2, hC2⟩ : ∃ C2, C2 = ¬ (hasI (s 12) i ↔ P) := ⟨_, rfl⟩
  rw [← hC1, ← hC2] at h
  have no : ∀ w', ¬ (C1 ∧ C2) → pick C1 (pick C2 0 5) 1 = w' → Q (some (vi (bI False))) (gd I w') L R := fun w' z zw => by
    have q := h (gd I w') (Lo.gd Eqo.rf) (by rw [pick_f z, pick_f z, pick_f z, zw]; exact hM0.q Eqo.rf)
    rw [bI_f z, ← bI_f (b := False) id] at q
    exact q
  obtain ⟨w1, w2, w3⟩ := was_c es
  by_cases z1 : C1
  · have i5 : 0 ≤ i ∧ i < 14 := by have z := z1; rw [hC1] at z; have := (hr z.1).1; omega
    refine s_aload_n 1 dX12_cut_0 rfl rfl ?_
    refine s_callV0 (M' := M_X12_good) (as := []) 4 dX12_cut_1 rfl cw_X12_190 rfl rfl sh_138 rfl (by decide) (Nat.le_of_ble_eq_true rfl) (Nat.le_of_ble_eq_true rfl) (Nat.le_of_ble_eq_true rfl) (Nat.le_of_ble_eq_true rfl) ⟨rfl, rfl, rfl⟩ ?_
    refine c_X12_good ?_
    refine s_aload_n 5 dX12_cut_4 rfl rfl ?_
    refine s_iload_n 6 dX12_cut_5 rfl rfl ?_
    refine s_callV0 (M' := M_X12_isOn) (as := [_]) 9 dX12_cut_6 rfl cw_X12_309 rfl rfl sh_138 rfl (by decide) (Nat.le_of_ble_eq_true rfl) (Nat.le_of_ble_eq_true rfl) (Nat.le_of_ble_eq_true rfl) (Nat.le_of_ble_eq_true rfl) ⟨rfl, rfl, rfl⟩ ?_
    refine c_X12_isOn hT er1 ehp1 hr (by omega) ?_
    rw [← hC1]
    refine s_ifb_ne 18 12 dX12_cut_9 rfl rfl (fun h_9 => ?_) (fun h_9 => by exfalso; exact absurd z1 (by assumption))
    refine s_aload_n 19 dX12_cut_18 rfl rfl ?_
    refine s_getR 22 dX12_cut_19 rfl fl_X12_26 (fun _ _ _ _ => rfl) (T_X12_st hT) sh_138 (Nat.le_of_ble_eq_true rfl) ?_
    refine s_bipush 24 dX12_cut_22 rfl (by decide) ?_
    refine s_iald 25 dX12_cut_24 rfl sh_143 (Nat.le_of_ble_eq_true rfl) (by omega) (by omega) (fun r_24 => ?_)
    rw [es1] at r_24 ⊢
    refine s_iload_n 26 dX12_cut_25 rfl rfl ?_
    refine s_callS0 (M' := M_X12_has) (as := [_, _]) 29 dX12_cut_26 rfl cw_X12_278 rfl rfl (Nat.le_of_ble_eq_true rfl) (Nat.le_of_ble_eq_true rfl) (Nat.le_of_ble_eq_true rfl) ⟨rfl, rfl, rfl⟩ ?_
    refine c_X12_has ?_
    refine s_iload_n 30 dX12_cut_29 rfl rfl ?_
    refine s_icmp_ne 39 33 dX12_cut_30 rfl rfl (by first | omega | exact bI_r _ | exact iI_r _) (by first | omega | exact bI_r _ | exact iI_r _) (fun h_30 => ?_) (fun h_30 => ?_)
    · skip
      refine s_aload_n 40 dX12_cut_39 rfl rfl ?_
      refine s_getR 43 dX12_cut_40 rfl fl_X12_26 (fun _ _ _ _ => rfl) (T_X12_st hT) sh_138 (Nat.le_of_ble_eq_true rfl) ?_
      refine s_iconst 44 dX12_cut_43 rfl ?_
      refine s_aload_n 45 dX12_cut_44 rfl rfl ?_
      refine s_getR 48 dX12_cut_45 rfl fl_X12_29 (fun _ _ _ _ => rfl) (T_X12_was hT) sh_138 (Nat.le_of_ble_eq_true rfl) ?_
      refine s_iconst 49 dX12_cut_48 rfl ?_
      refine s_bipush 51 dX12_cut_49 rfl (by decide) ?_
      refine s_callS0 (M' := M_X12_copy) (as := [_, _, _, _, _]) 54 dX12_cut_51 rfl cw_X12_199 rfl rfl (Nat.le_of_ble_eq_true rfl) (Nat.le_of_ble_eq_true rfl) (Nat.le_of_ble_eq_true rfl) ⟨rfl, rfl, rfl⟩ ?_
      refine c_X12_copy sh_143 sh_144 (by decide) (by decide) (by decide) (by decide) (by omega) (by omega) (by omega) ?_
      rw [show up (up I 138 0 0) 138 11 0 = gd I 0 from rfl]
      refine s_aload_n 55 dX12_cut_54 rfl rfl ?_
      refine s_getR 58 dX12_cut_55 rfl fl_X12_26 (fun _ _ _ _ => rfl) (T_X12_st hT) sh_138 (Nat.le_of_ble_eq_true rfl) ?_
      refine s_bipush 60 dX12_cut_58 rfl (by decide) ?_
      refine s_dup2 61 dX12_cut_60 rfl rfl rfl ?_
      refine s_iald 62 dX12_cut_61 rfl sh_143 (Nat.le_of_ble_eq_true rfl) (by omega) (by omega) (fun r_61 => ?_)
      rw [w3] at r_61 ⊢
      refine s_iconst 63 dX12_cut_62 rfl ?_
      refine s_iload_n 64 dX12_cut_63 rfl rfl ?_
      refine s_ishl 65 dX12_cut_64 rfl ?_
      refine s_ixor 66 dX12_cut_65 rfl ?_
      refine s_iast 67 dX12_cut_66 rfl sh_143 (Nat.le_of_ble_eq_true rfl) (by omega) (by omega) (by first | omega | exact bI_r _ | exact iI_r _) ?_
      refine s_aload_n 68 dX12_cut_67 rfl rfl ?_
      refine s_callV0 (M' := M_X12_did) (as := []) 71 dX12_cut_68 rfl cw_X12_427 rfl rfl sh_138 rfl (by decide) (Nat.le_of_ble_eq_true rfl) (Nat.le_of_ble_eq_true rfl) (Nat.le_of_ble_eq_true rfl) (Nat.le_of_ble_eq_true rfl) ⟨rfl, rfl, rfl⟩ ?_
      have n5 : ∀ k, k ≠ 0 → k ≠ 11 → up (cpI (gd I 0) 143 0 144 0 13) 143 12 (ixor (s 12) (ishl 1 i)) 138 k = I 138 k := fun k z1 z2 => (congrFun (w1 138 (by decide)) k).trans (gd_f ⟨z1, z2⟩)
      refine c_X12_did (U := U) hT hu (by rw [n5 22 (by decide) (by decide)]; exact e1) (by rw [up_ne (by decide), w1 145 (by decide), gd_n (by decide)]; exact e2) (fun I5 j1 j2 j3 j4 j5 => ?_)
      refine s_zret dX12_cut_71 rfl (by first | omega | exact bI_b _) rfl ?_
      have c2 : C2 := by rw [hC2]; exact fun z => absurd (bI_eq.mpr z) (by assumption)
      have hA := hM0.act (s' := stP s 12 (ixor (s 12) (ishl 1 i))) (Eqo.st (w1.mo (fun a ha => List.mem_cons_of_mem _ ha)) (by decide)) (by funext k; rw [upd9, w3]; rfl) (by rw [up_ne (by decide)]; exact w2) j1 j2 j3 j4 j5
      have q := h I5 hA.1 (by rw [pick_t z1, pick_t c2, pick_t ⟨z1, c2⟩, pick_t ⟨z1, c2⟩, pick_t ⟨z1, c2⟩]; exact hA.2)
      exact ret_t ⟨z1, c2⟩ q
    refine s_aload_n 34 dX12_cut_33 rfl rfl ?_
    refine s_iconst 35 dX12_cut_34 rfl ?_
    refine s_callV0 (M' := M_X12_isNot) (as := [_]) 38 dX12_cut_35 rfl cw_X12_424 rfl rfl sh_138 rfl (by decide) (Nat.le_of_ble_eq_true rfl) (Nat.le_of_ble_eq_true rfl) (Nat.le_of_ble_eq_true rfl) (Nat.le_of_ble_eq_true rfl) ⟨rfl, rfl, rfl⟩ ?_
    refine c_X12_isNot (by decide) ?_
    rw [show up (up (up I 138 0 0) 138 11 0) 138 11 5 = gd I 5 from gd_no]
    refine s_zret dX12_cut_38 rfl (by first | omega | exact bI_b _) rfl ?_
    have c2 : ¬ C2 := by rw [hC2]; exact fun z => z (bI_eq.mp (by assumption))
    exact no 5 (fun z => c2 z.2) (by rw [pick_t z1, pick_f c2])
  · skip
    refine s_aload_n 1 dX12_cut_0 rfl rfl ?_
    refine s_callV0 (M' := M_X12_good) (as := []) 4 dX12_cut_1 rfl cw_X12_190 rfl rfl sh_138 rfl (by decide) (Nat.le_of_ble_eq_true rfl) (Nat.le_of_ble_eq_true rfl) (Nat.le_of_ble_eq_true rfl) (Nat.le_of_ble_eq_true rfl) ⟨rfl, rfl, rfl⟩ ?_
    refine c_X12_good ?_
    refine s_aload_n 5 dX12_cut_4 rfl rfl ?_
    refine s_iload_n 6 dX12_cut_5 rfl rfl ?_
    refine s_callV0 (M' := M_X12_isOn) (as := [_]) 9 dX12_cut_6 rfl cw_X12_309 rfl rfl sh_138 rfl (by decide) (Nat.le_of_ble_eq_true rfl) (Nat.le_of_ble_eq_true rfl) (Nat.le_of_ble_eq_true rfl) (Nat.le_of_ble_eq_true rfl) ⟨rfl, rfl, rfl⟩ ?_
    refine c_X12_isOn hT er1 ehp1 hr (by omega) ?_
    rw [← hC1]
    refine s_ifb_ne 18 12 dX12_cut_9 rfl rfl (fun h_9 => by exfalso; exact absurd (by assumption) z1) (fun h_9 => ?_)
    refine s_aload_n 13 dX12_cut_12 rfl rfl ?_
    refine s_iconst 14 dX12_cut_13 rfl ?_
    refine s_callV0 (M' := M_X12_isNot) (as := [_]) 17 dX12_cut_14 rfl cw_X12_424 rfl rfl sh_138 rfl (by decide) (Nat.le_of_ble_eq_true rfl) (Nat.le_of_ble_eq_true rfl) (Nat.le_of_ble_eq_true rfl) (Nat.le_of_ble_eq_true rfl) ⟨rfl, rfl, rfl⟩ ?_
    refine c_X12_isNot (by decide) ?_
    rw [show up (up (up I 138 0 0) 138 11 0) 138 11 1 = gd I 1 from gd_no]
    refine s_zret dX12_cut_17 rfl (by first | omega | exact bI_b _) rfl ?_
    exact no 1 (fun z => z1 z.1) (by rw [pick_f z1])
