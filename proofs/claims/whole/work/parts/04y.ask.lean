/-! what is asked, by the reference: the simple ones -/
def SOk (r s : F1) (a : List Int) : Prop := WFr r ∧ a ∈ ordL r ∧ (∀ k, 0 ≤ k → k < r 5 → s k = vL a k) ∧ (∀ p, 0 ≤ p → p < 7 → 0 ≤ s (5 + p) ∧ s (5 + p) ≤ 6) ∧ 0 ≤ s 12 ∧ s 12 < 2 ^ (r 7).toNat
theorem SOk.p {r s : F1} {a : List Int} (h : SOk r s a) : Perm (r 5) s := (ordL_of h.1 h.2.1).1.c h.2.2.1
theorem pick_spl {C : Prop} {x : Int} {I : MI} {L : ML} {R : MR} {Q : QT} (h : ∀ I', Eqo MS (gd I (pick C 0 1)) I' → Q (some (vi (pick C x (-1)))) I' L R) : (¬ C → Q (some (vi (-1))) (gd I 1) L R) ∧ (C → ∀ I', Eqo MS (gd I 0) I' → Q (some (vi x)) I' L R) :=
  ⟨fun z => by have q := h (gd I 1) (by rw [pick_f z]; exact Eqo.rf); rw [pick_f z] at q; exact q, fun z I' k => by have q := h I' (by rw [pick_t z]; exact k); rw [pick_t z] at q; exact q⟩
set_option maxHeartbeats 4000000 in
theorem c_X12_scene {E : ET} {I : MI} {L : ML} {R : MR} {Q : Option AV → MI → ML → MR → Prop} {r s : F1} {a : List Int} {HP : Prop} {i : Int} (hT : Topo R) (er : I 141 = r) (es : I 143 = s) (erd : I 138 30 = -1) (ehp : I 138 14 = bI HP) (hr : HP → SOk r s a) (hi : -2147483648 ≤ i ∧ i ≤ 2147483647) (h : ∀ I', Eqo MS (gd I (pick (HP ∧ 0 ≤ i ∧ i < r 5) 0 1)) I' → Q (some (vi (pick (HP ∧ 0 ≤ i ∧ i < r 5) (s i) (-1)))) I' L R) : CT E M_X12_scene 161 yX12_scene [(vr (138)), (vi (i))] I L R Q := by
  refine CT_of rfl rfl (fun h => by cases h) (Nat.le_of_ble_eq_true rfl) (fun X => ?_)
  show V X _ z0 0 [some (vr (138)), some (vi (i))] [] I L R _
  have hno := (pick_spl h).1
  have hye := (pick_spl h).2
  have er1 : up (up I 138 0 0) 138 11 0 141 = r := (gd_n (by decide)).trans er
  have es1 : up (up I 138 0 0) 138 11 0 143 = s := (gd_n (by decide)).trans es
  have erd1 : up (up I 138 0 0) 138 11 0 138 30 = -1 := (gd_f (by decide)).trans erd
  have ehp1 : up (up I 138 0 0) 138 11 0 138 14 = bI HP := (gd_f (by decide)).trans ehp
  have hr1 : HP → WFr r := fun z => (hr z).1
  by_cases hP : HP
  · have e0 := (hr hP).1.1
    refine s_aload_n 1 dX12_scene_0 rfl rfl ?_
    refine s_callV0 (M' := M_X12_good) (as := []) 4 dX12_scene_1 rfl cw_X12_190 rfl rfl sh_138 rfl (by decide) (Nat.le_of_ble_eq_true rfl) (Nat.le_of_ble_eq_true rfl) (Nat.le_of_ble_eq_true rfl) (Nat.le_of_ble_eq_true rfl) ⟨rfl, rfl, rfl⟩ ?_
    refine c_X12_good ?_
    refine s_aload_n 5 dX12_scene_4 rfl rfl ?_
    refine s_iload_n 6 dX12_scene_5 rfl rfl ?_
    refine s_callV0 (M' := M_X12_isScene) (as := [_]) 9 dX12_scene_6 rfl cw_X12_299 rfl rfl sh_138 rfl (by decide) (Nat.le_of_ble_eq_true rfl) (Nat.le_of_ble_eq_true rfl) (Nat.le_of_ble_eq_true rfl) (Nat.le_of_ble_eq_true rfl) ⟨rfl, rfl, rfl⟩ ?_
    refine c_X12_isScene hT er1 ehp1 hr1 (by omega) ?_
    refine s_ifb_eq 21 12 dX12_scene_9 rfl rfl (fun h_9 => ?_) (fun h_9 => ?_)
    · skip
      refine s_aload_n 22 dX12_scene_21 rfl rfl ?_
      refine s_iconst 23 dX12_scene_22 rfl ?_
      refine s_callV0 (M' := M_X12_no) (as := [_]) 26 dX12_scene_23 rfl cw_X12_193 rfl rfl sh_138 rfl (by decide) (Nat.le_of_ble_eq_true rfl) (Nat.le_of_ble_eq_true rfl) (Nat.le_of_ble_eq_true rfl) (Nat.le_of_ble_eq_true rfl) ⟨rfl, rfl, rfl⟩ ?_
      refine c_X12_no (by decide) ?_
      first | rw [show up (up (up I 138 0 0) 138 11 0) 138 11 1 = gd I 1 from gd_no] | rw [show up (up (up I 138 0 0) 138 11 0) 138 11 2 = gd I 2 from gd_no]
      refine s_iret dX12_scene_26 rfl rfl ?_
      first | exact hno (by assumption) | exact hye (by assumption) _ Eqo.rf
    refine s_aload_n 13 dX12_scene_12 rfl rfl ?_
    refine s_getR 16 dX12_scene_13 rfl fl_X12_26 (fun _ _ _ _ => rfl) (T_X12_st hT) sh_138 (Nat.le_of_ble_eq_true rfl) ?_
    refine s_iload_n 17 dX12_scene_16 rfl rfl ?_
    refine s_iald 18 dX12_scene_17 rfl sh_143 (Nat.le_of_ble_eq_true rfl) (by omega) (by omega) (fun r_17 => ?_)
    rw [es1] at r_17 ⊢
    refine s_goto 26 dX12_scene_18 rfl ?_
    refine s_iret dX12_scene_26 rfl rfl ?_
    first | exact hno (by assumption) | exact hye (by assumption) _ Eqo.rf
  · skip
    refine s_aload_n 1 dX12_scene_0 rfl rfl ?_
    refine s_callV0 (M' := M_X12_good) (as := []) 4 dX12_scene_1 rfl cw_X12_190 rfl rfl sh_138 rfl (by decide) (Nat.le_of_ble_eq_true rfl) (Nat.le_of_ble_eq_true rfl) (Nat.le_of_ble_eq_true rfl) (Nat.le_of_ble_eq_true rfl) ⟨rfl, rfl, rfl⟩ ?_
    refine c_X12_good ?_
    refine s_aload_n 5 dX12_scene_4 rfl rfl ?_
    refine s_iload_n 6 dX12_scene_5 rfl rfl ?_
    refine s_callV0 (M' := M_X12_isScene) (as := [_]) 9 dX12_scene_6 rfl cw_X12_299 rfl rfl sh_138 rfl (by decide) (Nat.le_of_ble_eq_true rfl) (Nat.le_of_ble_eq_true rfl) (Nat.le_of_ble_eq_true rfl) (Nat.le_of_ble_eq_true rfl) ⟨rfl, rfl, rfl⟩ ?_
    refine c_X12_isScene hT er1 ehp1 hr1 (by omega) ?_
    refine s_ifb_eq 21 12 dX12_scene_9 rfl rfl (fun h_9 => ?_) (fun h_9 => by exfalso; exact hP (And.left (by assumption)))
    refine s_aload_n 22 dX12_scene_21 rfl rfl ?_
    refine s_iconst 23 dX12_scene_22 rfl ?_
    refine s_callV0 (M' := M_X12_no) (as := [_]) 26 dX12_scene_23 rfl cw_X12_193 rfl rfl sh_138 rfl (by decide) (Nat.le_of_ble_eq_true rfl) (Nat.le_of_ble_eq_true rfl) (Nat.le_of_ble_eq_true rfl) (Nat.le_of_ble_eq_true rfl) ⟨rfl, rfl, rfl⟩ ?_
    refine c_X12_no (by decide) ?_
    first | rw [show up (up (up I 138 0 0) 138 11 0) 138 11 1 = gd I 1 from gd_no] | rw [show up (up (up I 138 0 0) 138 11 0) 138 11 2 = gd I 2 from gd_no]
    refine s_iret dX12_scene_26 rfl rfl ?_
    exact hno (by assumption)
set_option maxHeartbeats 4000000 in
theorem c_X12_begins_ {E : ET} {I : MI} {L : ML} {R : MR} {Q : Option AV → MI → ML → MR → Prop} {r s : F1} {a : List Int} {HP P : Prop} {i : Int} (hT : Topo R) (er : I 141 = r) (es : I 143 = s) (erd : I 138 30 = -1) (ehp : I 138 14 = bI HP) (hr : HP → SOk r s a) (hi : -2147483648 ≤ i ∧ i ≤ 2147483647) (h : ∀ I', Eqo MS (gd I (pick (HP ∧ 0 ≤ i ∧ i < r 5) 0 1)) I' → Q (some (vi (pick (HP ∧ 0 ≤ i ∧ i < r 5) (opF r (r 2) s i + pick P (r (44 + i)) 0) (-1)))) I' L R) : CT E M_X12_begins_ 161 yX12_begins_ [(vr (138)), (vi (i)), (vi (bI P))] I L R Q := by
  refine CT_of rfl rfl (fun h => by cases h) (Nat.le_of_ble_eq_true rfl) (fun X => ?_)
  show V X _ z0 0 [some (vr (138)), some (vi (i)), some (vi (bI P))] [] I L R _
  have hno := (pick_spl h).1
  have hye := (pick_spl h).2
  have er1 : up (up I 138 0 0) 138 11 0 141 = r := (gd_n (by decide)).trans er
  have es1 : up (up I 138 0 0) 138 11 0 143 = s := (gd_n (by decide)).trans es
  have erd1 : up (up I 138 0 0) 138 11 0 138 30 = -1 := (gd_f (by decide)).trans erd
  have ehp1 : up (up I 138 0 0) 138 11 0 138 14 = bI HP := (gd_f (by decide)).trans ehp
  have hr1 : HP → WFr r := fun z => (hr z).1
  by_cases hP : HP
  · have e0 := (hr hP).1.1
    refine s_aload_n 1 dX12_begins__0 rfl rfl ?_
    refine s_callV0 (M' := M_X12_good) (as := []) 4 dX12_begins__1 rfl cw_X12_190 rfl rfl sh_138 rfl (by decide) (Nat.le_of_ble_eq_true rfl) (Nat.le_of_ble_eq_true rfl) (Nat.le_of_ble_eq_true rfl) (Nat.le_of_ble_eq_true rfl) ⟨rfl, rfl, rfl⟩ ?_
    refine c_X12_good ?_
    refine s_aload_n 5 dX12_begins__4 rfl rfl ?_
    refine s_iload_n 6 dX12_begins__5 rfl rfl ?_
    refine s_callV0 (M' := M_X12_isScene) (as := [_]) 9 dX12_begins__6 rfl cw_X12_299 rfl rfl sh_138 rfl (by decide) (Nat.le_of_ble_eq_true rfl) (Nat.le_of_ble_eq_true rfl) (Nat.le_of_ble_eq_true rfl) (Nat.le_of_ble_eq_true rfl) ⟨rfl, rfl, rfl⟩ ?_
    refine c_X12_isScene hT er1 ehp1 hr1 (by omega) ?_
    refine s_ifb_ne 18 12 dX12_begins__9 rfl rfl (fun h_9 => ?_) (fun h_9 => ?_)
    · skip
      refine s_aload_n 19 dX12_begins__18 rfl rfl ?_
      refine s_aload_n 20 dX12_begins__19 rfl rfl ?_
      refine s_getR 23 dX12_begins__20 rfl fl_X12_26 (fun _ _ _ _ => rfl) (T_X12_st hT) sh_138 (Nat.le_of_ble_eq_true rfl) ?_
      refine s_callV0 (M' := M_X12_layTime) (as := [_]) 26 dX12_begins__23 rfl cw_X12_305 rfl rfl sh_138 rfl (by decide) (Nat.le_of_ble_eq_true rfl) (Nat.le_of_ble_eq_true rfl) (Nat.le_of_ble_eq_true rfl) (Nat.le_of_ble_eq_true rfl) ⟨rfl, rfl, rfl⟩ ?_
      refine c_X12_layTime hT er1 (hr hP).1 rfl sh_143 (by decide) (by decide) (by decide) es1 (hr hP).p (fun I1 hL => ?_)
      have er2 : I1 141 = r := (hL.1 141 (by decide)).trans er1
      have hE : Eqo MS (gd I 0) I1 := hL.1.mo (by decide)
      have hC : HP ∧ 0 ≤ i ∧ i < r 5 := by assumption
      refine s_aload_n 27 dX12_begins__26 rfl rfl ?_
      refine s_getR 30 dX12_begins__27 rfl fl_X12_44 (fun _ _ _ _ => rfl) (T_X12_opens hT) sh_138 (Nat.le_of_ble_eq_true rfl) ?_
      refine s_iload_n 31 dX12_begins__30 rfl rfl ?_
      refine s_iald 32 dX12_begins__31 rfl sh_149 (Nat.le_of_ble_eq_true rfl) (by omega) (by omega) (fun r_31 => ?_)
      rw [hL.2.1 i hC.2.1 hC.2.2] at r_31 ⊢
      refine s_iload_n 33 dX12_begins__32 rfl rfl ?_
      refine s_ifb_eq 48 36 dX12_begins__33 rfl rfl (fun h_33 => ?_) (fun h_33 => ?_)
      · skip
        refine s_iconst 49 dX12_begins__48 rfl ?_
        refine s_iadd 50 dX12_begins__49 rfl ?_
        refine s_iret dX12_begins__50 rfl rfl ?_
        first | exact hno (by assumption) | (have q := hye hC I1 hE; first | (rw [pick_t (P := P) (by assumption)] at q; exact q) | (rw [pick_f (P := P) (by assumption)] at q; exact q))
      refine s_aload_n 37 dX12_begins__36 rfl rfl ?_
      refine s_getR 40 dX12_begins__37 rfl fl_X12_20 (fun _ _ _ _ => rfl) (T_X12_r hT) sh_138 (Nat.le_of_ble_eq_true rfl) ?_
      refine s_bipush 42 dX12_begins__40 rfl (by decide) ?_
      refine s_iload_n 43 dX12_begins__42 rfl rfl ?_
      refine s_iadd 44 dX12_begins__43 rfl ?_
      refine s_iald 45 dX12_begins__44 rfl sh_141 (Nat.le_of_ble_eq_true rfl) (by omega) (by omega) (fun r_44 => ?_)
      rw [er2] at r_44 ⊢
      refine s_goto 49 dX12_begins__45 rfl ?_
      refine s_iadd 50 dX12_begins__49 rfl ?_
      refine s_iret dX12_begins__50 rfl rfl ?_
      first | exact hno (by assumption) | (have q := hye hC I1 hE; first | (rw [pick_t (P := P) (by assumption)] at q; exact q) | (rw [pick_f (P := P) (by assumption)] at q; exact q))
    refine s_aload_n 13 dX12_begins__12 rfl rfl ?_
    refine s_iconst 14 dX12_begins__13 rfl ?_
    refine s_callV0 (M' := M_X12_no) (as := [_]) 17 dX12_begins__14 rfl cw_X12_193 rfl rfl sh_138 rfl (by decide) (Nat.le_of_ble_eq_true rfl) (Nat.le_of_ble_eq_true rfl) (Nat.le_of_ble_eq_true rfl) (Nat.le_of_ble_eq_true rfl) ⟨rfl, rfl, rfl⟩ ?_
    refine c_X12_no (by decide) ?_
    first | rw [show up (up (up I 138 0 0) 138 11 0) 138 11 1 = gd I 1 from gd_no] | rw [show up (up (up I 138 0 0) 138 11 0) 138 11 2 = gd I 2 from gd_no]
    refine s_iret dX12_begins__17 rfl rfl ?_
    first | exact hno (by assumption) | (have q := hye hC I1 hE; first | (rw [pick_t (P := P) (by assumption)] at q; exact q) | (rw [pick_f (P := P) (by assumption)] at q; exact q))
  · skip
    refine s_aload_n 1 dX12_begins__0 rfl rfl ?_
    refine s_callV0 (M' := M_X12_good) (as := []) 4 dX12_begins__1 rfl cw_X12_190 rfl rfl sh_138 rfl (by decide) (Nat.le_of_ble_eq_true rfl) (Nat.le_of_ble_eq_true rfl) (Nat.le_of_ble_eq_true rfl) (Nat.le_of_ble_eq_true rfl) ⟨rfl, rfl, rfl⟩ ?_
    refine c_X12_good ?_
    refine s_aload_n 5 dX12_begins__4 rfl rfl ?_
    refine s_iload_n 6 dX12_begins__5 rfl rfl ?_
    refine s_callV0 (M' := M_X12_isScene) (as := [_]) 9 dX12_begins__6 rfl cw_X12_299 rfl rfl sh_138 rfl (by decide) (Nat.le_of_ble_eq_true rfl) (Nat.le_of_ble_eq_true rfl) (Nat.le_of_ble_eq_true rfl) (Nat.le_of_ble_eq_true rfl) ⟨rfl, rfl, rfl⟩ ?_
    refine c_X12_isScene hT er1 ehp1 hr1 (by omega) ?_
    refine s_ifb_ne 18 12 dX12_begins__9 rfl rfl (fun h_9 => by exfalso; exact hP (And.left (by assumption))) (fun h_9 => ?_)
    refine s_aload_n 13 dX12_begins__12 rfl rfl ?_
    refine s_iconst 14 dX12_begins__13 rfl ?_
    refine s_callV0 (M' := M_X12_no) (as := [_]) 17 dX12_begins__14 rfl cw_X12_193 rfl rfl sh_138 rfl (by decide) (Nat.le_of_ble_eq_true rfl) (Nat.le_of_ble_eq_true rfl) (Nat.le_of_ble_eq_true rfl) (Nat.le_of_ble_eq_true rfl) ⟨rfl, rfl, rfl⟩ ?_
    refine c_X12_no (by decide) ?_
    first | rw [show up (up (up I 138 0 0) 138 11 0) 138 11 1 = gd I 1 from gd_no] | rw [show up (up (up I 138 0 0) 138 11 0) 138 11 2 = gd I 2 from gd_no]
    refine s_iret dX12_begins__17 rfl rfl ?_
    exact hno (by assumption)
set_option maxHeartbeats 4000000 in
theorem c_X12_seen {E : ET} {I : MI} {L : ML} {R : MR} {Q : Option AV → MI → ML → MR → Prop} {r s : F1} {a : List Int} {HP P : Prop} {i : Int} (hT : Topo R) (er : I 141 = r) (es : I 143 = s) (erd : I 138 30 = -1) (ehp : I 138 14 = bI HP) (hr : HP → SOk r s a) (hi : -2147483648 ≤ i ∧ i ≤ 2147483647) (h : ∀ I', Eqo MS (gd I (pick (HP ∧ 0 ≤ i ∧ i < r 7) 0 1)) I' → Q (some (vi (pick (HP ∧ 0 ≤ i ∧ i < r 7) (pick P (clF r (r 2) s i) (bgF r (r 2) s i)) (-1)))) I' L R) : CT E M_X12_seen 161 yX12_seen [(vr (138)), (vi (i)), (vi (bI P))] I L R Q := by
  refine CT_of rfl rfl (fun h => by cases h) (Nat.le_of_ble_eq_true rfl) (fun X => ?_)
  show V X _ z0 0 [some (vr (138)), some (vi (i)), some (vi (bI P))] [] I L R _
  have hno := (pick_spl h).1
  have hye := (pick_spl h).2
  have er1 : up (up I 138 0 0) 138 11 0 141 = r := (gd_n (by decide)).trans er
  have es1 : up (up I 138 0 0) 138 11 0 143 = s := (gd_n (by decide)).trans es
  have erd1 : up (up I 138 0 0) 138 11 0 138 30 = -1 := (gd_f (by decide)).trans erd
  have ehp1 : up (up I 138 0 0) 138 11 0 138 14 = bI HP := (gd_f (by decide)).trans ehp
  have hr1 : HP → WFr r := fun z => (hr z).1
  by_cases hP : HP
  · have e0 := (hr hP).1.1
    refine s_aload_n 1 dX12_seen_0 rfl rfl ?_
    refine s_callV0 (M' := M_X12_good) (as := []) 4 dX12_seen_1 rfl cw_X12_190 rfl rfl sh_138 rfl (by decide) (Nat.le_of_ble_eq_true rfl) (Nat.le_of_ble_eq_true rfl) (Nat.le_of_ble_eq_true rfl) (Nat.le_of_ble_eq_true rfl) ⟨rfl, rfl, rfl⟩ ?_
    refine c_X12_good ?_
    refine s_aload_n 5 dX12_seen_4 rfl rfl ?_
    refine s_iload_n 6 dX12_seen_5 rfl rfl ?_
    refine s_callV0 (M' := M_X12_isOn) (as := [_]) 9 dX12_seen_6 rfl cw_X12_309 rfl rfl sh_138 rfl (by decide) (Nat.le_of_ble_eq_true rfl) (Nat.le_of_ble_eq_true rfl) (Nat.le_of_ble_eq_true rfl) (Nat.le_of_ble_eq_true rfl) ⟨rfl, rfl, rfl⟩ ?_
    refine c_X12_isOn hT er1 ehp1 hr1 (by omega) ?_
    refine s_ifb_ne 18 12 dX12_seen_9 rfl rfl (fun h_9 => ?_) (fun h_9 => ?_)
    · skip
      refine s_aload_n 19 dX12_seen_18 rfl rfl ?_
      refine s_aload_n 20 dX12_seen_19 rfl rfl ?_
      refine s_getR 23 dX12_seen_20 rfl fl_X12_26 (fun _ _ _ _ => rfl) (T_X12_st hT) sh_138 (Nat.le_of_ble_eq_true rfl) ?_
      refine s_callV0 (M' := M_X12_layTime) (as := [_]) 26 dX12_seen_23 rfl cw_X12_305 rfl rfl sh_138 rfl (by decide) (Nat.le_of_ble_eq_true rfl) (Nat.le_of_ble_eq_true rfl) (Nat.le_of_ble_eq_true rfl) (Nat.le_of_ble_eq_true rfl) ⟨rfl, rfl, rfl⟩ ?_
      refine c_X12_layTime hT er1 (hr hP).1 rfl sh_143 (by decide) (by decide) (by decide) es1 (hr hP).p (fun I1 hL => ?_)
      have hE : Eqo MS (gd I 0) I1 := hL.1.mo (by decide)
      have hC : HP ∧ 0 ≤ i ∧ i < r 7 := by assumption
      refine s_iload_n 27 dX12_seen_26 rfl rfl ?_
      refine s_ifb_eq 39 30 dX12_seen_27 rfl rfl (fun h_27 => ?_) (fun h_27 => ?_)
      · skip
        refine s_aload_n 40 dX12_seen_39 rfl rfl ?_
        refine s_getR 43 dX12_seen_40 rfl fl_X12_47 (fun _ _ _ _ => rfl) (T_X12_begin hT) sh_138 (Nat.le_of_ble_eq_true rfl) ?_
        refine s_iload_n 44 dX12_seen_43 rfl rfl ?_
        refine s_iald 45 dX12_seen_44 rfl sh_150 (Nat.le_of_ble_eq_true rfl) (by omega) (by omega) (fun r_44 => ?_)
        rw [(hL.2.2.1 i hC.2.1 hC.2.2).1] at r_44 ⊢
        refine s_iret dX12_seen_45 rfl rfl ?_
        first | exact hno (by assumption) | (have q := hye hC I1 hE; first | (rw [pick_t (P := P) (by assumption)] at q; exact q) | (rw [pick_f (P := P) (by assumption)] at q; exact q))
      refine s_aload_n 31 dX12_seen_30 rfl rfl ?_
      refine s_getR 34 dX12_seen_31 rfl fl_X12_50 (fun _ _ _ _ => rfl) (T_X12_close hT) sh_138 (Nat.le_of_ble_eq_true rfl) ?_
      refine s_iload_n 35 dX12_seen_34 rfl rfl ?_
      refine s_iald 36 dX12_seen_35 rfl sh_151 (Nat.le_of_ble_eq_true rfl) (by omega) (by omega) (fun r_35 => ?_)
      rw [(hL.2.2.1 i hC.2.1 hC.2.2).2] at r_35 ⊢
      refine s_goto 45 dX12_seen_36 rfl ?_
      refine s_iret dX12_seen_45 rfl rfl ?_
      first | exact hno (by assumption) | (have q := hye hC I1 hE; first | (rw [pick_t (P := P) (by assumption)] at q; exact q) | (rw [pick_f (P := P) (by assumption)] at q; exact q))
    refine s_aload_n 13 dX12_seen_12 rfl rfl ?_
    refine s_iconst 14 dX12_seen_13 rfl ?_
    refine s_callV0 (M' := M_X12_no) (as := [_]) 17 dX12_seen_14 rfl cw_X12_193 rfl rfl sh_138 rfl (by decide) (Nat.le_of_ble_eq_true rfl) (Nat.le_of_ble_eq_true rfl) (Nat.le_of_ble_eq_true rfl) (Nat.le_of_ble_eq_true rfl) ⟨rfl, rfl, rfl⟩ ?_
    refine c_X12_no (by decide) ?_
    first | rw [show up (up (up I 138 0 0) 138 11 0) 138 11 1 = gd I 1 from gd_no] | rw [show up (up (up I 138 0 0) 138 11 0) 138 11 2 = gd I 2 from gd_no]
    refine s_iret dX12_seen_17 rfl rfl ?_
    first | exact hno (by assumption) | (have q := hye hC I1 hE; first | (rw [pick_t (P := P) (by assumption)] at q; exact q) | (rw [pick_f (P := P) (by assumption)] at q; exact q))
  · skip
    refine s_aload_n 1 dX12_seen_0 rfl rfl ?_
    refine s_callV0 (M' := M_X12_good) (as := []) 4 dX12_seen_1 rfl cw_X12_190 rfl rfl sh_138 rfl (by decide) (Nat.le_of_ble_eq_true rfl) (Nat.le_of_ble_eq_true rfl) (Nat.le_of_ble_eq_true rfl) (Nat.le_of_ble_eq_true rfl) ⟨rfl, rfl, rfl⟩ ?_
    refine c_X12_good ?_
    refine s_aload_n 5 dX12_seen_4 rfl rfl ?_
    refine s_iload_n 6 dX12_seen_5 rfl rfl ?_
    refine s_callV0 (M' := M_X12_isOn) (as := [_]) 9 dX12_seen_6 rfl cw_X12_309 rfl rfl sh_138 rfl (by decide) (Nat.le_of_ble_eq_true rfl) (Nat.le_of_ble_eq_true rfl) (Nat.le_of_ble_eq_true rfl) (Nat.le_of_ble_eq_true rfl) ⟨rfl, rfl, rfl⟩ ?_
    refine c_X12_isOn hT er1 ehp1 hr1 (by omega) ?_
    refine s_ifb_ne 18 12 dX12_seen_9 rfl rfl (fun h_9 => by exfalso; exact hP (And.left (by assumption))) (fun h_9 => ?_)
    refine s_aload_n 13 dX12_seen_12 rfl rfl ?_
    refine s_iconst 14 dX12_seen_13 rfl ?_
    refine s_callV0 (M' := M_X12_no) (as := [_]) 17 dX12_seen_14 rfl cw_X12_193 rfl rfl sh_138 rfl (by decide) (Nat.le_of_ble_eq_true rfl) (Nat.le_of_ble_eq_true rfl) (Nat.le_of_ble_eq_true rfl) (Nat.le_of_ble_eq_true rfl) ⟨rfl, rfl, rfl⟩ ?_
    refine c_X12_no (by decide) ?_
    first | rw [show up (up (up I 138 0 0) 138 11 0) 138 11 1 = gd I 1 from gd_no] | rw [show up (up (up I 138 0 0) 138 11 0) 138 11 2 = gd I 2 from gd_no]
    refine s_iret dX12_seen_17 rfl rfl ?_
    exact hno (by assumption)
set_option maxHeartbeats 4000000 in
theorem c_X12_change {E : ET} {I : MI} {L : ML} {R : MR} {Q : Option AV → MI → ML → MR → Prop} {r s : F1} {a : List Int} {HP : Prop} {i j : Int} (hT : Topo R) (er : I 141 = r) (es : I 143 = s) (erd : I 138 30 = -1) (ehp : I 138 14 = bI HP) (hr : HP → SOk r s a) (hi : -2147483648 ≤ i ∧ i ≤ 2147483647) (hj : -2147483648 ≤ j ∧ j ≤ 2147483647) (h : ∀ I', Eqo MS (gd I (pick ((HP ∧ 0 ≤ i ∧ i < r 4) ∧ (HP ∧ 0 ≤ j ∧ j < r 4)) 0 1)) I' → Q (some (vi (pick ((HP ∧ 0 ≤ i ∧ i < r 4) ∧ (HP ∧ 0 ≤ j ∧ j < r 4)) (chF r (-1) i j) (-1)))) I' L R) : CT E M_X12_change 161 yX12_change [(vr (138)), (vi (i)), (vi (j))] I L R Q := by
  refine CT_of rfl rfl (fun h => by cases h) (Nat.le_of_ble_eq_true rfl) (fun X => ?_)
  show V X _ z0 0 [some (vr (138)), some (vi (i)), some (vi (j))] [] I L R _
  have hno := (pick_spl h).1
  have hye := (pick_spl h).2
  have er1 : up (up I 138 0 0) 138 11 0 141 = r := (gd_n (by decide)).trans er
  have es1 : up (up I 138 0 0) 138 11 0 143 = s := (gd_n (by decide)).trans es
  have erd1 : up (up I 138 0 0) 138 11 0 138 30 = -1 := (gd_f (by decide)).trans erd
  have ehp1 : up (up I 138 0 0) 138 11 0 138 14 = bI HP := (gd_f (by decide)).trans ehp
  have hr1 : HP → WFr r := fun z => (hr z).1
  refine s_aload_n 1 dX12_change_0 rfl rfl ?_
  refine s_callV0 (M' := M_X12_good) (as := []) 4 dX12_change_1 rfl cw_X12_190 rfl rfl sh_138 rfl (by decide) (Nat.le_of_ble_eq_true rfl) (Nat.le_of_ble_eq_true rfl) (Nat.le_of_ble_eq_true rfl) (Nat.le_of_ble_eq_true rfl) ⟨rfl, rfl, rfl⟩ ?_
  refine c_X12_good ?_
  refine s_aload_n 5 dX12_change_4 rfl rfl ?_
  refine s_iload_n 6 dX12_change_5 rfl rfl ?_
  refine s_callV0 (M' := M_X12_isPart) (as := [_]) 9 dX12_change_6 rfl cw_X12_318 rfl rfl sh_138 rfl (by decide) (Nat.le_of_ble_eq_true rfl) (Nat.le_of_ble_eq_true rfl) (Nat.le_of_ble_eq_true rfl) (Nat.le_of_ble_eq_true rfl) ⟨rfl, rfl, rfl⟩ ?_
  refine c_X12_isPart hT er1 ehp1 hr1 (by omega) ?_
  refine s_ifb_eq 29 12 dX12_change_9 rfl rfl (fun h_9 => ?_) (fun h_9 => ?_)
  · skip
    refine s_aload_n 30 dX12_change_29 rfl rfl ?_
    refine s_iconst 31 dX12_change_30 rfl ?_
    refine s_callV0 (M' := M_X12_no) (as := [_]) 34 dX12_change_31 rfl cw_X12_193 rfl rfl sh_138 rfl (by decide) (Nat.le_of_ble_eq_true rfl) (Nat.le_of_ble_eq_true rfl) (Nat.le_of_ble_eq_true rfl) (Nat.le_of_ble_eq_true rfl) ⟨rfl, rfl, rfl⟩ ?_
    refine c_X12_no (by decide) ?_
    first | rw [show up (up (up I 138 0 0) 138 11 0) 138 11 1 = gd I 1 from gd_no] | rw [show up (up (up I 138 0 0) 138 11 0) 138 11 2 = gd I 2 from gd_no]
    refine s_iret dX12_change_34 rfl rfl ?_
    first | exact hno (fun z => absurd z.1 (by assumption)) | exact hno (fun z => absurd z.2 (by assumption)) | exact hye ⟨by assumption, by assumption⟩ _ Eqo.rf
  refine s_aload_n 13 dX12_change_12 rfl rfl ?_
  refine s_iload_n 14 dX12_change_13 rfl rfl ?_
  refine s_callV0 (M' := M_X12_isPart) (as := [_]) 17 dX12_change_14 rfl cw_X12_318 rfl rfl sh_138 rfl (by decide) (Nat.le_of_ble_eq_true rfl) (Nat.le_of_ble_eq_true rfl) (Nat.le_of_ble_eq_true rfl) (Nat.le_of_ble_eq_true rfl) ⟨rfl, rfl, rfl⟩ ?_
  refine c_X12_isPart hT er1 ehp1 hr1 (by omega) ?_
  refine s_ifb_eq 29 20 dX12_change_17 rfl rfl (fun h_17 => ?_) (fun h_17 => ?_)
  · skip
    refine s_aload_n 30 dX12_change_29 rfl rfl ?_
    refine s_iconst 31 dX12_change_30 rfl ?_
    refine s_callV0 (M' := M_X12_no) (as := [_]) 34 dX12_change_31 rfl cw_X12_193 rfl rfl sh_138 rfl (by decide) (Nat.le_of_ble_eq_true rfl) (Nat.le_of_ble_eq_true rfl) (Nat.le_of_ble_eq_true rfl) (Nat.le_of_ble_eq_true rfl) ⟨rfl, rfl, rfl⟩ ?_
    refine c_X12_no (by decide) ?_
    first | rw [show up (up (up I 138 0 0) 138 11 0) 138 11 1 = gd I 1 from gd_no] | rw [show up (up (up I 138 0 0) 138 11 0) 138 11 2 = gd I 2 from gd_no]
    refine s_iret dX12_change_34 rfl rfl ?_
    first | exact hno (fun z => absurd z.1 (by assumption)) | exact hno (fun z => absurd z.2 (by assumption)) | exact hye ⟨by assumption, by assumption⟩ _ Eqo.rf
  refine s_aload_n 21 dX12_change_20 rfl rfl ?_
  refine s_iload_n 22 dX12_change_21 rfl rfl ?_
  refine s_iload_n 23 dX12_change_22 rfl rfl ?_
  refine s_callV0 (M' := M_X12_changeOf) (as := [_, _]) 26 dX12_change_23 rfl cw_X12_315 rfl rfl sh_138 rfl (by decide) (Nat.le_of_ble_eq_true rfl) (Nat.le_of_ble_eq_true rfl) (Nat.le_of_ble_eq_true rfl) (Nat.le_of_ble_eq_true rfl) ⟨rfl, rfl, rfl⟩ ?_
  have e0 := (hr1 (And.left h_9)).1
  refine c_X12_changeOf hT er1 erd1 (hr1 (And.left h_9)) (by omega) (by omega) ?_
  refine s_goto 34 dX12_change_26 rfl ?_
  refine s_iret dX12_change_34 rfl rfl ?_
  first | exact hno (fun z => absurd z.1 (by assumption)) | exact hno (fun z => absurd z.2 (by assumption)) | exact hye ⟨by assumption, by assumption⟩ _ Eqo.rf
set_option maxHeartbeats 4000000 in
theorem c_X12_need {E : ET} {I : MI} {L : ML} {R : MR} {Q : Option AV → MI → ML → MR → Prop} {r s : F1} {a : List Int} {HP : Prop} {i j : Int} (hT : Topo R) (er : I 141 = r) (es : I 143 = s) (erd : I 138 30 = -1) (ehp : I 138 14 = bI HP) (hr : HP → SOk r s a) (hi : -2147483648 ≤ i ∧ i ≤ 2147483647) (hj : -2147483648 ≤ j ∧ j ≤ 2147483647) (h : ∀ I', Eqo MS (gd I (pick ((HP ∧ 0 ≤ i ∧ i < r 7) ∧ (HP ∧ 0 ≤ j ∧ j < r 7)) 0 1)) I' → Q (some (vi (pick ((HP ∧ 0 ≤ i ∧ i < r 7) ∧ (HP ∧ 0 ≤ j ∧ j < r 7)) (neF r (-1) i j) (-1)))) I' L R) : CT E M_X12_need 161 yX12_need [(vr (138)), (vi (i)), (vi (j))] I L R Q := by
  refine CT_of rfl rfl (fun h => by cases h) (Nat.le_of_ble_eq_true rfl) (fun X => ?_)
  show V X _ z0 0 [some (vr (138)), some (vi (i)), some (vi (j))] [] I L R _
  have hno := (pick_spl h).1
  have hye := (pick_spl h).2
  have er1 : up (up I 138 0 0) 138 11 0 141 = r := (gd_n (by decide)).trans er
  have es1 : up (up I 138 0 0) 138 11 0 143 = s := (gd_n (by decide)).trans es
  have erd1 : up (up I 138 0 0) 138 11 0 138 30 = -1 := (gd_f (by decide)).trans erd
  have ehp1 : up (up I 138 0 0) 138 11 0 138 14 = bI HP := (gd_f (by decide)).trans ehp
  have hr1 : HP → WFr r := fun z => (hr z).1
  refine s_aload_n 1 dX12_need_0 rfl rfl ?_
  refine s_callV0 (M' := M_X12_good) (as := []) 4 dX12_need_1 rfl cw_X12_190 rfl rfl sh_138 rfl (by decide) (Nat.le_of_ble_eq_true rfl) (Nat.le_of_ble_eq_true rfl) (Nat.le_of_ble_eq_true rfl) (Nat.le_of_ble_eq_true rfl) ⟨rfl, rfl, rfl⟩ ?_
  refine c_X12_good ?_
  refine s_aload_n 5 dX12_need_4 rfl rfl ?_
  refine s_iload_n 6 dX12_need_5 rfl rfl ?_
  refine s_callV0 (M' := M_X12_isOn) (as := [_]) 9 dX12_need_6 rfl cw_X12_309 rfl rfl sh_138 rfl (by decide) (Nat.le_of_ble_eq_true rfl) (Nat.le_of_ble_eq_true rfl) (Nat.le_of_ble_eq_true rfl) (Nat.le_of_ble_eq_true rfl) ⟨rfl, rfl, rfl⟩ ?_
  refine c_X12_isOn hT er1 ehp1 hr1 (by omega) ?_
  refine s_ifb_eq 29 12 dX12_need_9 rfl rfl (fun h_9 => ?_) (fun h_9 => ?_)
  · skip
    refine s_aload_n 30 dX12_need_29 rfl rfl ?_
    refine s_iconst 31 dX12_need_30 rfl ?_
    refine s_callV0 (M' := M_X12_no) (as := [_]) 34 dX12_need_31 rfl cw_X12_193 rfl rfl sh_138 rfl (by decide) (Nat.le_of_ble_eq_true rfl) (Nat.le_of_ble_eq_true rfl) (Nat.le_of_ble_eq_true rfl) (Nat.le_of_ble_eq_true rfl) ⟨rfl, rfl, rfl⟩ ?_
    refine c_X12_no (by decide) ?_
    first | rw [show up (up (up I 138 0 0) 138 11 0) 138 11 1 = gd I 1 from gd_no] | rw [show up (up (up I 138 0 0) 138 11 0) 138 11 2 = gd I 2 from gd_no]
    refine s_iret dX12_need_34 rfl rfl ?_
    first | exact hno (fun z => absurd z.1 (by assumption)) | exact hno (fun z => absurd z.2 (by assumption)) | exact hye ⟨by assumption, by assumption⟩ _ Eqo.rf
  refine s_aload_n 13 dX12_need_12 rfl rfl ?_
  refine s_iload_n 14 dX12_need_13 rfl rfl ?_
  refine s_callV0 (M' := M_X12_isOn) (as := [_]) 17 dX12_need_14 rfl cw_X12_309 rfl rfl sh_138 rfl (by decide) (Nat.le_of_ble_eq_true rfl) (Nat.le_of_ble_eq_true rfl) (Nat.le_of_ble_eq_true rfl) (Nat.le_of_ble_eq_true rfl) ⟨rfl, rfl, rfl⟩ ?_
  refine c_X12_isOn hT er1 ehp1 hr1 (by omega) ?_
  refine s_ifb_eq 29 20 dX12_need_17 rfl rfl (fun h_17 => ?_) (fun h_17 => ?_)
  · skip
    refine s_aload_n 30 dX12_need_29 rfl rfl ?_
    refine s_iconst 31 dX12_need_30 rfl ?_
    refine s_callV0 (M' := M_X12_no) (as := [_]) 34 dX12_need_31 rfl cw_X12_193 rfl rfl sh_138 rfl (by decide) (Nat.le_of_ble_eq_true rfl) (Nat.le_of_ble_eq_true rfl) (Nat.le_of_ble_eq_true rfl) (Nat.le_of_ble_eq_true rfl) ⟨rfl, rfl, rfl⟩ ?_
    refine c_X12_no (by decide) ?_
    first | rw [show up (up (up I 138 0 0) 138 11 0) 138 11 1 = gd I 1 from gd_no] | rw [show up (up (up I 138 0 0) 138 11 0) 138 11 2 = gd I 2 from gd_no]
    refine s_iret dX12_need_34 rfl rfl ?_
    first | exact hno (fun z => absurd z.1 (by assumption)) | exact hno (fun z => absurd z.2 (by assumption)) | exact hye ⟨by assumption, by assumption⟩ _ Eqo.rf
  refine s_aload_n 21 dX12_need_20 rfl rfl ?_
  refine s_iload_n 22 dX12_need_21 rfl rfl ?_
  refine s_iload_n 23 dX12_need_22 rfl rfl ?_
  refine s_callV0 (M' := M_X12_needOf) (as := [_, _]) 26 dX12_need_23 rfl cw_X12_321 rfl rfl sh_138 rfl (by decide) (Nat.le_of_ble_eq_true rfl) (Nat.le_of_ble_eq_true rfl) (Nat.le_of_ble_eq_true rfl) (Nat.le_of_ble_eq_true rfl) ⟨rfl, rfl, rfl⟩ ?_
  refine c_X12_needOf hT er1 erd1 (hr1 (And.left h_9)) (by omega) (by omega) ?_
  refine s_goto 34 dX12_need_26 rfl ?_
  refine s_iret dX12_need_34 rfl rfl ?_
  first | exact hno (fun z => absurd z.1 (by assumption)) | exact hno (fun z => absurd z.2 (by assumption)) | exact hye ⟨by assumption, by assumption⟩ _ Eqo.rf
set_option maxHeartbeats 4000000 in
theorem c_X12_meet {E : ET} {I : MI} {L : ML} {R : MR} {Q : Option AV → MI → ML → MR → Prop} {r s : F1} {a : List Int} {HP : Prop} {i j : Int} (hT : Topo R) (er : I 141 = r) (es : I 143 = s) (erd : I 138 30 = -1) (ehp : I 138 14 = bI HP) (hr : HP → SOk r s a) (hi : -2147483648 ≤ i ∧ i ≤ 2147483647) (hj : -2147483648 ≤ j ∧ j ≤ 2147483647) (h : ∀ I', Eqo MS (gd I (pick ((HP ∧ 0 ≤ i ∧ i < r 7) ∧ (HP ∧ 0 ≤ j ∧ j < r 7)) 0 1)) I' → Q (some (vi (pick ((HP ∧ 0 ≤ i ∧ i < r 7) ∧ (HP ∧ 0 ≤ j ∧ j < r 7)) (bI (meetP (bgF r (r 2) s) (clF r (r 2) s) i j)) (-1)))) I' L R) : CT E M_X12_meet 161 yX12_meet [(vr (138)), (vi (i)), (vi (j))] I L R Q := by
  refine CT_of rfl rfl (fun h => by cases h) (Nat.le_of_ble_eq_true rfl) (fun X => ?_)
  show V X _ z0 0 [some (vr (138)), some (vi (i)), some (vi (j))] [] I L R _
  have hno := (pick_spl h).1
  have hye := (pick_spl h).2
  have er1 : up (up I 138 0 0) 138 11 0 141 = r := (gd_n (by decide)).trans er
  have es1 : up (up I 138 0 0) 138 11 0 143 = s := (gd_n (by decide)).trans es
  have erd1 : up (up I 138 0 0) 138 11 0 138 30 = -1 := (gd_f (by decide)).trans erd
  have ehp1 : up (up I 138 0 0) 138 11 0 138 14 = bI HP := (gd_f (by decide)).trans ehp
  have hr1 : HP → WFr r := fun z => (hr z).1
  refine s_aload_n 1 dX12_meet_0 rfl rfl ?_
  refine s_callV0 (M' := M_X12_good) (as := []) 4 dX12_meet_1 rfl cw_X12_190 rfl rfl sh_138 rfl (by decide) (Nat.le_of_ble_eq_true rfl) (Nat.le_of_ble_eq_true rfl) (Nat.le_of_ble_eq_true rfl) (Nat.le_of_ble_eq_true rfl) ⟨rfl, rfl, rfl⟩ ?_
  refine c_X12_good ?_
  refine s_aload_n 5 dX12_meet_4 rfl rfl ?_
  refine s_iload_n 6 dX12_meet_5 rfl rfl ?_
  refine s_callV0 (M' := M_X12_isOn) (as := [_]) 9 dX12_meet_6 rfl cw_X12_309 rfl rfl sh_138 rfl (by decide) (Nat.le_of_ble_eq_true rfl) (Nat.le_of_ble_eq_true rfl) (Nat.le_of_ble_eq_true rfl) (Nat.le_of_ble_eq_true rfl) ⟨rfl, rfl, rfl⟩ ?_
  refine c_X12_isOn hT er1 ehp1 hr1 (by omega) ?_
  refine s_ifb_eq 20 12 dX12_meet_9 rfl rfl (fun h_9 => ?_) (fun h_9 => ?_)
  · skip
    refine s_aload_n 21 dX12_meet_20 rfl rfl ?_
    refine s_iconst 22 dX12_meet_21 rfl ?_
    refine s_callV0 (M' := M_X12_no) (as := [_]) 25 dX12_meet_22 rfl cw_X12_193 rfl rfl sh_138 rfl (by decide) (Nat.le_of_ble_eq_true rfl) (Nat.le_of_ble_eq_true rfl) (Nat.le_of_ble_eq_true rfl) (Nat.le_of_ble_eq_true rfl) ⟨rfl, rfl, rfl⟩ ?_
    refine c_X12_no (by decide) ?_
    first | rw [show up (up (up I 138 0 0) 138 11 0) 138 11 1 = gd I 1 from gd_no] | rw [show up (up (up I 138 0 0) 138 11 0) 138 11 2 = gd I 2 from gd_no]
    refine s_iret dX12_meet_25 rfl rfl ?_
    first | exact hno (fun z => absurd z.1 (by assumption)) | exact hno (fun z => absurd z.2 (by assumption))
  refine s_aload_n 13 dX12_meet_12 rfl rfl ?_
  refine s_iload_n 14 dX12_meet_13 rfl rfl ?_
  refine s_callV0 (M' := M_X12_isOn) (as := [_]) 17 dX12_meet_14 rfl cw_X12_309 rfl rfl sh_138 rfl (by decide) (Nat.le_of_ble_eq_true rfl) (Nat.le_of_ble_eq_true rfl) (Nat.le_of_ble_eq_true rfl) (Nat.le_of_ble_eq_true rfl) ⟨rfl, rfl, rfl⟩ ?_
  refine c_X12_isOn hT er1 ehp1 hr1 (by omega) ?_
  refine s_ifb_ne 26 20 dX12_meet_17 rfl rfl (fun h_17 => ?_) (fun h_17 => ?_)
  · skip
    refine s_aload_n 27 dX12_meet_26 rfl rfl ?_
    refine s_aload_n 28 dX12_meet_27 rfl rfl ?_
    refine s_getR 31 dX12_meet_28 rfl fl_X12_26 (fun _ _ _ _ => rfl) (T_X12_st hT) sh_138 (Nat.le_of_ble_eq_true rfl) ?_
    refine s_callV0 (M' := M_X12_layTime) (as := [_]) 34 dX12_meet_31 rfl cw_X12_305 rfl rfl sh_138 rfl (by decide) (Nat.le_of_ble_eq_true rfl) (Nat.le_of_ble_eq_true rfl) (Nat.le_of_ble_eq_true rfl) (Nat.le_of_ble_eq_true rfl) ⟨rfl, rfl, rfl⟩ ?_
    have hC : (HP ∧ 0 ≤ i ∧ i < r 7) ∧ (HP ∧ 0 ≤ j ∧ j < r 7) := ⟨by assumption, by assumption⟩
    have hP := hC.1.1
    have e0 := (hr hP).1.1
    refine c_X12_layTime hT er1 (hr hP).1 rfl sh_143 (by decide) (by decide) (by decide) es1 (hr hP).p (fun I1 hL => ?_)
    have hE : Eqo MS (gd I 0) I1 := hL.1.mo (by decide)
    refine s_aload_n 35 dX12_meet_34 rfl rfl ?_
    refine s_iload_n 36 dX12_meet_35 rfl rfl ?_
    refine s_iload_n 37 dX12_meet_36 rfl rfl ?_
    refine s_callV0 (M' := M_X12_doMeet) (as := [_, _]) 40 dX12_meet_37 rfl cw_X12_324 rfl rfl sh_138 rfl (by decide) (Nat.le_of_ble_eq_true rfl) (Nat.le_of_ble_eq_true rfl) (Nat.le_of_ble_eq_true rfl) (Nat.le_of_ble_eq_true rfl) ⟨rfl, rfl, rfl⟩ ?_
    refine c_X12_doMeet hT rfl rfl (by omega) (by omega) ?_
    rw [(hL.2.2.1 i hC.1.2.1 hC.1.2.2).1, (hL.2.2.1 i hC.1.2.1 hC.1.2.2).2, (hL.2.2.1 j hC.2.2.1 hC.2.2.2).1, (hL.2.2.1 j hC.2.2.1 hC.2.2.2).2]
    refine s_ifb_eq 47 43 dX12_meet_40 rfl rfl (fun h_40 => ?_) (fun h_40 => ?_)
    · skip
      refine s_iconst 48 dX12_meet_47 rfl ?_
      refine s_iret dX12_meet_48 rfl rfl ?_
      first | exact ret_t (b := meetP (bgF r (r 2) s) (clF r (r 2) s) i j) (by assumption) (hye hC I1 hE) | exact ret_f (b := meetP (bgF r (r 2) s) (clF r (r 2) s) i j) (by assumption) (hye hC I1 hE)
    refine s_iconst 44 dX12_meet_43 rfl ?_
    refine s_goto 48 dX12_meet_44 rfl ?_
    refine s_iret dX12_meet_48 rfl rfl ?_
    first | exact ret_t (b := meetP (bgF r (r 2) s) (clF r (r 2) s) i j) (by assumption) (hye hC I1 hE) | exact ret_f (b := meetP (bgF r (r 2) s) (clF r (r 2) s) i j) (by assumption) (hye hC I1 hE)
  refine s_aload_n 21 dX12_meet_20 rfl rfl ?_
  refine s_iconst 22 dX12_meet_21 rfl ?_
  refine s_callV0 (M' := M_X12_no) (as := [_]) 25 dX12_meet_22 rfl cw_X12_193 rfl rfl sh_138 rfl (by decide) (Nat.le_of_ble_eq_true rfl) (Nat.le_of_ble_eq_true rfl) (Nat.le_of_ble_eq_true rfl) (Nat.le_of_ble_eq_true rfl) ⟨rfl, rfl, rfl⟩ ?_
  refine c_X12_no (by decide) ?_
  first | rw [show up (up (up I 138 0 0) 138 11 0) 138 11 1 = gd I 1 from gd_no] | rw [show up (up (up I 138 0 0) 138 11 0) 138 11 2 = gd I 2 from gd_no]
  refine s_iret dX12_meet_25 rfl rfl ?_
  first | exact hno (fun z => absurd z.1 (by assumption)) | exact hno (fun z => absurd z.2 (by assumption))
set_option maxHeartbeats 4000000 in
theorem c_X12_lent {E : ET} {I : MI} {L : ML} {R : MR} {Q : Option AV → MI → ML → MR → Prop} {r s : F1} {a : List Int} {HP : Prop} {i : Int} (hT : Topo R) (er : I 141 = r) (es : I 143 = s) (erd : I 138 30 = -1) (ehp : I 138 14 = bI HP) (hr : HP → SOk r s a) (hi : -2147483648 ≤ i ∧ i ≤ 2147483647) (h : ∀ I', Eqo MS (gd I (pick (HP ∧ 0 ≤ i ∧ i < r 4) 0 1)) I' → Q (some (vi (pick (HP ∧ 0 ≤ i ∧ i < r 4) (lentF r (-1) (r 2) s i) (-1)))) I' L R) : CT E M_X12_lent 161 yX12_lent [(vr (138)), (vi (i))] I L R Q := by
  refine CT_of rfl rfl (fun h => by cases h) (Nat.le_of_ble_eq_true rfl) (fun X => ?_)
  show V X _ z0 0 [some (vr (138)), some (vi (i))] [] I L R _
  have hno := (pick_spl h).1
  have hye := (pick_spl h).2
  have er1 : up (up I 138 0 0) 138 11 0 141 = r := (gd_n (by decide)).trans er
  have es1 : up (up I 138 0 0) 138 11 0 143 = s := (gd_n (by decide)).trans es
  have erd1 : up (up I 138 0 0) 138 11 0 138 30 = -1 := (gd_f (by decide)).trans erd
  have ehp1 : up (up I 138 0 0) 138 11 0 138 14 = bI HP := (gd_f (by decide)).trans ehp
  have hr1 : HP → WFr r := fun z => (hr z).1
  refine s_aload_n 1 dX12_lent_0 rfl rfl ?_
  refine s_callV0 (M' := M_X12_good) (as := []) 4 dX12_lent_1 rfl cw_X12_190 rfl rfl sh_138 rfl (by decide) (Nat.le_of_ble_eq_true rfl) (Nat.le_of_ble_eq_true rfl) (Nat.le_of_ble_eq_true rfl) (Nat.le_of_ble_eq_true rfl) ⟨rfl, rfl, rfl⟩ ?_
  refine c_X12_good ?_
  refine s_aload_n 5 dX12_lent_4 rfl rfl ?_
  refine s_iload_n 6 dX12_lent_5 rfl rfl ?_
  refine s_callV0 (M' := M_X12_isPart) (as := [_]) 9 dX12_lent_6 rfl cw_X12_318 rfl rfl sh_138 rfl (by decide) (Nat.le_of_ble_eq_true rfl) (Nat.le_of_ble_eq_true rfl) (Nat.le_of_ble_eq_true rfl) (Nat.le_of_ble_eq_true rfl) ⟨rfl, rfl, rfl⟩ ?_
  refine c_X12_isPart hT er1 ehp1 hr1 (by omega) ?_
  refine s_ifb_eq 20 12 dX12_lent_9 rfl rfl (fun h_9 => ?_) (fun h_9 => ?_)
  · skip
    refine s_aload_n 21 dX12_lent_20 rfl rfl ?_
    refine s_iconst 22 dX12_lent_21 rfl ?_
    refine s_callV0 (M' := M_X12_no) (as := [_]) 25 dX12_lent_22 rfl cw_X12_193 rfl rfl sh_138 rfl (by decide) (Nat.le_of_ble_eq_true rfl) (Nat.le_of_ble_eq_true rfl) (Nat.le_of_ble_eq_true rfl) (Nat.le_of_ble_eq_true rfl) ⟨rfl, rfl, rfl⟩ ?_
    refine c_X12_no (by decide) ?_
    first | rw [show up (up (up I 138 0 0) 138 11 0) 138 11 1 = gd I 1 from gd_no] | rw [show up (up (up I 138 0 0) 138 11 0) 138 11 2 = gd I 2 from gd_no]
    refine s_iret dX12_lent_25 rfl rfl ?_
    first | exact hno (by assumption) | exact hye (by assumption) _ (Eqo.mo (by assumption) (by decide))
  refine s_aload_n 13 dX12_lent_12 rfl rfl ?_
  refine s_iload_n 14 dX12_lent_13 rfl rfl ?_
  refine s_callV0 (M' := M_X12_lentOf) (as := [_]) 17 dX12_lent_14 rfl cw_X12_389 rfl rfl sh_138 rfl (by decide) (Nat.le_of_ble_eq_true rfl) (Nat.le_of_ble_eq_true rfl) (Nat.le_of_ble_eq_true rfl) (Nat.le_of_ble_eq_true rfl) ⟨rfl, rfl, rfl⟩ ?_
  have hP : HP := And.left (by assumption)
  refine c_X12_lentOf hT er1 es1 erd1 (hr hP).1 rfl (hr hP).p (fun I2 k1 k2 => ?_)
  refine s_goto 25 dX12_lent_17 rfl ?_
  refine s_iret dX12_lent_25 rfl rfl ?_
  first | exact hno (by assumption) | exact hye (by assumption) _ (Eqo.mo (by assumption) (by decide))
set_option maxHeartbeats 4000000 in
theorem c_X12_fewest {E : ET} {I : MI} {L : ML} {R : MR} {Q : Option AV → MI → ML → MR → Prop} {r s : F1} {a : List Int} {HP : Prop} (hT : Topo R) (er : I 141 = r) (es : I 143 = s) (erd : I 138 30 = -1) (ehp : I 138 14 = bI HP) (hr : HP → SOk r s a) (h : ∀ I', Eqo MS (gd I (pick HP 0 1)) I' → Q (some (vi (pick HP (fewV (MayP r (-1) (r 2) s (s 12)) (r 4).toNat) (-1)))) I' L R) : CT E M_X12_fewest 161 yX12_fewest [(vr (138))] I L R Q := by
  refine CT_of rfl rfl (fun h => by cases h) (Nat.le_of_ble_eq_true rfl) (fun X => ?_)
  show V X _ z0 0 [some (vr (138))] [] I L R _
  have hno := (pick_spl h).1
  have hye := (pick_spl h).2
  have er1 : up (up I 138 0 0) 138 11 0 141 = r := (gd_n (by decide)).trans er
  have es1 : up (up I 138 0 0) 138 11 0 143 = s := (gd_n (by decide)).trans es
  have erd1 : up (up I 138 0 0) 138 11 0 138 30 = -1 := (gd_f (by decide)).trans erd
  have ehp1 : up (up I 138 0 0) 138 11 0 138 14 = bI HP := (gd_f (by decide)).trans ehp
  have hr1 : HP → WFr r := fun z => (hr z).1
  refine s_aload_n 1 dX12_fewest_0 rfl rfl ?_
  refine s_callV0 (M' := M_X12_good) (as := []) 4 dX12_fewest_1 rfl cw_X12_190 rfl rfl sh_138 rfl (by decide) (Nat.le_of_ble_eq_true rfl) (Nat.le_of_ble_eq_true rfl) (Nat.le_of_ble_eq_true rfl) (Nat.le_of_ble_eq_true rfl) ⟨rfl, rfl, rfl⟩ ?_
  refine c_X12_good ?_
  refine s_aload_n 5 dX12_fewest_4 rfl rfl ?_
  refine s_getI 8 dX12_fewest_5 rfl fl_X12_203 (fun _ _ _ _ => rfl) sh_138 (Nat.le_of_ble_eq_true rfl) (fun r_5 => ?_)
  rw [ehp1]
  refine s_ifb_eq 29 11 dX12_fewest_8 rfl rfl (fun h_8 => ?_) (fun h_8 => ?_)
  · skip
    refine s_aload_n 30 dX12_fewest_29 rfl rfl ?_
    refine s_iconst 31 dX12_fewest_30 rfl ?_
    refine s_callV0 (M' := M_X12_no) (as := [_]) 34 dX12_fewest_31 rfl cw_X12_193 rfl rfl sh_138 rfl (by decide) (Nat.le_of_ble_eq_true rfl) (Nat.le_of_ble_eq_true rfl) (Nat.le_of_ble_eq_true rfl) (Nat.le_of_ble_eq_true rfl) ⟨rfl, rfl, rfl⟩ ?_
    refine c_X12_no (by decide) ?_
    first | rw [show up (up (up I 138 0 0) 138 11 0) 138 11 1 = gd I 1 from gd_no] | rw [show up (up (up I 138 0 0) 138 11 0) 138 11 2 = gd I 2 from gd_no]
    refine s_iret dX12_fewest_34 rfl rfl ?_
    first | exact hno (by assumption) | exact hye (by assumption) _ (Eqo.mo (by assumption) (by decide))
  refine s_aload_n 12 dX12_fewest_11 rfl rfl ?_
  refine s_aload_n 13 dX12_fewest_12 rfl rfl ?_
  refine s_getR 16 dX12_fewest_13 rfl fl_X12_26 (fun _ _ _ _ => rfl) (T_X12_st hT) sh_138 (Nat.le_of_ble_eq_true rfl) ?_
  refine s_aload_n 17 dX12_fewest_16 rfl rfl ?_
  refine s_getR 20 dX12_fewest_17 rfl fl_X12_26 (fun _ _ _ _ => rfl) (T_X12_st hT) sh_138 (Nat.le_of_ble_eq_true rfl) ?_
  refine s_bipush 22 dX12_fewest_20 rfl (by decide) ?_
  refine s_iald 23 dX12_fewest_22 rfl sh_143 (Nat.le_of_ble_eq_true rfl) (by omega) (by omega) (fun r_22 => ?_)
  rw [es1] at r_22 ⊢
  refine s_callV0 (M' := M_X12_fewestBy) (as := [_, _]) 26 dX12_fewest_23 rfl cw_X12_372 rfl rfl sh_138 rfl (by decide) (Nat.le_of_ble_eq_true rfl) (Nat.le_of_ble_eq_true rfl) (Nat.le_of_ble_eq_true rfl) (Nat.le_of_ble_eq_true rfl) ⟨rfl, rfl, rfl⟩ ?_
  have hP : HP := by assumption
  refine c_X12_fewestBy2 hT er1 erd1 (hr hP).1 rfl sh_143 (by decide) (by decide) (by decide) es1 (hr hP).p (fun I2 k1 k2 => ?_)
  refine s_goto 34 dX12_fewest_26 rfl ?_
  refine s_iret dX12_fewest_34 rfl rfl ?_
  first | exact hno (by assumption) | exact hye (by assumption) _ (Eqo.mo (by assumption) (by decide))
