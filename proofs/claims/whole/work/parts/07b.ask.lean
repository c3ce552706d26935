/-! what the class answers, 1 -/
theorem c_spl {C : Prop} {x y : Int} {I : MI} {L : ML} {R : MR} {Q : QT} {m : Int} {bt : F1} {n ft pl w : Int} {HP : Prop} {r s : F1} {a : List Int} {U D K : List (List Int)} {P P' : Nat} (hC : CV I L R m bt n ft pl w HP r s a U D K P P')
    (h : ∀ I', Hi I I' → CV I' L R (m + 8) bt n ft pl (pick C 0 1) HP r s a U D K P P' → Q (some (vi (pick C x y))) I' L R) : (¬ C → Q (some (vi y)) (up I 0 10 1) L R) ∧ (C → ∀ I' m', m' ≤ m + 8 → Hi I I' → CV I' L R m' bt n ft pl w HP r s a U D K P P' → Q (some (vi x)) (up I' 0 10 0) L R) := by
  constructor
  · intro hc
    rw [pick_f hc, pick_f hc] at h
    exact h _ (Hi.rf.st (by decide)) ((hC.mo (by omega)).rf (by decide))
  · intro hc I' m' h1 h2 h3
    rw [pick_t hc, pick_t hc] at h
    exact h _ (h2.st (by decide)) ((h3.mo h1).rf (by decide))
theorem CV.gd {I I' : MI} {L : ML} {R : MR} {m : Int} {bt : F1} {n ft pl w : Int} {HP : Prop} {r s : F1} {a : List Int} {U D K : List (List Int)} {P P' : Nat} (h : CV I L R m bt n ft pl w HP r s a U D K P P') (hh : HP) (g : SetN I 85 r (-1) (I 80 0) (r 2) s (s 12)) (e : Eqo [86] I I') (k : GW3 85 P r (-1) (r 2) s (s 12) I') : CV I' L R m bt n ft pl w HP r s a U D K P P' ∧ SetN I' 85 r (-1) (I' 80 0) (r 2) s (s 12) := by
  have bd := h.bd
  have hP := h.1.1
  have hp : P = 3 ∨ P = 39 := hP
  obtain ⟨hs, hw, hN⟩ := h.2.2.2.2.2.2.1 hh
  have e0 := hs.1.1
  have s2 : SetN I' 85 r (-1) (I 80 0) (r 2) s (s 12) := g.of e k
  have e80 : I' 80 = I 80 := e 80 (by decide)
  have oth : ∀ c, c ≠ 86 → I' c = I c := fun c hc => e c (by simpa using hc)
  refine ⟨h.ng (fun c hc => oth c (by omega)) ?_ (fun _ => ⟨hN.1.c (oth P (by omega)) (oth (P + 35) (by omega)), s2.nt h.2.2.2.1.1 hs.p (by omega), hN.2.2.1.eq (oth 85 (by decide)) (oth 107 (by decide)) (oth 109 (by decide)), hN.2.2.2.1.eq (by omega) (fun c x y => oth c (by omega)), ?_, fun i x y => by rw [oth 137 (by decide)]; exact hN.2.2.2.2.2.1 i x y, hN.2.2.2.2.2.2.c (oth 136 (by decide)) (fun _ _ _ => Iff.rfl)⟩), by rw [e80]; exact s2⟩
  · have c9 := h.2.2.2.2.2.1
    unfold CvS at *
    rw [oth 85 (by decide), oth 107 (by decide)]; exact c9
  · have b5 := hN.2.2.2.2.1
    unfold BaI at *
    rw [oth 111 (by decide)]; exact b5
theorem Hi.e86 {I I' : MI} (e : Eqo [86] I I') : Hi I I' := fun c hc => e c (by simp; omega)
theorem bit_bI (S k : Int) : iand (ishr S k) 1 = bI (hasI S k) := by
  by_cases z : hasI S k
  · rw [bI_t z]; exact z
  · rw [bI_f z]
    have z' : ¬ iand (ishr S k) 1 = 1 := z
    rcases bit01 S k with e | e
    · exact e
    · exact absurd e z'
/-- the APPEARANCES of a player -/
noncomputable def plS (r s : F1) (p : Int) : Int := iand (onsS r (setOf (fun q => s (5 + q) = p) (r 4).toNat)) (ixor (s 12) (-1))
theorem has_plS {r s : F1} {p k : Int} (hr : WFr r) (hk : 0 ≤ k ∧ k < 32) : hasI (plS r s p) k ↔ k < r 7 ∧ Ons r s p k := by
  have e0 := hr.1
  unfold plS
  rw [has_andn hk, has_onsS (by omega) hk]
  unfold Ons
  by_cases z : k < r 7
  · have wk := hr.2.2.2.1 k hk.1 z
    rw [has_setOf (by omega) ⟨wk.1, by omega⟩, show (((r 4).toNat : Nat) : Int) = r 4 by omega]
    exact ⟨fun y => ⟨z, y.1.2.2, y.2⟩, fun y => ⟨⟨z, wk.2.1, y.2.1⟩, y.2.2⟩⟩
  · exact ⟨fun y => absurd y.1.1 z, fun y => absurd y.1 z⟩
theorem plS_hi {r s : F1} {p : Int} (hr : WFr r) : ∀ k, r 7 ≤ k → k < 32 → ¬ hasI (plS r s p) k := fun k k1 k2 z => by
  have := hr.1
  have := ((has_plS hr ⟨by omega, k2⟩).mp z).1
  omega
set_option maxHeartbeats 4000000 in
theorem c_X11_onsOf {E : ET} {I : MI} {L : ML} {R : MR} {Q : Option AV → MI → ML → MR → Prop} {m : Int} {bt : F1} {n ft pl w : Int} {HP : Prop} {r s : F1} {a : List Int} {U D K : List (List Int)} {P P' : Nat} {p : Int} (hT : Topo R) (hC : CV I L R m bt n ft pl w HP r s a U D K P P') (hh : HP) (hp9 : 0 ≤ p ∧ p < 7) (h : Q (some (vi (plS r s p))) I L R) : CT E M_X11_onsOf 161 yX11_onsOf [(vr (0)), (vi (p))] I L R Q := by
  refine CT_of rfl rfl (fun h => by cases h) (Nat.le_of_ble_eq_true rfl) (fun X => ?_)
  show V X _ z0 0 [some (vr (0)), some (vi (p))] [] I L R _
  have bd := hC.bd
  have hP := hC.1.1
  have t2 := hC.1.2.2.2.1
  have hr := (hC.2.2.2.2.2.2.1 hh).1.1
  have e4 := hC.2.2.1.1.2.2.2.1
  obtain ⟨e80, e81, e82⟩ := hC.2.2.2.1
  refine s_aload_n 1 dX11_onsOf_0 rfl rfl ?_
  refine s_getR 4 dX11_onsOf_1 rfl fl_X11_19 (fun _ _ _ _ => rfl) (by assumption) sh_0 (Nat.le_of_ble_eq_true rfl) ?_
  refine s_aload_n 5 dX11_onsOf_4 rfl rfl ?_
  refine s_getR 8 dX11_onsOf_5 rfl fl_X11_38 (fun _ _ _ _ => rfl) (T_X11_evening hT) sh_0 (Nat.le_of_ble_eq_true rfl) ?_
  refine s_iload_n 9 dX11_onsOf_8 rfl rfl ?_
  refine s_aload_n 10 dX11_onsOf_9 rfl rfl ?_
  refine s_getR 13 dX11_onsOf_10 rfl fl_X11_19 (fun _ _ _ _ => rfl) (by assumption) sh_0 (Nat.le_of_ble_eq_true rfl) ?_
  refine s_getI 16 dX11_onsOf_13 rfl fl_X11_142 (fun _ _ _ _ => rfl) (isP_sh (by assumption)) (isP_lt (by assumption)) (fun r_13 => ?_)
  rw [e4]
  refine s_callV0 (M' := M_X2_partsOf) (as := [_, _]) 19 dX11_onsOf_16 rfl cw_X11_168 rfl rfl sh_80 rfl (by decide) (Nat.le_of_ble_eq_true rfl) (Nat.le_of_ble_eq_true rfl) (Nat.le_of_ble_eq_true rfl) (Nat.le_of_ble_eq_true rfl) ⟨rfl, rfl, rfl⟩ ?_
  refine c_X2_partsOf e81 (by omega) ⟨by omega, by omega⟩ ?_
  refine s_callV0 (M' := M_X5_onsOfParts) (as := [_]) 22 dX11_onsOf_19 rfl cw_X11_172 rfl rfl (isP_sh (by assumption)) rfl (by decide) (isP_lt (by assumption)) (Nat.le_of_ble_eq_true rfl) (Nat.le_of_ble_eq_true rfl) (Nat.le_of_ble_eq_true rfl) ⟨rfl, rfl, rfl⟩ ?_
  refine c_X5_onsOfParts hT hP hr hC.2.2.1 ?_
  refine s_aload_n 23 dX11_onsOf_22 rfl rfl ?_
  refine s_getR 26 dX11_onsOf_23 rfl fl_X11_38 (fun _ _ _ _ => rfl) (T_X11_evening hT) sh_0 (Nat.le_of_ble_eq_true rfl) ?_
  refine s_getI 29 dX11_onsOf_26 rfl fl_X11_161 (fun _ _ _ _ => rfl) sh_80 (Nat.le_of_ble_eq_true rfl) (fun r_26 => ?_)
  rw [e82]
  refine s_iconst 30 dX11_onsOf_29 rfl ?_
  refine s_ixor 31 dX11_onsOf_30 rfl ?_
  refine s_iand 32 dX11_onsOf_31 rfl ?_
  refine s_iret dX11_onsOf_32 rfl rfl ?_
  exact h
set_option maxHeartbeats 4000000 in
theorem c_X11_scene {E : ET} {I : MI} {L : ML} {R : MR} {Q : Option AV → MI → ML → MR → Prop} {m : Int} {bt : F1} {n ft pl w : Int} {HP : Prop} {r s : F1} {a : List Int} {U D K : List (List Int)} {P P' : Nat} {i : Int} (hT : Topo R) (hC : CV I L R m bt n ft pl w HP r s a U D K P P') (hm : 0 ≤ m ∧ m ≤ 900000) (hi : -2147483648 ≤ i ∧ i ≤ 2147483647) (h : ∀ I', Hi I I' → CV I' L R (m + 8) bt n ft pl (pick (HP ∧ 0 ≤ i ∧ i < r 5) 0 1) HP r s a U D K P P' → Q (some (vi (pick (HP ∧ 0 ≤ i ∧ i < r 5) (s i) (-1)))) I' L R) : CT E M_X11_scene 161 yX11_scene [(vr (0)), (vi (i))] I L R Q := by
  refine CT_of rfl rfl (fun h => by cases h) (Nat.le_of_ble_eq_true rfl) (fun X => ?_)
  show V X _ z0 0 [some (vr (0)), some (vi (i))] [] I L R _
  obtain ⟨hn, hy⟩ := c_spl hC h
  have bd := hC.bd
  have hP := hC.1.1
  have t2 := hC.1.2.2.2.1
  have hR := hC.2.2.1
  have hE := hC.2.2.2.1
  refine s_aload_n 1 dX11_scene_0 rfl rfl ?_
  refine s_iload_n 2 dX11_scene_1 rfl rfl ?_
  refine s_callV0 (M' := M_X11_isScene) (as := [_]) 5 dX11_scene_2 rfl cw_X11_178 rfl rfl sh_0 rfl (by decide) (Nat.le_of_ble_eq_true rfl) (Nat.le_of_ble_eq_true rfl) (Nat.le_of_ble_eq_true rfl) (Nat.le_of_ble_eq_true rfl) ⟨rfl, rfl, rfl⟩ ?_
  refine c_X11_isScene hC hi ?_
  refine s_ifb_eq 26 8 dX11_scene_5 rfl rfl (fun h_5 => ?_) (fun h_5 => ?_)
  · skip
    refine s_aload_n 27 dX11_scene_26 rfl rfl ?_
    refine s_iconst 28 dX11_scene_27 rfl ?_
    refine s_callV0 (M' := M_X11_refuse) (as := [_]) 31 dX11_scene_28 rfl cw_X11_102 rfl rfl sh_0 rfl (by decide) (Nat.le_of_ble_eq_true rfl) (Nat.le_of_ble_eq_true rfl) (Nat.le_of_ble_eq_true rfl) (Nat.le_of_ble_eq_true rfl) ⟨rfl, rfl, rfl⟩ ?_
    refine c_X11_refuse (by decide) ?_
    refine s_iret dX11_scene_31 rfl rfl ?_
    first | exact hn h_5 | exact hy h_5 I m (by omega) Hi.rf hC
  refine s_aload_n 9 dX11_scene_8 rfl rfl ?_
  refine s_aload_n 10 dX11_scene_9 rfl rfl ?_
  refine s_getR 13 dX11_scene_10 rfl fl_X11_38 (fun _ _ _ _ => rfl) (T_X11_evening hT) sh_0 (Nat.le_of_ble_eq_true rfl) ?_
  refine s_getI 16 dX11_scene_13 rfl fl_X11_155 (fun _ _ _ _ => rfl) sh_80 (Nat.le_of_ble_eq_true rfl) (fun r_13 => ?_)
  refine s_iload_n 17 dX11_scene_16 rfl rfl ?_
  refine s_callS0 (M' := M_X11_sceneAt) (as := [_, _]) 20 dX11_scene_17 rfl cw_X11_181 rfl rfl (Nat.le_of_ble_eq_true rfl) (Nat.le_of_ble_eq_true rfl) (Nat.le_of_ble_eq_true rfl) ⟨rfl, rfl, rfl⟩ ?_
  refine c_X11_sceneAt (by omega) ?_
  rw [hE.1.2.1 i h_5.2.1 h_5.2.2]
  refine s_callV0 (M' := M_X11_fine) (as := [_]) 23 dX11_scene_20 rfl cw_X11_119 rfl rfl sh_0 rfl (by decide) (Nat.le_of_ble_eq_true rfl) (Nat.le_of_ble_eq_true rfl) (Nat.le_of_ble_eq_true rfl) (Nat.le_of_ble_eq_true rfl) ⟨rfl, rfl, rfl⟩ ?_
  refine c_X11_fine ?_
  refine s_goto 31 dX11_scene_23 rfl ?_
  refine s_iret dX11_scene_31 rfl rfl ?_
  first | exact hn h_5 | exact hy h_5 I m (by omega) Hi.rf hC
set_option maxHeartbeats 4000000 in
theorem c_X11_orders {E : ET} {I : MI} {L : ML} {R : MR} {Q : Option AV → MI → ML → MR → Prop} {m : Int} {bt : F1} {n ft pl w : Int} {HP : Prop} {r s : F1} {a : List Int} {U D K : List (List Int)} {P P' : Nat}  (hT : Topo R) (hC : CV I L R m bt n ft pl w HP r s a U D K P P') (hm : 0 ≤ m ∧ m ≤ 900000) (h : ∀ I', Hi I I' → CV I' L R (m + 8) bt n ft pl (pick (HP) 0 1) HP r s a U D K P P' → Q (some (vi (pick (HP) (((ordL r).length : Int)) (-1)))) I' L R) : CT E M_X11_orders 161 yX11_orders [(vr (0))] I L R Q := by
  refine CT_of rfl rfl (fun h => by cases h) (Nat.le_of_ble_eq_true rfl) (fun X => ?_)
  show V X _ z0 0 [some (vr (0))] [] I L R _
  obtain ⟨hn, hy⟩ := c_spl hC h
  have bd := hC.bd
  have hP := hC.1.1
  have t2 := hC.1.2.2.2.1
  have hR := hC.2.2.1
  have hE := hC.2.2.2.1
  refine s_aload_n 1 dX11_orders_0 rfl rfl ?_
  refine s_callV0 (M' := M_X11_noPiece) (as := []) 4 dX11_orders_1 rfl cw_X11_151 rfl rfl sh_0 rfl (by decide) (Nat.le_of_ble_eq_true rfl) (Nat.le_of_ble_eq_true rfl) (Nat.le_of_ble_eq_true rfl) (Nat.le_of_ble_eq_true rfl) ⟨rfl, rfl, rfl⟩ ?_
  refine c_X11_noPiece hC ?_
  refine s_ifb_eq 15 7 dX11_orders_4 rfl rfl (fun h_4 => ?_) (fun h_4 => ?_)
  · skip
    refine s_aload_n 16 dX11_orders_15 rfl rfl ?_
    refine s_aload_n 17 dX11_orders_16 rfl rfl ?_
    refine s_getR 20 dX11_orders_17 rfl fl_X11_19 (fun _ _ _ _ => rfl) (by assumption) sh_0 (Nat.le_of_ble_eq_true rfl) ?_
    refine s_getI 23 dX11_orders_20 rfl fl_X11_175 (fun _ _ _ _ => rfl) (isP_sh (by assumption)) (isP_lt (by assumption)) (fun r_20 => ?_)
    rw [((hC.2.2.2.2.2.2.1 (nn_n h_4)).2.2).1.1]
    refine s_callV0 (M' := M_X11_fine) (as := [_]) 26 dX11_orders_23 rfl cw_X11_119 rfl rfl sh_0 rfl (by decide) (Nat.le_of_ble_eq_true rfl) (Nat.le_of_ble_eq_true rfl) (Nat.le_of_ble_eq_true rfl) (Nat.le_of_ble_eq_true rfl) ⟨rfl, rfl, rfl⟩ ?_
    refine c_X11_fine ?_
    refine s_iret dX11_orders_26 rfl rfl ?_
    first | exact hn h_4 | exact hy (nn_n h_4) I m (by omega) Hi.rf hC
  refine s_aload_n 8 dX11_orders_7 rfl rfl ?_
  refine s_iconst 9 dX11_orders_8 rfl ?_
  refine s_callV0 (M' := M_X11_refuse) (as := [_]) 12 dX11_orders_9 rfl cw_X11_102 rfl rfl sh_0 rfl (by decide) (Nat.le_of_ble_eq_true rfl) (Nat.le_of_ble_eq_true rfl) (Nat.le_of_ble_eq_true rfl) (Nat.le_of_ble_eq_true rfl) ⟨rfl, rfl, rfl⟩ ?_
  refine c_X11_refuse (by decide) ?_
  refine s_goto 26 dX11_orders_12 rfl ?_
  refine s_iret dX11_orders_26 rfl rfl ?_
  first | exact hn h_4 | exact hy (nn_n h_4) I m (by omega) Hi.rf hC
set_option maxHeartbeats 4000000 in
theorem c_X11_begins {E : ET} {I : MI} {L : ML} {R : MR} {Q : Option AV → MI → ML → MR → Prop} {m : Int} {bt : F1} {n ft pl w : Int} {HP : Prop} {r s : F1} {a : List Int} {U D K : List (List Int)} {P P' : Nat} {i : Int} {B : Prop} (hT : Topo R) (hC : CV I L R m bt n ft pl w HP r s a U D K P P') (hm : 0 ≤ m ∧ m ≤ 900000) (hi : -2147483648 ≤ i ∧ i ≤ 2147483647) (h : ∀ I', Hi I I' → CV I' L R (m + 8) bt n ft pl (pick (HP ∧ 0 ≤ i ∧ i < r 5) 0 1) HP r s a U D K P P' → Q (some (vi (pick (HP ∧ 0 ≤ i ∧ i < r 5) (opF r (r 2) s i + pick B (r (44 + i)) 0) (-1)))) I' L R) : CT E M_X11_begins 161 yX11_begins [(vr (0)), (vi (i)), (vi (bI B))] I L R Q := by
  refine CT_of rfl rfl (fun h => by cases h) (Nat.le_of_ble_eq_true rfl) (fun X => ?_)
  show V X _ z0 0 [some (vr (0)), some (vi (i)), some (vi (bI B)), none] [] I L R _
  obtain ⟨hn, hy⟩ := c_spl hC h
  have bd := hC.bd
  have hP := hC.1.1
  have t2 := hC.1.2.2.2.1
  have hR := hC.2.2.1
  have hE := hC.2.2.2.1
  refine s_aload_n 1 dX11_begins_0 rfl rfl ?_
  refine s_iload_n 2 dX11_begins_1 rfl rfl ?_
  refine s_callV0 (M' := M_X11_isScene) (as := [_]) 5 dX11_begins_2 rfl cw_X11_178 rfl rfl sh_0 rfl (by decide) (Nat.le_of_ble_eq_true rfl) (Nat.le_of_ble_eq_true rfl) (Nat.le_of_ble_eq_true rfl) (Nat.le_of_ble_eq_true rfl) ⟨rfl, rfl, rfl⟩ ?_
  refine c_X11_isScene hC hi ?_
  refine s_ifb_ne 14 8 dX11_begins_5 rfl rfl (fun h_5 => ?_) (fun h_5 => ?_)
  · skip
    refine s_aload_n 15 dX11_begins_14 rfl rfl ?_
    refine s_callV0 (M' := M_X11_tonight) (as := []) 18 dX11_begins_15 rfl cw_X11_184 rfl rfl sh_0 rfl (by decide) (Nat.le_of_ble_eq_true rfl) (Nat.le_of_ble_eq_true rfl) (Nat.le_of_ble_eq_true rfl) (Nat.le_of_ble_eq_true rfl) ⟨rfl, rfl, rfl⟩ ?_
    refine c_X11_tonight hT hC h_5.1 (by omega) (fun I1 g1 g2 g3 => ?_)
    refine s_getR 21 dX11_begins_18 rfl fl_X11_188 (fun _ _ _ _ => rfl) (T_X4_sceneBegins hT isN_85) (isN_sh isN_85) (isN_lt isN_85) ?_
    refine s_iload_n 22 dX11_begins_21 rfl rfl ?_
    refine s_iald 23 dX11_begins_22 rfl (shN_sceneBegins isN_85) (ltN_sceneBegins isN_85) (by omega) (by omega) (fun r_22 => ?_)
    rw [g2.2.2.2.1.2.1.1 i h_5.2.1 h_5.2.2]
    refine s_istore_n (ls' := [_, _, _, _]) 24 dX11_begins_23 rfl (Nat.le_of_ble_eq_true rfl) rfl rfl ?_
    refine s_aload_n 25 dX11_begins_24 rfl rfl ?_
    refine s_iload_n 26 dX11_begins_25 rfl rfl ?_
    refine s_ifb_eq 43 29 dX11_begins_26 rfl rfl (fun h_26 => ?_) (fun h_26 => ?_)
    · skip
      refine s_iload_n 44 dX11_begins_43 rfl rfl ?_
      refine s_callV0 (M' := M_X11_fine) (as := [_]) 47 dX11_begins_44 rfl cw_X11_119 rfl rfl sh_0 rfl (by decide) (Nat.le_of_ble_eq_true rfl) (Nat.le_of_ble_eq_true rfl) (Nat.le_of_ble_eq_true rfl) (Nat.le_of_ble_eq_true rfl) ⟨rfl, rfl, rfl⟩ ?_
      refine c_X11_fine ?_
      refine s_iret dX11_begins_47 rfl rfl ?_
      first | exact hn h_5 | (have hh := hy h_5 I1 (m + 1) (by omega) (Hi.nt isN_85 g1) g3; rw [pick_t h_26] at hh; exact hh) | (have hh := hy h_5 I1 (m + 1) (by omega) (Hi.nt isN_85 g1) g3; rw [pick_f h_26, Int.add_zero] at hh; exact hh)
    refine s_iload_n 30 dX11_begins_29 rfl rfl ?_
    refine s_aload_n 31 dX11_begins_30 rfl rfl ?_
    refine s_getR 34 dX11_begins_31 rfl fl_X11_19 (fun _ _ _ _ => rfl) (by assumption) sh_0 (Nat.le_of_ble_eq_true rfl) ?_
    refine s_getR 37 dX11_begins_34 rfl fl_X11_191 (fun _ _ _ _ => rfl) (T_X5_lasts hT (by assumption)) (isP_sh (by assumption)) (isP_lt (by assumption)) ?_
    refine s_iload_n 38 dX11_begins_37 rfl rfl ?_
    refine s_iald 39 dX11_begins_38 rfl (shP_lasts (by assumption)) (ltP_lasts (by assumption)) (by omega) (by omega) (fun r_38 => ?_)
    rw [g3.2.2.1.2.2.2.2.2.1 i h_5.2.1 h_5.2.2]
    refine s_iadd 40 dX11_begins_39 rfl ?_
    refine s_goto 44 dX11_begins_40 rfl ?_
    refine s_callV0 (M' := M_X11_fine) (as := [_]) 47 dX11_begins_44 rfl cw_X11_119 rfl rfl sh_0 rfl (by decide) (Nat.le_of_ble_eq_true rfl) (Nat.le_of_ble_eq_true rfl) (Nat.le_of_ble_eq_true rfl) (Nat.le_of_ble_eq_true rfl) ⟨rfl, rfl, rfl⟩ ?_
    refine c_X11_fine ?_
    refine s_iret dX11_begins_47 rfl rfl ?_
    first | exact hn h_5 | (have hh := hy h_5 I1 (m + 1) (by omega) (Hi.nt isN_85 g1) g3; rw [pick_t h_26] at hh; exact hh) | (have hh := hy h_5 I1 (m + 1) (by omega) (Hi.nt isN_85 g1) g3; rw [pick_f h_26, Int.add_zero] at hh; exact hh)
  refine s_aload_n 9 dX11_begins_8 rfl rfl ?_
  refine s_iconst 10 dX11_begins_9 rfl ?_
  refine s_callV0 (M' := M_X11_refuse) (as := [_]) 13 dX11_begins_10 rfl cw_X11_102 rfl rfl sh_0 rfl (by decide) (Nat.le_of_ble_eq_true rfl) (Nat.le_of_ble_eq_true rfl) (Nat.le_of_ble_eq_true rfl) (Nat.le_of_ble_eq_true rfl) ⟨rfl, rfl, rfl⟩ ?_
  refine c_X11_refuse (by decide) ?_
  refine s_iret dX11_begins_13 rfl rfl ?_
  first | exact hn h_5 | (have hh := hy h_5 I1 (m + 1) (by omega) (Hi.nt isN_85 g1) g3; rw [pick_t h_26] at hh; exact hh) | (have hh := hy h_5 I1 (m + 1) (by omega) (Hi.nt isN_85 g1) g3; rw [pick_f h_26, Int.add_zero] at hh; exact hh)
set_option maxHeartbeats 4000000 in
theorem c_X11_seen {E : ET} {I : MI} {L : ML} {R : MR} {Q : Option AV → MI → ML → MR → Prop} {m : Int} {bt : F1} {n ft pl w : Int} {HP : Prop} {r s : F1} {a : List Int} {U D K : List (List Int)} {P P' : Nat} {i : Int} {B : Prop} (hT : Topo R) (hC : CV I L R m bt n ft pl w HP r s a U D K P P') (hm : 0 ≤ m ∧ m ≤ 900000) (hi : -2147483648 ≤ i ∧ i ≤ 2147483647) (h : ∀ I', Hi I I' → CV I' L R (m + 8) bt n ft pl (pick (HP ∧ 0 ≤ i ∧ i < r 7) 0 1) HP r s a U D K P P' → Q (some (vi (pick (HP ∧ 0 ≤ i ∧ i < r 7) (pick B (clF r (r 2) s i) (bgF r (r 2) s i)) (-1)))) I' L R) : CT E M_X11_seen 161 yX11_seen [(vr (0)), (vi (i)), (vi (bI B))] I L R Q := by
  refine CT_of rfl rfl (fun h => by cases h) (Nat.le_of_ble_eq_true rfl) (fun X => ?_)
  show V X _ z0 0 [some (vr (0)), some (vi (i)), some (vi (bI B)), none] [] I L R _
  obtain ⟨hn, hy⟩ := c_spl hC h
  have bd := hC.bd
  have hP := hC.1.1
  have t2 := hC.1.2.2.2.1
  have hR := hC.2.2.1
  have hE := hC.2.2.2.1
  refine s_aload_n 1 dX11_seen_0 rfl rfl ?_
  refine s_iload_n 2 dX11_seen_1 rfl rfl ?_
  refine s_callV0 (M' := M_X11_isOn) (as := [_]) 5 dX11_seen_2 rfl cw_X11_194 rfl rfl sh_0 rfl (by decide) (Nat.le_of_ble_eq_true rfl) (Nat.le_of_ble_eq_true rfl) (Nat.le_of_ble_eq_true rfl) (Nat.le_of_ble_eq_true rfl) ⟨rfl, rfl, rfl⟩ ?_
  refine c_X11_isOn hC hi ?_
  refine s_ifb_ne 14 8 dX11_seen_5 rfl rfl (fun h_5 => ?_) (fun h_5 => ?_)
  · skip
    refine s_aload_n 15 dX11_seen_14 rfl rfl ?_
    refine s_callV0 (M' := M_X11_tonight) (as := []) 18 dX11_seen_15 rfl cw_X11_184 rfl rfl sh_0 rfl (by decide) (Nat.le_of_ble_eq_true rfl) (Nat.le_of_ble_eq_true rfl) (Nat.le_of_ble_eq_true rfl) (Nat.le_of_ble_eq_true rfl) ⟨rfl, rfl, rfl⟩ ?_
    refine c_X11_tonight hT hC h_5.1 (by omega) (fun I1 g1 g2 g3 => ?_)
    refine s_astore_n (ls' := [_, _, _, _]) 19 dX11_seen_18 rfl (Nat.le_of_ble_eq_true rfl) rfl rfl ?_
    refine s_aload_n 20 dX11_seen_19 rfl rfl ?_
    refine s_iload_n 21 dX11_seen_20 rfl rfl ?_
    refine s_ifb_eq 33 24 dX11_seen_21 rfl rfl (fun h_21 => ?_) (fun h_21 => ?_)
    · skip
      refine s_aload_n 34 dX11_seen_33 rfl rfl ?_
      refine s_getR 37 dX11_seen_34 rfl fl_X11_200 (fun _ _ _ _ => rfl) (T_X4_onBegins hT isN_85) (isN_sh isN_85) (isN_lt isN_85) ?_
      refine s_iload_n 38 dX11_seen_37 rfl rfl ?_
      refine s_iald 39 dX11_seen_38 rfl (shN_onBegins isN_85) (ltN_onBegins isN_85) (by omega) (by omega) (fun r_38 => ?_)
      (try rw [(g2.2.2.2.1.2.1.2 i h_5.2.1 h_5.2.2).1])
      refine s_callV0 (M' := M_X11_fine) (as := [_]) 42 dX11_seen_39 rfl cw_X11_119 rfl rfl sh_0 rfl (by decide) (Nat.le_of_ble_eq_true rfl) (Nat.le_of_ble_eq_true rfl) (Nat.le_of_ble_eq_true rfl) (Nat.le_of_ble_eq_true rfl) ⟨rfl, rfl, rfl⟩ ?_
      refine c_X11_fine ?_
      refine s_iret dX11_seen_42 rfl rfl ?_
      first | exact hn h_5 | (have hh := hy h_5 I1 (m + 1) (by omega) (Hi.nt isN_85 g1) g3; rw [pick_t h_21] at hh; exact hh) | (have hh := hy h_5 I1 (m + 1) (by omega) (Hi.nt isN_85 g1) g3; rw [pick_f h_21] at hh; exact hh)
    refine s_aload_n 25 dX11_seen_24 rfl rfl ?_
    refine s_getR 28 dX11_seen_25 rfl fl_X11_197 (fun _ _ _ _ => rfl) (T_X4_onEnds hT isN_85) (isN_sh isN_85) (isN_lt isN_85) ?_
    refine s_iload_n 29 dX11_seen_28 rfl rfl ?_
    refine s_iald 30 dX11_seen_29 rfl (shN_onEnds isN_85) (ltN_onEnds isN_85) (by omega) (by omega) (fun r_29 => ?_)
    rw [(g2.2.2.2.1.2.1.2 i h_5.2.1 h_5.2.2).2]
    refine s_goto 39 dX11_seen_30 rfl ?_
    (try rw [(g2.2.2.2.1.2.1.2 i h_5.2.1 h_5.2.2).1])
    refine s_callV0 (M' := M_X11_fine) (as := [_]) 42 dX11_seen_39 rfl cw_X11_119 rfl rfl sh_0 rfl (by decide) (Nat.le_of_ble_eq_true rfl) (Nat.le_of_ble_eq_true rfl) (Nat.le_of_ble_eq_true rfl) (Nat.le_of_ble_eq_true rfl) ⟨rfl, rfl, rfl⟩ ?_
    refine c_X11_fine ?_
    refine s_iret dX11_seen_42 rfl rfl ?_
    first | exact hn h_5 | (have hh := hy h_5 I1 (m + 1) (by omega) (Hi.nt isN_85 g1) g3; rw [pick_t h_21] at hh; exact hh) | (have hh := hy h_5 I1 (m + 1) (by omega) (Hi.nt isN_85 g1) g3; rw [pick_f h_21] at hh; exact hh)
  refine s_aload_n 9 dX11_seen_8 rfl rfl ?_
  refine s_iconst 10 dX11_seen_9 rfl ?_
  refine s_callV0 (M' := M_X11_refuse) (as := [_]) 13 dX11_seen_10 rfl cw_X11_102 rfl rfl sh_0 rfl (by decide) (Nat.le_of_ble_eq_true rfl) (Nat.le_of_ble_eq_true rfl) (Nat.le_of_ble_eq_true rfl) (Nat.le_of_ble_eq_true rfl) ⟨rfl, rfl, rfl⟩ ?_
  refine c_X11_refuse (by decide) ?_
  refine s_iret dX11_seen_13 rfl rfl ?_
  first | exact hn h_5 | (have hh := hy h_5 I1 (m + 1) (by omega) (Hi.nt isN_85 g1) g3; rw [pick_t h_21] at hh; exact hh) | (have hh := hy h_5 I1 (m + 1) (by omega) (Hi.nt isN_85 g1) g3; rw [pick_f h_21] at hh; exact hh)
set_option maxHeartbeats 4000000 in
theorem c_X11_change {E : ET} {I : MI} {L : ML} {R : MR} {Q : Option AV → MI → ML → MR → Prop} {m : Int} {bt : F1} {n ft pl w : Int} {HP : Prop} {r s : F1} {a : List Int} {U D K : List (List Int)} {P P' : Nat} {i j : Int} (hT : Topo R) (hC : CV I L R m bt n ft pl w HP r s a U D K P P') (hm : 0 ≤ m ∧ m ≤ 900000) (hi : -2147483648 ≤ i ∧ i ≤ 2147483647) (hj : -2147483648 ≤ j ∧ j ≤ 2147483647) (h : ∀ I', Hi I I' → CV I' L R (m + 8) bt n ft pl (pick ((HP ∧ 0 ≤ i ∧ i < r 4) ∧ (HP ∧ 0 ≤ j ∧ j < r 4)) 0 1) HP r s a U D K P P' → Q (some (vi (pick ((HP ∧ 0 ≤ i ∧ i < r 4) ∧ (HP ∧ 0 ≤ j ∧ j < r 4)) (chF r (-1) i j) (-1)))) I' L R) : CT E M_X11_change 161 yX11_change [(vr (0)), (vi (i)), (vi (j))] I L R Q := by
  refine CT_of rfl rfl (fun h => by cases h) (Nat.le_of_ble_eq_true rfl) (fun X => ?_)
  show V X _ z0 0 [some (vr (0)), some (vi (i)), some (vi (j))] [] I L R _
  obtain ⟨hn, hy⟩ := c_spl hC h
  have bd := hC.bd
  have hP := hC.1.1
  have t2 := hC.1.2.2.2.1
  have hR := hC.2.2.1
  have hE := hC.2.2.2.1
  refine s_aload_n 1 dX11_change_0 rfl rfl ?_
  refine s_iload_n 2 dX11_change_1 rfl rfl ?_
  refine s_callV0 (M' := M_X11_isPart) (as := [_]) 5 dX11_change_2 rfl cw_X11_203 rfl rfl sh_0 rfl (by decide) (Nat.le_of_ble_eq_true rfl) (Nat.le_of_ble_eq_true rfl) (Nat.le_of_ble_eq_true rfl) (Nat.le_of_ble_eq_true rfl) ⟨rfl, rfl, rfl⟩ ?_
  refine c_X11_isPart hC hi ?_
  refine s_ifb_eq 16 8 dX11_change_5 rfl rfl (fun h_5 => ?_) (fun h_5 => ?_)
  · skip
    refine s_aload_n 17 dX11_change_16 rfl rfl ?_
    refine s_iconst 18 dX11_change_17 rfl ?_
    refine s_callV0 (M' := M_X11_refuse) (as := [_]) 21 dX11_change_18 rfl cw_X11_102 rfl rfl sh_0 rfl (by decide) (Nat.le_of_ble_eq_true rfl) (Nat.le_of_ble_eq_true rfl) (Nat.le_of_ble_eq_true rfl) (Nat.le_of_ble_eq_true rfl) ⟨rfl, rfl, rfl⟩ ?_
    refine c_X11_refuse (by decide) ?_
    refine s_iret dX11_change_21 rfl rfl ?_
    first | exact hy ⟨h_5, h_13⟩ I m (by omega) Hi.rf hC | exact hn (fun z => h_13 z.2) | exact hn (fun z => h_5 z.1)
  refine s_aload_n 9 dX11_change_8 rfl rfl ?_
  refine s_iload_n 10 dX11_change_9 rfl rfl ?_
  refine s_callV0 (M' := M_X11_isPart) (as := [_]) 13 dX11_change_10 rfl cw_X11_203 rfl rfl sh_0 rfl (by decide) (Nat.le_of_ble_eq_true rfl) (Nat.le_of_ble_eq_true rfl) (Nat.le_of_ble_eq_true rfl) (Nat.le_of_ble_eq_true rfl) ⟨rfl, rfl, rfl⟩ ?_
  refine c_X11_isPart hC hj ?_
  refine s_ifb_ne 22 16 dX11_change_13 rfl rfl (fun h_13 => ?_) (fun h_13 => ?_)
  · skip
    refine s_aload_n 23 dX11_change_22 rfl rfl ?_
    refine s_aload_n 24 dX11_change_23 rfl rfl ?_
    refine s_getR 27 dX11_change_24 rfl fl_X11_19 (fun _ _ _ _ => rfl) (by assumption) sh_0 (Nat.le_of_ble_eq_true rfl) ?_
    refine s_iload_n 28 dX11_change_27 rfl rfl ?_
    refine s_iload_n 29 dX11_change_28 rfl rfl ?_
    refine s_iconst 30 dX11_change_29 rfl ?_
    refine s_callV0 (M' := M_X5_changeTime) (as := [_, _, _]) 33 dX11_change_30 rfl cw_X11_206 rfl rfl (isP_sh (by assumption)) rfl (by decide) (isP_lt (by assumption)) (Nat.le_of_ble_eq_true rfl) (Nat.le_of_ble_eq_true rfl) (Nat.le_of_ble_eq_true rfl) ⟨rfl, rfl, rfl⟩ ?_
    refine c_X5_changeTime hT hP (hC.2.2.2.2.2.2.1 (by first | exact h_5.1 | exact h_13.1)).1.1 (hC.2.2.2.2.2.2.1 (by first | exact h_5.1 | exact h_13.1)).2.1 hR h_5.2 h_13.2 (by decide) ?_
    refine s_callV0 (M' := M_X11_fine) (as := [_]) 36 dX11_change_33 rfl cw_X11_119 rfl rfl sh_0 rfl (by decide) (Nat.le_of_ble_eq_true rfl) (Nat.le_of_ble_eq_true rfl) (Nat.le_of_ble_eq_true rfl) (Nat.le_of_ble_eq_true rfl) ⟨rfl, rfl, rfl⟩ ?_
    refine c_X11_fine ?_
    refine s_iret dX11_change_36 rfl rfl ?_
    first | exact hy ⟨h_5, h_13⟩ I m (by omega) Hi.rf hC | exact hn (fun z => h_13 z.2) | exact hn (fun z => h_5 z.1)
  refine s_aload_n 17 dX11_change_16 rfl rfl ?_
  refine s_iconst 18 dX11_change_17 rfl ?_
  refine s_callV0 (M' := M_X11_refuse) (as := [_]) 21 dX11_change_18 rfl cw_X11_102 rfl rfl sh_0 rfl (by decide) (Nat.le_of_ble_eq_true rfl) (Nat.le_of_ble_eq_true rfl) (Nat.le_of_ble_eq_true rfl) (Nat.le_of_ble_eq_true rfl) ⟨rfl, rfl, rfl⟩ ?_
  refine c_X11_refuse (by decide) ?_
  refine s_iret dX11_change_21 rfl rfl ?_
  first | exact hy ⟨h_5, h_13⟩ I m (by omega) Hi.rf hC | exact hn (fun z => h_13 z.2) | exact hn (fun z => h_5 z.1)
set_option maxHeartbeats 4000000 in
theorem c_X11_need {E : ET} {I : MI} {L : ML} {R : MR} {Q : Option AV → MI → ML → MR → Prop} {m : Int} {bt : F1} {n ft pl w : Int} {HP : Prop} {r s : F1} {a : List Int} {U D K : List (List Int)} {P P' : Nat} {i j : Int} (hT : Topo R) (hC : CV I L R m bt n ft pl w HP r s a U D K P P') (hm : 0 ≤ m ∧ m ≤ 900000) (hi : -2147483648 ≤ i ∧ i ≤ 2147483647) (hj : -2147483648 ≤ j ∧ j ≤ 2147483647) (h : ∀ I', Hi I I' → CV I' L R (m + 8) bt n ft pl (pick ((HP ∧ 0 ≤ i ∧ i < r 7) ∧ (HP ∧ 0 ≤ j ∧ j < r 7)) 0 1) HP r s a U D K P P' → Q (some (vi (pick ((HP ∧ 0 ≤ i ∧ i < r 7) ∧ (HP ∧ 0 ≤ j ∧ j < r 7)) (neF r (-1) i j) (-1)))) I' L R) : CT E M_X11_need 161 yX11_need [(vr (0)), (vi (i)), (vi (j))] I L R Q := by
  refine CT_of rfl rfl (fun h => by cases h) (Nat.le_of_ble_eq_true rfl) (fun X => ?_)
  show V X _ z0 0 [some (vr (0)), some (vi (i)), some (vi (j))] [] I L R _
  obtain ⟨hn, hy⟩ := c_spl hC h
  have bd := hC.bd
  have hP := hC.1.1
  have t2 := hC.1.2.2.2.1
  have hR := hC.2.2.1
  have hE := hC.2.2.2.1
  refine s_aload_n 1 dX11_need_0 rfl rfl ?_
  refine s_iload_n 2 dX11_need_1 rfl rfl ?_
  refine s_callV0 (M' := M_X11_isOn) (as := [_]) 5 dX11_need_2 rfl cw_X11_194 rfl rfl sh_0 rfl (by decide) (Nat.le_of_ble_eq_true rfl) (Nat.le_of_ble_eq_true rfl) (Nat.le_of_ble_eq_true rfl) (Nat.le_of_ble_eq_true rfl) ⟨rfl, rfl, rfl⟩ ?_
  refine c_X11_isOn hC hi ?_
  refine s_ifb_eq 16 8 dX11_need_5 rfl rfl (fun h_5 => ?_) (fun h_5 => ?_)
  · skip
    refine s_aload_n 17 dX11_need_16 rfl rfl ?_
    refine s_iconst 18 dX11_need_17 rfl ?_
    refine s_callV0 (M' := M_X11_refuse) (as := [_]) 21 dX11_need_18 rfl cw_X11_102 rfl rfl sh_0 rfl (by decide) (Nat.le_of_ble_eq_true rfl) (Nat.le_of_ble_eq_true rfl) (Nat.le_of_ble_eq_true rfl) (Nat.le_of_ble_eq_true rfl) ⟨rfl, rfl, rfl⟩ ?_
    refine c_X11_refuse (by decide) ?_
    refine s_iret dX11_need_21 rfl rfl ?_
    first | exact hy ⟨h_5, h_13⟩ I m (by omega) Hi.rf hC | exact hn (fun z => h_13 z.2) | exact hn (fun z => h_5 z.1)
  refine s_aload_n 9 dX11_need_8 rfl rfl ?_
  refine s_iload_n 10 dX11_need_9 rfl rfl ?_
  refine s_callV0 (M' := M_X11_isOn) (as := [_]) 13 dX11_need_10 rfl cw_X11_194 rfl rfl sh_0 rfl (by decide) (Nat.le_of_ble_eq_true rfl) (Nat.le_of_ble_eq_true rfl) (Nat.le_of_ble_eq_true rfl) (Nat.le_of_ble_eq_true rfl) ⟨rfl, rfl, rfl⟩ ?_
  refine c_X11_isOn hC hj ?_
  refine s_ifb_ne 22 16 dX11_need_13 rfl rfl (fun h_13 => ?_) (fun h_13 => ?_)
  · skip
    refine s_aload_n 23 dX11_need_22 rfl rfl ?_
    refine s_aload_n 24 dX11_need_23 rfl rfl ?_
    refine s_getR 27 dX11_need_24 rfl fl_X11_19 (fun _ _ _ _ => rfl) (by assumption) sh_0 (Nat.le_of_ble_eq_true rfl) ?_
    refine s_iload_n 28 dX11_need_27 rfl rfl ?_
    refine s_iload_n 29 dX11_need_28 rfl rfl ?_
    refine s_iconst 30 dX11_need_29 rfl ?_
    refine s_callV0 (M' := M_X5_needTime) (as := [_, _, _]) 33 dX11_need_30 rfl cw_X11_210 rfl rfl (isP_sh (by assumption)) rfl (by decide) (isP_lt (by assumption)) (Nat.le_of_ble_eq_true rfl) (Nat.le_of_ble_eq_true rfl) (Nat.le_of_ble_eq_true rfl) ⟨rfl, rfl, rfl⟩ ?_
    refine c_X5_needTime hT hP (hC.2.2.2.2.2.2.1 h_5.1).1.1 (hC.2.2.2.2.2.2.1 h_5.1).2.1 hR h_5.2 h_13.2 (by decide) ?_
    refine s_callV0 (M' := M_X11_fine) (as := [_]) 36 dX11_need_33 rfl cw_X11_119 rfl rfl sh_0 rfl (by decide) (Nat.le_of_ble_eq_true rfl) (Nat.le_of_ble_eq_true rfl) (Nat.le_of_ble_eq_true rfl) (Nat.le_of_ble_eq_true rfl) ⟨rfl, rfl, rfl⟩ ?_
    refine c_X11_fine ?_
    refine s_iret dX11_need_36 rfl rfl ?_
    first | exact hy ⟨h_5, h_13⟩ I m (by omega) Hi.rf hC | exact hn (fun z => h_13 z.2) | exact hn (fun z => h_5 z.1)
  refine s_aload_n 17 dX11_need_16 rfl rfl ?_
  refine s_iconst 18 dX11_need_17 rfl ?_
  refine s_callV0 (M' := M_X11_refuse) (as := [_]) 21 dX11_need_18 rfl cw_X11_102 rfl rfl sh_0 rfl (by decide) (Nat.le_of_ble_eq_true rfl) (Nat.le_of_ble_eq_true rfl) (Nat.le_of_ble_eq_true rfl) (Nat.le_of_ble_eq_true rfl) ⟨rfl, rfl, rfl⟩ ?_
  refine c_X11_refuse (by decide) ?_
  refine s_iret dX11_need_21 rfl rfl ?_
  first | exact hy ⟨h_5, h_13⟩ I m (by omega) Hi.rf hC | exact hn (fun z => h_13 z.2) | exact hn (fun z => h_5 z.1)
set_option maxHeartbeats 4000000 in
theorem c_X11_meet {E : ET} {I : MI} {L : ML} {R : MR} {Q : Option AV → MI → ML → MR → Prop} {m : Int} {bt : F1} {n ft pl w : Int} {HP : Prop} {r s : F1} {a : List Int} {U D K : List (List Int)} {P P' : Nat} {i j : Int} (hT : Topo R) (hC : CV I L R m bt n ft pl w HP r s a U D K P P') (hm : 0 ≤ m ∧ m ≤ 900000) (hi : -2147483648 ≤ i ∧ i ≤ 2147483647) (hj : -2147483648 ≤ j ∧ j ≤ 2147483647) (h : ∀ I', Hi I I' → CV I' L R (m + 8) bt n ft pl (pick ((HP ∧ 0 ≤ i ∧ i < r 7) ∧ (HP ∧ 0 ≤ j ∧ j < r 7)) 0 1) HP r s a U D K P P' → Q (some (vi (pick ((HP ∧ 0 ≤ i ∧ i < r 7) ∧ (HP ∧ 0 ≤ j ∧ j < r 7)) (bI (meetP (bgF r (r 2) s) (clF r (r 2) s) i j)) (-1)))) I' L R) : CT E M_X11_meet 161 yX11_meet [(vr (0)), (vi (i)), (vi (j))] I L R Q := by
  refine CT_of rfl rfl (fun h => by cases h) (Nat.le_of_ble_eq_true rfl) (fun X => ?_)
  show V X _ z0 0 [some (vr (0)), some (vi (i)), some (vi (j))] [] I L R _
  obtain ⟨hn, hy⟩ := c_spl hC h
  have bd := hC.bd
  have hP := hC.1.1
  have t2 := hC.1.2.2.2.1
  have hR := hC.2.2.1
  have hE := hC.2.2.2.1
  refine s_aload_n 1 dX11_meet_0 rfl rfl ?_
  refine s_iload_n 2 dX11_meet_1 rfl rfl ?_
  refine s_callV0 (M' := M_X11_isOn) (as := [_]) 5 dX11_meet_2 rfl cw_X11_194 rfl rfl sh_0 rfl (by decide) (Nat.le_of_ble_eq_true rfl) (Nat.le_of_ble_eq_true rfl) (Nat.le_of_ble_eq_true rfl) (Nat.le_of_ble_eq_true rfl) ⟨rfl, rfl, rfl⟩ ?_
  refine c_X11_isOn hC hi ?_
  refine s_ifb_eq 16 8 dX11_meet_5 rfl rfl (fun h_5 => ?_) (fun h_5 => ?_)
  · skip
    refine s_aload_n 17 dX11_meet_16 rfl rfl ?_
    refine s_iconst 18 dX11_meet_17 rfl ?_
    refine s_callV0 (M' := M_X11_refuse) (as := [_]) 21 dX11_meet_18 rfl cw_X11_102 rfl rfl sh_0 rfl (by decide) (Nat.le_of_ble_eq_true rfl) (Nat.le_of_ble_eq_true rfl) (Nat.le_of_ble_eq_true rfl) (Nat.le_of_ble_eq_true rfl) ⟨rfl, rfl, rfl⟩ ?_
    refine c_X11_refuse (by decide) ?_
    refine s_iret dX11_meet_21 rfl rfl ?_
    first | exact hy ⟨h_5, h_13⟩ I1 (m + 1) (by omega) (Hi.nt isN_85 g1) g3 | exact hn (fun z => h_13 z.2) | exact hn (fun z => h_5 z.1)
  refine s_aload_n 9 dX11_meet_8 rfl rfl ?_
  refine s_iload_n 10 dX11_meet_9 rfl rfl ?_
  refine s_callV0 (M' := M_X11_isOn) (as := [_]) 13 dX11_meet_10 rfl cw_X11_194 rfl rfl sh_0 rfl (by decide) (Nat.le_of_ble_eq_true rfl) (Nat.le_of_ble_eq_true rfl) (Nat.le_of_ble_eq_true rfl) (Nat.le_of_ble_eq_true rfl) ⟨rfl, rfl, rfl⟩ ?_
  refine c_X11_isOn hC hj ?_
  refine s_ifb_ne 22 16 dX11_meet_13 rfl rfl (fun h_13 => ?_) (fun h_13 => ?_)
  · skip
    refine s_aload_n 23 dX11_meet_22 rfl rfl ?_
    refine s_aload_n 24 dX11_meet_23 rfl rfl ?_
    refine s_callV0 (M' := M_X11_tonight) (as := []) 27 dX11_meet_24 rfl cw_X11_184 rfl rfl sh_0 rfl (by decide) (Nat.le_of_ble_eq_true rfl) (Nat.le_of_ble_eq_true rfl) (Nat.le_of_ble_eq_true rfl) (Nat.le_of_ble_eq_true rfl) ⟨rfl, rfl, rfl⟩ ?_
    refine c_X11_tonight hT hC h_5.1 (by omega) (fun I1 g1 g2 g3 => ?_)
    refine s_iload_n 28 dX11_meet_27 rfl rfl ?_
    refine s_iload_n 29 dX11_meet_28 rfl rfl ?_
    refine s_callV0 (M' := M_X4_doMeet) (as := [_, _]) 32 dX11_meet_29 rfl cw_X11_213 rfl rfl (isN_sh isN_85) rfl (by decide) (isN_lt isN_85) (Nat.le_of_ble_eq_true rfl) (Nat.le_of_ble_eq_true rfl) (Nat.le_of_ble_eq_true rfl) ⟨rfl, rfl, rfl⟩ ?_
    have hr9 := (hC.2.2.2.2.2.2.1 h_5.1).1
    have e09 := hr9.1.1
    refine c_X4_doMeet (b := bgF r (r 2) s) (c := clF r (r 2) s) hT isN_85 hr9.1 (fun k a b => g2.2.2.2.1.2.1.2 k a b) (NtV.bc hr9.1 hr9.p (by omega)) h_5.2 h_13.2 ?_
    refine s_callV0 (M' := M_X11_fineIf) (as := [_]) 35 dX11_meet_32 rfl cw_X11_217 rfl rfl sh_0 rfl (by decide) (Nat.le_of_ble_eq_true rfl) (Nat.le_of_ble_eq_true rfl) (Nat.le_of_ble_eq_true rfl) (Nat.le_of_ble_eq_true rfl) ⟨rfl, rfl, rfl⟩ ?_
    refine c_X11_fineIf ?_
    refine s_iret dX11_meet_35 rfl rfl ?_
    first | exact hy ⟨h_5, h_13⟩ I1 (m + 1) (by omega) (Hi.nt isN_85 g1) g3 | exact hn (fun z => h_13 z.2) | exact hn (fun z => h_5 z.1)
  refine s_aload_n 17 dX11_meet_16 rfl rfl ?_
  refine s_iconst 18 dX11_meet_17 rfl ?_
  refine s_callV0 (M' := M_X11_refuse) (as := [_]) 21 dX11_meet_18 rfl cw_X11_102 rfl rfl sh_0 rfl (by decide) (Nat.le_of_ble_eq_true rfl) (Nat.le_of_ble_eq_true rfl) (Nat.le_of_ble_eq_true rfl) (Nat.le_of_ble_eq_true rfl) ⟨rfl, rfl, rfl⟩ ?_
  refine c_X11_refuse (by decide) ?_
  refine s_iret dX11_meet_21 rfl rfl ?_
  first | exact hy ⟨h_5, h_13⟩ I1 (m + 1) (by omega) (Hi.nt isN_85 g1) g3 | exact hn (fun z => h_13 z.2) | exact hn (fun z => h_5 z.1)
theorem Bod_own {r q s : F1} {i : Int} (hr : WFr r) (hq : Perm (r 7) q) (hi : 0 ≤ i ∧ i < r 7) : Bod r q (fun k => ¬ hasI (s 12) k) i ↔ Bod r q (Ons r s (s (5 + r (54 + 7 * i + 0)))) i := by
  constructor
  · rintro ⟨j, j1, j2, j3, a1, a2, a3, a4⟩
    refine ⟨j, j1, j2, j3, ⟨by rw [j3], a1⟩, a2, a3, fun z j' b1 b2 b3 b4 => a4 z j' b1 b2 b3.2 b4⟩
  · rintro ⟨j, j1, j2, j3, a1, a2, a3, a4⟩
    refine ⟨j, j1, j2, j3, a1.2, a2, a3, fun z j' b1 b2 b3 b4 b5 => ?_⟩
    refine a4 z j' b1 b2 ⟨?_, b3⟩ b4 b5
    rw [b5, j3]
set_option maxHeartbeats 4000000 in
theorem c_X11_bodily {E : ET} {I : MI} {L : ML} {R : MR} {Q : Option AV → MI → ML → MR → Prop} {m : Int} {bt : F1} {n ft pl w : Int} {HP : Prop} {r s : F1} {a : List Int} {U D K : List (List Int)} {P P' : Nat} {i : Int} (hT : Topo R) (hC : CV I L R m bt n ft pl w HP r s a U D K P P') (hm : 0 ≤ m ∧ m ≤ 900000) (hi : -2147483648 ≤ i ∧ i ≤ 2147483647) (h : ∀ I', Hi I I' → CV I' L R (m + 8) bt n ft pl (pick (HP ∧ 0 ≤ i ∧ i < r 7) 0 1) HP r s a U D K P P' → Q (some (vi (pick (HP ∧ 0 ≤ i ∧ i < r 7) (bI (Bod r (sqF r (r 2) s) (Ons r s (s (5 + r (54 + 7 * i + 0)))) i)) (-1)))) I' L R) : CT E M_X11_bodily 161 yX11_bodily [(vr (0)), (vi (i))] I L R Q := by
  refine CT_of rfl rfl (fun h => by cases h) (Nat.le_of_ble_eq_true rfl) (fun X => ?_)
  show V X _ z0 0 [some (vr (0)), some (vi (i)), none] [] I L R _
  obtain ⟨hn, hy⟩ := c_spl hC h
  have bd := hC.bd
  have hP := hC.1.1
  have t2 := hC.1.2.2.2.1
  have hR := hC.2.2.1
  have hE := hC.2.2.2.1
  refine s_aload_n 1 dX11_bodily_0 rfl rfl ?_
  refine s_iload_n 2 dX11_bodily_1 rfl rfl ?_
  refine s_callV0 (M' := M_X11_isOn) (as := [_]) 5 dX11_bodily_2 rfl cw_X11_194 rfl rfl sh_0 rfl (by decide) (Nat.le_of_ble_eq_true rfl) (Nat.le_of_ble_eq_true rfl) (Nat.le_of_ble_eq_true rfl) (Nat.le_of_ble_eq_true rfl) ⟨rfl, rfl, rfl⟩ ?_
  refine c_X11_isOn hC hi ?_
  refine s_ifb_ne 14 8 dX11_bodily_5 rfl rfl (fun h_5 => ?_) (fun h_5 => ?_)
  · skip
    refine s_aload_n 15 dX11_bodily_14 rfl rfl ?_
    refine s_getR 18 dX11_bodily_15 rfl fl_X11_19 (fun _ _ _ _ => rfl) (by assumption) sh_0 (Nat.le_of_ble_eq_true rfl) ?_
    refine s_callV0 (M' := M_X5_allOns) (as := []) 21 dX11_bodily_18 rfl cw_X11_221 rfl rfl (isP_sh (by assumption)) rfl (by decide) (isP_lt (by assumption)) (Nat.le_of_ble_eq_true rfl) (Nat.le_of_ble_eq_true rfl) (Nat.le_of_ble_eq_true rfl) ⟨rfl, rfl, rfl⟩ ?_
    refine c_X5_allOns hP hR ?_
    refine s_aload_n 22 dX11_bodily_21 rfl rfl ?_
    refine s_getR 25 dX11_bodily_22 rfl fl_X11_38 (fun _ _ _ _ => rfl) (T_X11_evening hT) sh_0 (Nat.le_of_ble_eq_true rfl) ?_
    refine s_getI 28 dX11_bodily_25 rfl fl_X11_161 (fun _ _ _ _ => rfl) sh_80 (Nat.le_of_ble_eq_true rfl) (fun r_25 => ?_)
    rw [hE.2.2]
    refine s_iconst 29 dX11_bodily_28 rfl ?_
    refine s_ixor 30 dX11_bodily_29 rfl ?_
    refine s_iand 31 dX11_bodily_30 rfl ?_
    refine s_istore_n (ls' := [_, _, _]) 32 dX11_bodily_31 rfl (Nat.le_of_ble_eq_true rfl) rfl rfl ?_
    refine s_aload_n 33 dX11_bodily_32 rfl rfl ?_
    refine s_aload_n 34 dX11_bodily_33 rfl rfl ?_
    refine s_callV0 (M' := M_X11_tonight) (as := []) 37 dX11_bodily_34 rfl cw_X11_184 rfl rfl sh_0 rfl (by decide) (Nat.le_of_ble_eq_true rfl) (Nat.le_of_ble_eq_true rfl) (Nat.le_of_ble_eq_true rfl) (Nat.le_of_ble_eq_true rfl) ⟨rfl, rfl, rfl⟩ ?_
    refine c_X11_tonight hT hC h_5.1 (by omega) (fun I1 g1 g2 g3 => ?_)
    refine s_iload_n 38 dX11_bodily_37 rfl rfl ?_
    refine s_callV0 (M' := M_X4_bodilyOf) (as := [_]) 41 dX11_bodily_38 rfl cw_X11_225 rfl rfl (isN_sh isN_85) rfl (by decide) (isN_lt isN_85) (Nat.le_of_ble_eq_true rfl) (Nat.le_of_ble_eq_true rfl) (Nat.le_of_ble_eq_true rfl) ⟨rfl, rfl, rfl⟩ ?_
    have hr9 := (hC.2.2.2.2.2.2.1 h_5.1).1.1
    have hS9 : ∀ k, 0 ≤ k → k < 32 → (hasI (iand (allF (r 7)) (ixor (s 12) (-1))) k ↔ k < r 7 ∧ ¬ hasI (s 12) k) := fun k a b => by rw [has_andn ⟨a, b⟩, allF_has ⟨by omega, by omega⟩ ⟨a, b⟩]
    refine c_X4_bodilyOf hT isN_85 hP g3.1.2.2.2.2.2.1 hr9 g3.2.2.1 g2.2.2.2.1.2.2.1 (sq_P hr9) (fun k a b z => by have := ((hS9 k (by omega) b).mp z).1; omega) (fun B hB => ?_)
    refine s_iload_n 42 dX11_bodily_41 rfl rfl ?_
    refine s_ishr 43 dX11_bodily_42 rfl ?_
    refine s_iconst 44 dX11_bodily_43 rfl ?_
    refine s_iand 45 dX11_bodily_44 rfl ?_
    rw [bit_bI, bI_c (hB.2 i h_5.2.1 (by omega)), bI_c (Bod_c (q := sqF r (r 2) s) (q' := sqF r (r 2) s) (S := fun k => ¬ hasI (s 12) k) (S' := fun k => hasI (iand (allF (r 7)) (ixor (s 12) (-1))) k) hr9 (sq_P hr9) (fun _ _ _ => rfl) (fun k a b => by rw [hS9 k a (by omega)]; exact ⟨fun z => ⟨b, z⟩, fun z => z.2⟩)), bI_c (Bod_own hr9 (sq_P hr9) h_5.2)]
    refine s_callV0 (M' := M_X11_fine) (as := [_]) 48 dX11_bodily_45 rfl cw_X11_119 rfl rfl sh_0 rfl (by decide) (Nat.le_of_ble_eq_true rfl) (Nat.le_of_ble_eq_true rfl) (Nat.le_of_ble_eq_true rfl) (Nat.le_of_ble_eq_true rfl) ⟨rfl, rfl, rfl⟩ ?_
    refine c_X11_fine ?_
    refine s_iret dX11_bodily_48 rfl rfl ?_
    first | exact hn h_5 | exact hy h_5 I1 (m + 1) (by omega) (Hi.nt isN_85 g1) g3
  refine s_aload_n 9 dX11_bodily_8 rfl rfl ?_
  refine s_iconst 10 dX11_bodily_9 rfl ?_
  refine s_callV0 (M' := M_X11_refuse) (as := [_]) 13 dX11_bodily_10 rfl cw_X11_102 rfl rfl sh_0 rfl (by decide) (Nat.le_of_ble_eq_true rfl) (Nat.le_of_ble_eq_true rfl) (Nat.le_of_ble_eq_true rfl) (Nat.le_of_ble_eq_true rfl) ⟨rfl, rfl, rfl⟩ ?_
  refine c_X11_refuse (by decide) ?_
  refine s_iret dX11_bodily_13 rfl rfl ?_
  first | exact hn h_5 | exact hy h_5 I1 (m + 1) (by omega) (Hi.nt isN_85 g1) g3
set_option maxHeartbeats 4000000 in
theorem c_X11_can {E : ET} {I : MI} {L : ML} {R : MR} {Q : Option AV → MI → ML → MR → Prop} {m : Int} {bt : F1} {n ft pl w : Int} {HP : Prop} {r s : F1} {a : List Int} {U D K : List (List Int)} {P P' : Nat} {i : Int} (hT : Topo R) (hC : CV I L R m bt n ft pl w HP r s a U D K P P') (hm : 0 ≤ m ∧ m ≤ 900000) (hi : -2147483648 ≤ i ∧ i ≤ 2147483647) (h : ∀ I', Hi I I' → CV I' L R (m + 8) bt n ft pl (pick (HP ∧ 0 ≤ i ∧ i < 7) 0 1) HP r s a U D K P P' → Q (some (vi (pick (HP ∧ 0 ≤ i ∧ i < 7) (bI (Can r (-1) (bgF r (r 2) s) (clF r (r 2) s) (sqF r (r 2) s) (Ons r s i))) (-1)))) I' L R) : CT E M_X11_can 161 yX11_can [(vr (0)), (vi (i))] I L R Q := by
  refine CT_of rfl rfl (fun h => by cases h) (Nat.le_of_ble_eq_true rfl) (fun X => ?_)
  show V X _ z0 0 [some (vr (0)), some (vi (i))] [] I L R _
  obtain ⟨hn, hy⟩ := c_spl hC h
  have bd := hC.bd
  have hP := hC.1.1
  have t2 := hC.1.2.2.2.1
  have hR := hC.2.2.1
  have hE := hC.2.2.2.1
  refine s_aload_n 1 dX11_can_0 rfl rfl ?_
  refine s_iload_n 2 dX11_can_1 rfl rfl ?_
  refine s_callV0 (M' := M_X11_isPlayer) (as := [_]) 5 dX11_can_2 rfl cw_X11_228 rfl rfl sh_0 rfl (by decide) (Nat.le_of_ble_eq_true rfl) (Nat.le_of_ble_eq_true rfl) (Nat.le_of_ble_eq_true rfl) (Nat.le_of_ble_eq_true rfl) ⟨rfl, rfl, rfl⟩ ?_
  refine c_X11_isPlayer hC hi ?_
  refine s_ifb_ne 14 8 dX11_can_5 rfl rfl (fun h_5 => ?_) (fun h_5 => ?_)
  · skip
    refine s_aload_n 15 dX11_can_14 rfl rfl ?_
    refine s_aload_n 16 dX11_can_15 rfl rfl ?_
    refine s_callV0 (M' := M_X11_tonight) (as := []) 19 dX11_can_16 rfl cw_X11_184 rfl rfl sh_0 rfl (by decide) (Nat.le_of_ble_eq_true rfl) (Nat.le_of_ble_eq_true rfl) (Nat.le_of_ble_eq_true rfl) (Nat.le_of_ble_eq_true rfl) ⟨rfl, rfl, rfl⟩ ?_
    refine c_X11_tonight hT hC h_5.1 (by omega) (fun I1 g1 g2 g3 => ?_)
    refine s_aload_n 20 dX11_can_19 rfl rfl ?_
    refine s_iload_n 21 dX11_can_20 rfl rfl ?_
    refine s_callV0 (M' := M_X11_onsOf) (as := [_]) 24 dX11_can_21 rfl cw_X11_231 rfl rfl sh_0 rfl (by decide) (Nat.le_of_ble_eq_true rfl) (Nat.le_of_ble_eq_true rfl) (Nat.le_of_ble_eq_true rfl) (Nat.le_of_ble_eq_true rfl) ⟨rfl, rfl, rfl⟩ ?_
    refine c_X11_onsOf hT g3 h_5.1 h_5.2 ?_
    refine s_callV0 (M' := M_X4_canBe) (as := [_]) 27 dX11_can_24 rfl cw_X11_234 rfl rfl (isN_sh isN_85) rfl (by decide) (isN_lt isN_85) (Nat.le_of_ble_eq_true rfl) (Nat.le_of_ble_eq_true rfl) (Nat.le_of_ble_eq_true rfl) ⟨rfl, rfl, rfl⟩ ?_
    have hr9 := (hC.2.2.2.2.2.2.1 h_5.1).1
    have e09 := hr9.1.1
    refine c_X4_canBe hT isN_85 hP g3.1.2.2.2.2.2.1 hr9.1 g3.2.2.1 g2.2.2.2.1 hr9.p (by omega) (plS_hi hr9.1) ?_
    rw [bI_c (Can_s (S' := Ons r s i) hr9.1 (sq_P hr9.1) (fun k a b => by rw [has_plS hr9.1 ⟨a, by omega⟩]; exact ⟨fun z => z.2, fun z => ⟨b, z⟩⟩))]
    refine s_callV0 (M' := M_X11_fineIf) (as := [_]) 30 dX11_can_27 rfl cw_X11_217 rfl rfl sh_0 rfl (by decide) (Nat.le_of_ble_eq_true rfl) (Nat.le_of_ble_eq_true rfl) (Nat.le_of_ble_eq_true rfl) (Nat.le_of_ble_eq_true rfl) ⟨rfl, rfl, rfl⟩ ?_
    refine c_X11_fineIf ?_
    refine s_iret dX11_can_30 rfl rfl ?_
    first | exact hn h_5 | exact hy h_5 I1 (m + 1) (by omega) (Hi.nt isN_85 g1) g3
  refine s_aload_n 9 dX11_can_8 rfl rfl ?_
  refine s_iconst 10 dX11_can_9 rfl ?_
  refine s_callV0 (M' := M_X11_refuse) (as := [_]) 13 dX11_can_10 rfl cw_X11_102 rfl rfl sh_0 rfl (by decide) (Nat.le_of_ble_eq_true rfl) (Nat.le_of_ble_eq_true rfl) (Nat.le_of_ble_eq_true rfl) (Nat.le_of_ble_eq_true rfl) ⟨rfl, rfl, rfl⟩ ?_
  refine c_X11_refuse (by decide) ?_
  refine s_iret dX11_can_13 rfl rfl ?_
  first | exact hn h_5 | exact hy h_5 I1 (m + 1) (by omega) (Hi.nt isN_85 g1) g3
set_option maxHeartbeats 4000000 in
theorem c_X11_slack {E : ET} {I : MI} {L : ML} {R : MR} {Q : Option AV → MI → ML → MR → Prop} {m : Int} {bt : F1} {n ft pl w : Int} {HP : Prop} {r s : F1} {a : List Int} {U D K : List (List Int)} {P P' : Nat} {i : Int} (hT : Topo R) (hC : CV I L R m bt n ft pl w HP r s a U D K P P') (hm : 0 ≤ m ∧ m ≤ 900000) (hi : -2147483648 ≤ i ∧ i ≤ 2147483647) (h : ∀ I', Hi I I' → CV I' L R (m + 8) bt n ft pl (pick (HP ∧ 0 ≤ i ∧ i < 7) 0 1) HP r s a U D K P P' → Q (some (vi (pick (HP ∧ 0 ≤ i ∧ i < 7) (slF r (bgF r (r 2) s) (clF r (r 2) s) (Bod r (sqF r (r 2) s) (Ons r s i)) (sqF r (r 2) s) (r 7).toNat) (-1000)))) I' L R) : CT E M_X11_slack 161 yX11_slack [(vr (0)), (vi (i))] I L R Q := by
  refine CT_of rfl rfl (fun h => by cases h) (Nat.le_of_ble_eq_true rfl) (fun X => ?_)
  show V X _ z0 0 [some (vr (0)), some (vi (i))] [] I L R _
  obtain ⟨hn, hy⟩ := c_spl hC h
  have bd := hC.bd
  have hP := hC.1.1
  have t2 := hC.1.2.2.2.1
  have hR := hC.2.2.1
  have hE := hC.2.2.2.1
  refine s_aload_n 1 dX11_slack_0 rfl rfl ?_
  refine s_iload_n 2 dX11_slack_1 rfl rfl ?_
  refine s_callV0 (M' := M_X11_isPlayer) (as := [_]) 5 dX11_slack_2 rfl cw_X11_228 rfl rfl sh_0 rfl (by decide) (Nat.le_of_ble_eq_true rfl) (Nat.le_of_ble_eq_true rfl) (Nat.le_of_ble_eq_true rfl) (Nat.le_of_ble_eq_true rfl) ⟨rfl, rfl, rfl⟩ ?_
  refine c_X11_isPlayer hC hi ?_
  refine s_ifb_ne 18 8 dX11_slack_5 rfl rfl (fun h_5 => ?_) (fun h_5 => ?_)
  · skip
    refine s_aload_n 19 dX11_slack_18 rfl rfl ?_
    refine s_aload_n 20 dX11_slack_19 rfl rfl ?_
    refine s_callV0 (M' := M_X11_tonight) (as := []) 23 dX11_slack_20 rfl cw_X11_184 rfl rfl sh_0 rfl (by decide) (Nat.le_of_ble_eq_true rfl) (Nat.le_of_ble_eq_true rfl) (Nat.le_of_ble_eq_true rfl) (Nat.le_of_ble_eq_true rfl) ⟨rfl, rfl, rfl⟩ ?_
    refine c_X11_tonight hT hC h_5.1 (by omega) (fun I1 g1 g2 g3 => ?_)
    refine s_aload_n 24 dX11_slack_23 rfl rfl ?_
    refine s_iload_n 25 dX11_slack_24 rfl rfl ?_
    refine s_callV0 (M' := M_X11_onsOf) (as := [_]) 28 dX11_slack_25 rfl cw_X11_231 rfl rfl sh_0 rfl (by decide) (Nat.le_of_ble_eq_true rfl) (Nat.le_of_ble_eq_true rfl) (Nat.le_of_ble_eq_true rfl) (Nat.le_of_ble_eq_true rfl) ⟨rfl, rfl, rfl⟩ ?_
    refine c_X11_onsOf hT g3 h_5.1 h_5.2 ?_
    refine s_callV0 (M' := M_X4_slackOf) (as := [_]) 31 dX11_slack_28 rfl cw_X11_256 rfl rfl (isN_sh isN_85) rfl (by decide) (isN_lt isN_85) (Nat.le_of_ble_eq_true rfl) (Nat.le_of_ble_eq_true rfl) (Nat.le_of_ble_eq_true rfl) ⟨rfl, rfl, rfl⟩ ?_
    have hr9 := (hC.2.2.2.2.2.2.1 h_5.1).1
    have e09 := hr9.1.1
    have q9 := sq_P (g := r 2) (sc := s) hr9.1
    refine c_X4_slackOf hT isN_85 hP g3.1.2.2.2.2.2.1 hr9.1 g3.2.2.1 g2.2.2.2.1 hr9.p (by omega) (plS_hi hr9.1) ?_
    rw [slF_c (b := bgF r (r 2) s) (c := clF r (r 2) s) (q := sqF r (r 2) s) (B := Bod r (sqF r (r 2) s) (Ons r s i)) (n := r 7) q9.1 (fun _ _ _ => ⟨rfl, rfl⟩) (by omega) (fun j a b => ⟨rfl, Bod_c hr9.1 q9 (fun _ _ _ => rfl) (fun k a b => by rw [has_plS hr9.1 ⟨a, by omega⟩]; exact ⟨fun z => ⟨b, z⟩, fun z => z.2⟩)⟩)]
    refine s_callV0 (M' := M_X11_fine) (as := [_]) 34 dX11_slack_31 rfl cw_X11_119 rfl rfl sh_0 rfl (by decide) (Nat.le_of_ble_eq_true rfl) (Nat.le_of_ble_eq_true rfl) (Nat.le_of_ble_eq_true rfl) (Nat.le_of_ble_eq_true rfl) ⟨rfl, rfl, rfl⟩ ?_
    refine c_X11_fine ?_
    refine s_iret dX11_slack_34 rfl rfl ?_
    first | exact hn h_5 | exact hy h_5 I1 (m + 1) (by omega) (Hi.nt isN_85 g1) g3
  refine s_aload_n 9 dX11_slack_8 rfl rfl ?_
  refine s_iconst 10 dX11_slack_9 rfl ?_
  refine s_callV0 (M' := M_X11_refuse) (as := [_]) 13 dX11_slack_10 rfl cw_X11_102 rfl rfl sh_0 rfl (by decide) (Nat.le_of_ble_eq_true rfl) (Nat.le_of_ble_eq_true rfl) (Nat.le_of_ble_eq_true rfl) (Nat.le_of_ble_eq_true rfl) ⟨rfl, rfl, rfl⟩ ?_
  refine c_X11_refuse (by decide) ?_
  refine s_pop 14 dX11_slack_13 rfl rfl ?_
  refine s_sipush 17 dX11_slack_14 rfl (by decide) ?_
  refine s_iret dX11_slack_17 rfl rfl ?_
  first | exact hn h_5 | exact hy h_5 I1 (m + 1) (by omega) (Hi.nt isN_85 g1) g3
