/-! what the class answers, 2 -/
theorem feP_c {r : F1} {rd g cut : Int} {sc sc' : F1} (hr : WFr r) (hp : Perm (r 5) sc) (h : ∀ i, 0 ≤ i → i < r 5 → sc' i = sc i) : feP r rd g sc' cut = feP r rd g sc cut := by
  funext x
  unfold feP
  rw [MayP_c hr hp h]
theorem CaW.mk {I : MI} {r s : F1} (hr : WFr r) (hs : Perm (r 5) s) (e9 : EnO (I 85 9) s (r 5)) (h1 : I 107 3 = I 85 12 → CasP I r (MayP r (-1) (I 85 10) s (I 85 11))) (h2 : I 107 6 = I 85 12 → BstV (feP r (-1) (I 85 10) s (I 85 11)) (I 107 7)) : CaW I r := fun _ sc e _ => by
  have es : ∀ i, 0 ≤ i → i < r 5 → sc i = s i := fun i a b => (e.2.1 i a b).symm.trans (e9.2.1 i a b)
  rw [MayP_c hr hs es, feP_c hr hs es]
  exact ⟨h1, h2⟩
theorem SetN.cut {I : MI} {N : Nat} {r : F1} {rd o g : Int} {sc : F1} {cut : Int} (h : SetN I N r rd o g sc cut) : I N 11 = cut := h.2.2.2.1.2.2.2.2
theorem CV.use {I : MI} {L : ML} {R : MR} {m : Int} {bt : F1} {n ft pl w : Int} {HP : Prop} {r s : F1} {a : List Int} {U D K : List (List Int)} {P P' : Nat} (h : CV I L R m bt n ft pl w HP r s a U D K P P') (hh : HP) (g : SetN I 85 r (-1) (I 80 0) (r 2) s (s 12)) : (I 107 3 = I 85 12 → CasP I r (MayP r (-1) (r 2) s (s 12))) ∧ (I 107 6 = I 85 12 → BstV (feP r (-1) (r 2) s (s 12)) (I 107 7)) := by
  obtain ⟨hs, hw, hN⟩ := h.2.2.2.2.2.2.1 hh
  have := hN.2.2.1 g.1 s (by rw [g.2.1]; exact h.2.2.2.1.1) hs.p
  rw [g.2.2.1, g.cut] at this
  exact this
/-- the casting has worked -/
theorem CV.ca {I I' : MI} {L : ML} {R : MR} {m : Int} {bt : F1} {n ft pl w : Int} {HP : Prop} {r s : F1} {a : List Int} {U D K : List (List Int)} {P P' : Nat} (h : CV I L R m bt n ft pl w HP r s a U D K P P') (hh : HP) (g : SetN I 85 r (-1) (I 80 0) (r 2) s (s 12)) (e : Eqo [86, 107, 108, 109, 110] I I') (k : GW3 85 P r (-1) (r 2) s (s 12) I') (h3 : I' 107 3 = I 107 3 ∨ I' 107 3 = I 85 12) (h6 : I' 107 6 = I 107 6 ∨ I' 107 6 = I 85 12)
    (c1 : I' 107 3 = I 85 12 → CasP I' r (MayP r (-1) (r 2) s (s 12))) (c2 : I' 107 6 = I 85 12 → BstV (feP r (-1) (r 2) s (s 12)) (I' 107 7)) : CV I' L R m bt n ft pl w HP r s a U D K P P' ∧ SetN I' 85 r (-1) (I' 80 0) (r 2) s (s 12) := by
  have bd := h.bd
  have hP := h.1.1
  have hp : P = 3 ∨ P = 39 := hP
  obtain ⟨hs, hw, hN⟩ := h.2.2.2.2.2.2.1 hh
  have e0 := hs.1.1
  have oth : ∀ c, c ≠ 86 → (c < 107 ∨ 110 < c) → I' c = I c := fun c hc hd => e c (by simp; omega)
  have e85 : I' 85 = I 85 := oth 85 (by decide) (by decide)
  have e80 : I' 80 = I 80 := oth 80 (by decide) (by decide)
  have s2 : SetN I' 85 r (-1) (I 80 0) (r 2) s (s 12) := ⟨by rw [e85]; exact g.1, by rw [e85]; exact g.2.1, by rw [e85]; exact g.2.2.1, k.2.1, k.2.2⟩
  have c9 := h.2.2.2.2.2.1
  unfold CvS at c9
  refine ⟨h.ng (fun c hc => oth c (by omega) (by omega)) ?_ (fun _ => ⟨hN.1.c (oth P (by omega) (by omega)) (oth (P + 35) (by omega) (by omega)), s2.nt h.2.2.2.1.1 hs.p (by omega), CaW.mk hs.1 hs.p ?_ ?_ ?_, hN.2.2.2.1.eq (by omega) (fun c x y => oth c (by omega) (by omega)), ?_, fun i x y => by rw [oth 137 (by decide) (by decide)]; exact hN.2.2.2.2.2.1 i x y, hN.2.2.2.2.2.2.c (oth 136 (by decide) (by decide)) (fun _ _ _ => Iff.rfl)⟩), by rw [e80]; exact s2⟩
  · unfold CvS
    rw [e85]
    omega
  · rw [e85, g.2.1]; exact h.2.2.2.1.1
  · rw [e85, g.2.2.1, g.cut]; exact c1
  · rw [e85, g.2.2.1, g.cut]; exact c2
  · have b5 := hN.2.2.2.2.1
    unfold BaI at *
    rw [oth 111 (by decide) (by decide)]; exact b5
theorem CV.tw {I : MI} {L : ML} {R : MR} {m : Int} {bt : F1} {n ft pl w : Int} {HP : Prop} {r s : F1} {a : List Int} {U D K : List (List Int)} {P P' : Nat} (h : CV I L R m bt n ft pl w HP r s a U D K P P') (hh : HP) : TrW P r I := by
  obtain ⟨hs, hw, hN⟩ := h.2.2.2.2.2.2.1 hh
  exact ⟨h.2.2.1, hN.2.2.2.1, hN.1⟩
/-- the search has worked -/
theorem CV.se {I I' : MI} {L : ML} {R : MR} {m : Int} {bt : F1} {n ft pl w : Int} {HP : Prop} {r s : F1} {a : List Int} {U D K : List (List Int)} {P P' : Nat} (h : CV I L R m bt n ft pl w HP r s a U D K P P') (hh : HP) (e : ∀ c, (c < 111 ∨ 134 < c) → I' c = I c) (hW : TrW P r I') (hB : BaI I' r) : CV I' L R m bt n ft pl w HP r s a U D K P P' := by
  have bd := h.bd
  have hP := h.1.1
  have hp : P = 3 ∨ P = 39 := hP
  obtain ⟨hs, hw, hN⟩ := h.2.2.2.2.2.2.1 hh
  refine h.ng (fun c hc => e c (by omega)) ?_ (fun _ => ⟨hW.2.2, hN.2.1.eq (by omega) (fun c x y => e c (by omega)), hN.2.2.1.eq (e 85 (by decide)) (e 107 (by decide)) (e 109 (by decide)), hW.2.1, hB, fun i x y => by rw [e 137 (by decide)]; exact hN.2.2.2.2.2.1 i x y, hN.2.2.2.2.2.2.c (e 136 (by decide)) (fun _ _ _ => Iff.rfl)⟩)
  have c9 := h.2.2.2.2.2.1
  unfold CvS at *
  rw [e 85 (by decide), e 107 (by decide)]; exact c9
theorem CV.sn {I I' : MI} {L : ML} {R : MR} {m : Int} {bt : F1} {n ft pl w : Int} {HP : Prop} {r s : F1} {a : List Int} {U D K : List (List Int)} {P P' : Nat} (h : CV I L R m bt n ft pl w HP r s a U D K P P') (hh : HP) (e : NtF 113 I I') (hW : TrW P r I') : CV I' L R m bt n ft pl w HP r s a U D K P P' := by
  refine h.se hh (fun c hc => e c (by omega)) hW ?_
  have b5 := (h.2.2.2.2.2.2.1 hh).2.2.2.2.2.2.1
  unfold BaI at *
  rw [e 111 (by decide)]; exact b5
/-- the sightings have worked -/
theorem CV.sg {I I' : MI} {L : ML} {R : MR} {m : Int} {bt : F1} {n ft pl w : Int} {HP : Prop} {r s : F1} {a : List Int} {U D K : List (List Int)} {P P' : Nat} (h : CV I L R m bt n ft pl w HP r s a U D K P P') (hh : HP) (e : Eqo [136] I I') (k : GW7 P r I') : CV I' L R m bt n ft pl w HP r s a U D K P P' := by
  have bd := h.bd
  have hP := h.1.1
  have hp : P = 3 ∨ P = 39 := hP
  obtain ⟨hs, hw, hN⟩ := h.2.2.2.2.2.2.1 hh
  have oth : ∀ c, c ≠ 136 → I' c = I c := fun c hc => e c (by simpa using hc)
  refine h.ng (fun c hc => oth c (by omega)) ?_ (fun _ => ⟨hN.1.c (oth P (by omega)) (oth (P + 35) (by omega)), hN.2.1.eq (by omega) (fun c x y => oth c (by omega)), hN.2.2.1.eq (oth 85 (by decide)) (oth 107 (by decide)) (oth 109 (by decide)), hN.2.2.2.1.eq (by omega) (fun c x y => oth c (by omega)), ?_, k.2.1, k.2.2⟩)
  · have c9 := h.2.2.2.2.2.1
    unfold CvS at *
    rw [oth 85 (by decide), oth 107 (by decide)]; exact c9
  · have b5 := hN.2.2.2.2.1
    unfold BaI at *
    rw [oth 111 (by decide)]; exact b5
theorem few_r {G : Int → Prop} {r : F1} (h : 1 ≤ r 4 ∧ r 4 ≤ 7) : splV G (allF (r 4)) = fewV G (r 4).toNat := by
  have := few_spl (G := G) (n := (r 4).toNat) (by omega)
  rw [show (((r 4).toNat : Nat) : Int) = r 4 by omega] at this
  exact this
set_option maxHeartbeats 4000000 in
theorem c_X11_could {E : ET} {I : MI} {L : ML} {R : MR} {Q : Option AV → MI → ML → MR → Prop} {m : Int} {bt : F1} {n ft pl w : Int} {HP : Prop} {r s : F1} {a : List Int} {U D K : List (List Int)} {P P' : Nat} {i : Int} (hT : Topo R) (hC : CV I L R m bt n ft pl w HP r s a U D K P P') (hm : 0 ≤ m ∧ m ≤ 900000) (hi : -2147483648 ≤ i ∧ i ≤ 2147483647) (h : ∀ I', Hi I I' → CV I' L R (m + 8) bt n ft pl (pick HP (pick (0 ≤ i ∧ i ≤ allF (r 4)) 0 2) 1) HP r s a U D K P P' → Q (some (vi (pick HP (pick (0 ≤ i ∧ i ≤ allF (r 4)) (bI (MayP r (-1) (r 2) s (s 12) i)) (-1)) (-1)))) I' L R) : CT E M_X11_could 161 yX11_could [(vr (0)), (vi (i))] I L R Q := by
  refine CT_of rfl rfl (fun h => by cases h) (Nat.le_of_ble_eq_true rfl) (fun X => ?_)
  show V X _ z0 0 [some (vr (0)), some (vi (i))] [] I L R _
  have bd := hC.bd
  have hP := hC.1.1
  have t2 := hC.1.2.2.2.1
  have h85 := hC.1.2.2.2.2.2.1
  have hR := hC.2.2.1
  by_cases hh : HP
  · obtain ⟨hs, hw9, hN⟩ := hC.2.2.2.2.2.2.1 hh
    have hr9 := hs.1
    have e09 := hr9.1
    have a7 := allF_7 (n := r 4) ⟨by omega, by omega⟩
    rw [pick_t hh, pick_t hh] at h
    by_cases h0 : 0 ≤ i ∧ i ≤ allF (r 4)
    · rw [pick_t h0, pick_t h0] at h
      refine s_aload_n 1 dX11_could_0 rfl rfl ?_
      refine s_callV0 (M' := M_X11_noPiece) (as := []) 4 dX11_could_1 rfl cw_X11_151 rfl rfl sh_0 rfl (by decide) (Nat.le_of_ble_eq_true rfl) (Nat.le_of_ble_eq_true rfl) (Nat.le_of_ble_eq_true rfl) (Nat.le_of_ble_eq_true rfl) ⟨rfl, rfl, rfl⟩ ?_
      refine c_X11_noPiece hC ?_
      refine s_ifb_eq 13 7 dX11_could_4 rfl rfl (fun h_4 => ?_) (fun h_4 => by exfalso; exact absurd hh h_4)
      refine s_iload_n 14 dX11_could_13 rfl rfl ?_
      refine s_if_lt 28 17 dX11_could_14 rfl rfl (by first | omega | exact bI_r _ | exact iI_r _) (fun h_14 => by exfalso; omega) (fun h_14 => ?_)
      refine s_iload_n 18 dX11_could_17 rfl rfl ?_
      refine s_aload_n 19 dX11_could_18 rfl rfl ?_
      refine s_getR 22 dX11_could_19 rfl fl_X11_19 (fun _ _ _ _ => rfl) (by assumption) sh_0 (Nat.le_of_ble_eq_true rfl) ?_
      refine s_callV0 (M' := M_X5_allParts) (as := []) 25 dX11_could_22 rfl cw_X11_237 rfl rfl (isP_sh (by assumption)) rfl (by decide) (isP_lt (by assumption)) (Nat.le_of_ble_eq_true rfl) (Nat.le_of_ble_eq_true rfl) (Nat.le_of_ble_eq_true rfl) ⟨rfl, rfl, rfl⟩ ?_
      refine c_X5_allParts hP hR ?_
      refine s_icmp_le 34 28 dX11_could_25 rfl rfl (by first | omega | exact bI_r _ | exact iI_r _) (by first | omega | exact bI_r _ | exact iI_r _) (fun h_25 => ?_) (fun h_25 => by exfalso; omega)
      refine s_aload_n 35 dX11_could_34 rfl rfl ?_
      refine s_aload_n 36 dX11_could_35 rfl rfl ?_
      refine s_callV0 (M' := M_X11_tonight) (as := []) 39 dX11_could_36 rfl cw_X11_184 rfl rfl sh_0 rfl (by decide) (Nat.le_of_ble_eq_true rfl) (Nat.le_of_ble_eq_true rfl) (Nat.le_of_ble_eq_true rfl) (Nat.le_of_ble_eq_true rfl) ⟨rfl, rfl, rfl⟩ ?_
      refine c_X11_tonight hT hC hh (by omega) (fun I1 g1 g2 g3 => ?_)
      refine s_iload_n 40 dX11_could_39 rfl rfl ?_
      refine s_callU0 (M' := M_X3_good) (as := [_]) 43 dX11_could_40 rfl cw_X11_240_3 rfl rfl (isN_sh isN_85) rfl (by decide) (isN_lt isN_85) (Nat.le_of_ble_eq_true rfl) (Nat.le_of_ble_eq_true rfl) (Nat.le_of_ble_eq_true rfl) ⟨rfl, rfl, rfl⟩ ?_
      refine c_X3_good3 hT isN_85 hP h85 hr9 hs.p (by omega) (g2.gw g3.2.2.1) hi (fun I2 k1 k2 => ?_)
      obtain ⟨C2, S2⟩ := g3.gd hh g2 k1 k2
      rw [bI_c (show ((0 ≤ i ∧ i < 128) ∧ MayP r (-1) (r 2) s (s 12) i) ↔ MayP r (-1) (r 2) s (s 12) i from ⟨fun z => z.2, fun z => ⟨⟨by omega, by omega⟩, z⟩⟩)]
      refine s_callV0 (M' := M_X11_fineIf) (as := [_]) 46 dX11_could_43 rfl cw_X11_217 rfl rfl sh_0 rfl (by decide) (Nat.le_of_ble_eq_true rfl) (Nat.le_of_ble_eq_true rfl) (Nat.le_of_ble_eq_true rfl) (Nat.le_of_ble_eq_true rfl) ⟨rfl, rfl, rfl⟩ ?_
      refine c_X11_fineIf ?_
      refine s_iret dX11_could_46 rfl rfl ?_
      exact h _ (((Hi.nt isN_85 g1).tr (Hi.e86 k1)).st (by decide)) ((C2.mo (by omega)).rf (by decide))
    · rw [pick_f h0, pick_f h0] at h
      refine s_aload_n 1 dX11_could_0 rfl rfl ?_
      refine s_callV0 (M' := M_X11_noPiece) (as := []) 4 dX11_could_1 rfl cw_X11_151 rfl rfl sh_0 rfl (by decide) (Nat.le_of_ble_eq_true rfl) (Nat.le_of_ble_eq_true rfl) (Nat.le_of_ble_eq_true rfl) (Nat.le_of_ble_eq_true rfl) ⟨rfl, rfl, rfl⟩ ?_
      refine c_X11_noPiece hC ?_
      refine s_ifb_eq 13 7 dX11_could_4 rfl rfl (fun h_4 => ?_) (fun h_4 => by exfalso; exact absurd hh h_4)
      refine s_iload_n 14 dX11_could_13 rfl rfl ?_
      refine s_if_lt 28 17 dX11_could_14 rfl rfl (by first | omega | exact bI_r _ | exact iI_r _) (fun h_14 => ?_) (fun h_14 => ?_)
      · skip
        refine s_aload_n 29 dX11_could_28 rfl rfl ?_
        refine s_iconst 30 dX11_could_29 rfl ?_
        refine s_callV0 (M' := M_X11_refuse) (as := [_]) 33 dX11_could_30 rfl cw_X11_102 rfl rfl sh_0 rfl (by decide) (Nat.le_of_ble_eq_true rfl) (Nat.le_of_ble_eq_true rfl) (Nat.le_of_ble_eq_true rfl) (Nat.le_of_ble_eq_true rfl) ⟨rfl, rfl, rfl⟩ ?_
        refine c_X11_refuse (by decide) ?_
        refine s_iret dX11_could_33 rfl rfl ?_
        exact h _ (Hi.rf.st (by decide)) ((hC.mo (by omega)).rf (by decide))
      refine s_iload_n 18 dX11_could_17 rfl rfl ?_
      refine s_aload_n 19 dX11_could_18 rfl rfl ?_
      refine s_getR 22 dX11_could_19 rfl fl_X11_19 (fun _ _ _ _ => rfl) (by assumption) sh_0 (Nat.le_of_ble_eq_true rfl) ?_
      refine s_callV0 (M' := M_X5_allParts) (as := []) 25 dX11_could_22 rfl cw_X11_237 rfl rfl (isP_sh (by assumption)) rfl (by decide) (isP_lt (by assumption)) (Nat.le_of_ble_eq_true rfl) (Nat.le_of_ble_eq_true rfl) (Nat.le_of_ble_eq_true rfl) ⟨rfl, rfl, rfl⟩ ?_
      refine c_X5_allParts hP hR ?_
      refine s_icmp_le 34 28 dX11_could_25 rfl rfl (by first | omega | exact bI_r _ | exact iI_r _) (by first | omega | exact bI_r _ | exact iI_r _) (fun h_25 => by exfalso; omega) (fun h_25 => ?_)
      refine s_aload_n 29 dX11_could_28 rfl rfl ?_
      refine s_iconst 30 dX11_could_29 rfl ?_
      refine s_callV0 (M' := M_X11_refuse) (as := [_]) 33 dX11_could_30 rfl cw_X11_102 rfl rfl sh_0 rfl (by decide) (Nat.le_of_ble_eq_true rfl) (Nat.le_of_ble_eq_true rfl) (Nat.le_of_ble_eq_true rfl) (Nat.le_of_ble_eq_true rfl) ⟨rfl, rfl, rfl⟩ ?_
      refine c_X11_refuse (by decide) ?_
      refine s_iret dX11_could_33 rfl rfl ?_
      exact h _ (Hi.rf.st (by decide)) ((hC.mo (by omega)).rf (by decide))
  · rw [pick_f hh, pick_f hh] at h
    refine s_aload_n 1 dX11_could_0 rfl rfl ?_
    refine s_callV0 (M' := M_X11_noPiece) (as := []) 4 dX11_could_1 rfl cw_X11_151 rfl rfl sh_0 rfl (by decide) (Nat.le_of_ble_eq_true rfl) (Nat.le_of_ble_eq_true rfl) (Nat.le_of_ble_eq_true rfl) (Nat.le_of_ble_eq_true rfl) ⟨rfl, rfl, rfl⟩ ?_
    refine c_X11_noPiece hC ?_
    refine s_ifb_eq 13 7 dX11_could_4 rfl rfl (fun h_4 => by exfalso; exact absurd h_4 (fun z => z hh)) (fun h_4 => ?_)
    refine s_aload_n 8 dX11_could_7 rfl rfl ?_
    refine s_iconst 9 dX11_could_8 rfl ?_
    refine s_callV0 (M' := M_X11_refuse) (as := [_]) 12 dX11_could_9 rfl cw_X11_102 rfl rfl sh_0 rfl (by decide) (Nat.le_of_ble_eq_true rfl) (Nat.le_of_ble_eq_true rfl) (Nat.le_of_ble_eq_true rfl) (Nat.le_of_ble_eq_true rfl) ⟨rfl, rfl, rfl⟩ ?_
    refine c_X11_refuse (by decide) ?_
    refine s_iret dX11_could_12 rfl rfl ?_
    exact h _ (Hi.rf.st (by decide)) ((hC.mo (by omega)).rf (by decide))
set_option maxHeartbeats 4000000 in
theorem c_X11_fewest {E : ET} {I : MI} {L : ML} {R : MR} {Q : Option AV → MI → ML → MR → Prop} {m : Int} {bt : F1} {n ft pl w : Int} {HP : Prop} {r s : F1} {a : List Int} {U D K : List (List Int)} {P P' : Nat}  (hT : Topo R) (hC : CV I L R m bt n ft pl w HP r s a U D K P P') (hm : 0 ≤ m ∧ m ≤ 900000) (h : ∀ I', Hi I I' → CV I' L R (m + 8) bt n ft pl (pick (HP) 0 1) HP r s a U D K P P' → Q (some (vi (pick (HP) (fewV (MayP r (-1) (r 2) s (s 12)) (r 4).toNat) (-1)))) I' L R) : CT E M_X11_fewest 161 yX11_fewest [(vr (0))] I L R Q := by
  refine CT_of rfl rfl (fun h => by cases h) (Nat.le_of_ble_eq_true rfl) (fun X => ?_)
  show V X _ z0 0 [some (vr (0))] [] I L R _
  obtain ⟨hn, hy⟩ := c_spl hC h
  have bd := hC.bd
  have hP := hC.1.1
  have t2 := hC.1.2.2.2.1
  have hR := hC.2.2.1
  have hE := hC.2.2.2.1
  refine s_aload_n 1 dX11_fewest_0 rfl rfl ?_
  refine s_callV0 (M' := M_X11_noPiece) (as := []) 4 dX11_fewest_1 rfl cw_X11_151 rfl rfl sh_0 rfl (by decide) (Nat.le_of_ble_eq_true rfl) (Nat.le_of_ble_eq_true rfl) (Nat.le_of_ble_eq_true rfl) (Nat.le_of_ble_eq_true rfl) ⟨rfl, rfl, rfl⟩ ?_
  refine c_X11_noPiece hC ?_
  refine s_ifb_eq 15 7 dX11_fewest_4 rfl rfl (fun h_4 => ?_) (fun h_4 => ?_)
  · skip
    refine s_aload_n 16 dX11_fewest_15 rfl rfl ?_
    refine s_aload_n 17 dX11_fewest_16 rfl rfl ?_
    refine s_callV0 (M' := M_X11_tonight) (as := []) 20 dX11_fewest_17 rfl cw_X11_184 rfl rfl sh_0 rfl (by decide) (Nat.le_of_ble_eq_true rfl) (Nat.le_of_ble_eq_true rfl) (Nat.le_of_ble_eq_true rfl) (Nat.le_of_ble_eq_true rfl) ⟨rfl, rfl, rfl⟩ ?_
    have hh := nn_n h_4
    obtain ⟨hs, hw9, hN⟩ := hC.2.2.2.2.2.2.1 hh
    have hr9 := hs.1
    have e09 := hr9.1
    refine c_X11_tonight hT hC hh (by omega) (fun I1 g1 g2 g3 => ?_)
    refine s_aload_n 21 dX11_fewest_20 rfl rfl ?_
    refine s_getR 24 dX11_fewest_21 rfl fl_X11_19 (fun _ _ _ _ => rfl) (by assumption) sh_0 (Nat.le_of_ble_eq_true rfl) ?_
    refine s_callV0 (M' := M_X5_allParts) (as := []) 27 dX11_fewest_24 rfl cw_X11_237 rfl rfl (isP_sh (by assumption)) rfl (by decide) (isP_lt (by assumption)) (Nat.le_of_ble_eq_true rfl) (Nat.le_of_ble_eq_true rfl) (Nat.le_of_ble_eq_true rfl) ⟨rfl, rfl, rfl⟩ ?_
    refine c_X5_allParts hP g3.2.2.1 ?_
    refine s_callU0 (M' := M_X3_fewestFor) (as := [_]) 30 dX11_fewest_27 rfl cw_X11_271_3 rfl rfl (isN_sh isN_85) rfl (by decide) (isN_lt isN_85) (Nat.le_of_ble_eq_true rfl) (Nat.le_of_ble_eq_true rfl) (Nat.le_of_ble_eq_true rfl) ⟨rfl, rfl, rfl⟩ ?_
    have a7 := allF_7 (n := r 4) ⟨by omega, by omega⟩
    refine c_X3_fewestFor3 hT isN_85 hP hC.1.2.2.2.2.2.1 hr9 hs.p (by omega) (g2.gw g3.2.2.1) a7 (fun I2 k1 k2 => ?_)
    obtain ⟨C2, S2⟩ := g3.gd hh g2 k1 k2
    rw [few_r ⟨by omega, by omega⟩]
    refine s_callV0 (M' := M_X11_fine) (as := [_]) 33 dX11_fewest_30 rfl cw_X11_119 rfl rfl sh_0 rfl (by decide) (Nat.le_of_ble_eq_true rfl) (Nat.le_of_ble_eq_true rfl) (Nat.le_of_ble_eq_true rfl) (Nat.le_of_ble_eq_true rfl) ⟨rfl, rfl, rfl⟩ ?_
    refine c_X11_fine ?_
    refine s_iret dX11_fewest_33 rfl rfl ?_
    first | exact hn h_4 | exact hy hh I2 (m + 1) (by omega) ((Hi.nt isN_85 g1).tr (Hi.e86 k1)) C2
  refine s_aload_n 8 dX11_fewest_7 rfl rfl ?_
  refine s_iconst 9 dX11_fewest_8 rfl ?_
  refine s_callV0 (M' := M_X11_refuse) (as := [_]) 12 dX11_fewest_9 rfl cw_X11_102 rfl rfl sh_0 rfl (by decide) (Nat.le_of_ble_eq_true rfl) (Nat.le_of_ble_eq_true rfl) (Nat.le_of_ble_eq_true rfl) (Nat.le_of_ble_eq_true rfl) ⟨rfl, rfl, rfl⟩ ?_
  refine c_X11_refuse (by decide) ?_
  refine s_goto 33 dX11_fewest_12 rfl ?_
  refine s_iret dX11_fewest_33 rfl rfl ?_
  first | exact hn h_4 | exact hy hh I2 (m + 1) (by omega) ((Hi.nt isN_85 g1).tr (Hi.e86 k1)) C2
set_option maxHeartbeats 4000000 in
theorem c_X11_player {E : ET} {I : MI} {L : ML} {R : MR} {Q : Option AV → MI → ML → MR → Prop} {m : Int} {bt : F1} {n ft pl w : Int} {HP : Prop} {r s : F1} {a : List Int} {U D K : List (List Int)} {P P' : Nat} {i : Int} (hT : Topo R) (hC : CV I L R m bt n ft pl w HP r s a U D K P P') (hm : 0 ≤ m ∧ m ≤ 900000) (hi : -2147483648 ≤ i ∧ i ≤ 2147483647) (h : ∀ I', Hi I I' → CV I' L R (m + 8) bt n ft pl (pick (HP ∧ 0 ≤ i ∧ i < r 4) 0 1) HP r s a U D K P P' → Q (some (vi (pick (HP ∧ 0 ≤ i ∧ i < r 4) (bestX (valR (MayP r (-1) (r 2) s (s 12)) (r 4).toNat) (rgs (r 4).toNat) i) (-1)))) I' L R) : CT E M_X11_player 161 yX11_player [(vr (0)), (vi (i))] I L R Q := by
  refine CT_of rfl rfl (fun h => by cases h) (Nat.le_of_ble_eq_true rfl) (fun X => ?_)
  show V X _ z0 0 [some (vr (0)), some (vi (i))] [] I L R _
  obtain ⟨hn, hy⟩ := c_spl hC h
  have bd := hC.bd
  have hP := hC.1.1
  have t2 := hC.1.2.2.2.1
  have hR := hC.2.2.1
  have hE := hC.2.2.2.1
  refine s_aload_n 1 dX11_player_0 rfl rfl ?_
  refine s_iload_n 2 dX11_player_1 rfl rfl ?_
  refine s_callV0 (M' := M_X11_isPart) (as := [_]) 5 dX11_player_2 rfl cw_X11_203 rfl rfl sh_0 rfl (by decide) (Nat.le_of_ble_eq_true rfl) (Nat.le_of_ble_eq_true rfl) (Nat.le_of_ble_eq_true rfl) (Nat.le_of_ble_eq_true rfl) ⟨rfl, rfl, rfl⟩ ?_
  refine c_X11_isPart hC hi ?_
  refine s_ifb_ne 14 8 dX11_player_5 rfl rfl (fun h_5 => ?_) (fun h_5 => ?_)
  · skip
    refine s_aload_n 15 dX11_player_14 rfl rfl ?_
    refine s_callV0 (M' := M_X11_tonight) (as := []) 18 dX11_player_15 rfl cw_X11_184 rfl rfl sh_0 rfl (by decide) (Nat.le_of_ble_eq_true rfl) (Nat.le_of_ble_eq_true rfl) (Nat.le_of_ble_eq_true rfl) (Nat.le_of_ble_eq_true rfl) ⟨rfl, rfl, rfl⟩ ?_
    have hh := h_5.1
    obtain ⟨hs, hw9, hN⟩ := hC.2.2.2.2.2.2.1 hh
    have hr9 := hs.1
    have e09 := hr9.1
    refine c_X11_tonight hT hC hh (by omega) (fun I1 g1 g2 g3 => ?_)
    refine s_pop 19 dX11_player_18 rfl rfl ?_
    refine s_aload_n 20 dX11_player_19 rfl rfl ?_
    refine s_aload_n 21 dX11_player_20 rfl rfl ?_
    refine s_getR 24 dX11_player_21 rfl fl_X11_63 (fun _ _ _ _ => rfl) (T_X11_casting hT) sh_0 (Nat.le_of_ble_eq_true rfl) ?_
    refine s_iload_n 25 dX11_player_24 rfl rfl ?_
    refine s_callV0 (M' := M_X1_playerOf) (as := [_]) 28 dX11_player_25 rfl cw_X11_274 rfl rfl sh_107 rfl (by decide) (Nat.le_of_ble_eq_true rfl) (Nat.le_of_ble_eq_true rfl) (Nat.le_of_ble_eq_true rfl) (Nat.le_of_ble_eq_true rfl) ⟨rfl, rfl, rfl⟩ ?_
    refine c_X1_playerOf hT hP hC.1.2.2.2.2.2.1 hr9 hs.p (by omega) (g2.gw g3.2.2.1) (g3.use hh g2).1 h_5.2 (fun I2 k1 k2 k3 k4 k5 => ?_)
    obtain ⟨C2, S2⟩ := g3.ca hh g2 (k1.mo (by decide)) k2 (Or.inr k3) (Or.inl (k4 6 (by decide) (by decide))) (fun _ => k5) (fun z => by rw [k4 6 (by decide) (by decide)] at z; rw [k4 7 (by decide) (by decide)]; exact (g3.use hh g2).2 z)
    refine s_callV0 (M' := M_X11_fine) (as := [_]) 31 dX11_player_28 rfl cw_X11_119 rfl rfl sh_0 rfl (by decide) (Nat.le_of_ble_eq_true rfl) (Nat.le_of_ble_eq_true rfl) (Nat.le_of_ble_eq_true rfl) (Nat.le_of_ble_eq_true rfl) ⟨rfl, rfl, rfl⟩ ?_
    refine c_X11_fine ?_
    refine s_iret dX11_player_31 rfl rfl ?_
    first | exact hn h_5 | exact hy h_5 I2 (m + 1) (by omega) ((Hi.nt isN_85 g1).tr (fun c hc => k1 c (by simp; omega))) C2
  refine s_aload_n 9 dX11_player_8 rfl rfl ?_
  refine s_iconst 10 dX11_player_9 rfl ?_
  refine s_callV0 (M' := M_X11_refuse) (as := [_]) 13 dX11_player_10 rfl cw_X11_102 rfl rfl sh_0 rfl (by decide) (Nat.le_of_ble_eq_true rfl) (Nat.le_of_ble_eq_true rfl) (Nat.le_of_ble_eq_true rfl) (Nat.le_of_ble_eq_true rfl) ⟨rfl, rfl, rfl⟩ ?_
  refine c_X11_refuse (by decide) ?_
  refine s_iret dX11_player_13 rfl rfl ?_
  first | exact hn h_5 | exact hy h_5 I2 (m + 1) (by omega) ((Hi.nt isN_85 g1).tr (fun c hc => k1 c (by simp; omega))) C2
