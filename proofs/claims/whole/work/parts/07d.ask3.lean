/-! what the class answers, 3 -/
theorem SOk.ct {r s : F1} {a : List Int} (hs : SOk r s a) : 0 ≤ s 12 ∧ s 12 < 16384 := by
  have e0 := hs.1.1
  have h1 := hs.2.2.2.2
  have hp2 : (2 : Nat) ^ (r 7).toNat ≤ 2 ^ 14 := Nat.pow_le_pow_right (by omega) (by omega)
  have hp3 : (2 : Int) ^ (r 7).toNat = ((2 ^ (r 7).toNat : Nat) : Int) := by simp
  omega
theorem best_bd {val : List Int → Int} {Ls : List (List Int)} (h : ∀ l, -2 ≤ val l ∧ val l ≤ 7) : -2 ≤ bestV val Ls ∧ bestV val Ls ≤ 7 := by
  unfold bestV
  split
  · exact ⟨by decide, by decide⟩
  · exact h _
theorem valF_bd {r : F1} {rd g cut : Int} (h : 1 ≤ r 4 ∧ r 4 ≤ 7) (l : List Int) : -2 ≤ valF r rd g cut l ∧ valF r rd g cut l ≤ 7 := by
  have := few_b (G := MayP r rd g (vL l) cut) (n := (r 4).toNat) (by omega)
  unfold valF
  omega
theorem fold_val {val : List Int → Int} : ∀ {Ls : List (List Int)} {o : Option (List Int)} {b : List Int} (_ : ∀ c, o = some c → val c ≠ -2), Ls.foldl (stB val) o = some b → val b ≠ -2
  | [], o, b, h, e => h b e
  | c :: t, o, b, h, e => by
    rw [List.foldl_cons] at e
    refine fold_val (fun d hd => ?_) e
    unfold stB at hd
    by_cases z : val c = -2
    · rw [if_pos z] at hd; exact h d hd
    · rw [if_neg z] at hd
      cases o with
      | none => have hd : some c = some d := hd; cases hd; exact z
      | some x =>
        have hd : (if val c < val x then some c else some x) = some d := hd
        split at hd
        · cases hd; exact z
        · cases hd; exact h _ rfl
theorem bestX_m2 {val : List Int → Int} {Ls : List (List Int)} {i : Int} (h : bestV val Ls = -2) : bestX val Ls i = -2 := by
  unfold bestV at h
  unfold bestX
  split at h
  · rfl
  · next b e => exact absurd h (fold_val (o := none) (fun c z => by cases z) e)
theorem lstN {p : Nat → Prop} : ∀ n, p n → ∃ m, m ≤ n ∧ p m ∧ ∀ k, k < m → ¬ p k := by
  intro n
  induction n using Nat.strongRecOn with
  | _ n ih =>
    intro hn
    by_cases z : ∃ k, k < n ∧ p k
    · obtain ⟨k, k1, k2⟩ := z
      obtain ⟨m, m1, m2, m3⟩ := ih k k1 k2
      exact ⟨m, by omega, m2, m3⟩
    · exact ⟨n, Nat.le_refl _, hn, fun k k1 k2 => z ⟨k, k1, k2⟩⟩
theorem splV_bd {G : Int → Prop} {s : Int} (hs : 0 ≤ s ∧ s ≤ 127) : splV G s = -2 ∨ (0 ≤ splV G s ∧ splV G s ≤ 7) := by
  by_cases z : ∃ m, Spl G m s
  · obtain ⟨m, hm⟩ := z
    obtain ⟨k, k1, k2, k3⟩ := lstN (p := fun m => Spl G m s) 7 (Spl_7 hs hm)
    have e : splV G s = (k : Int) := SplV.v (Or.inr ⟨by omega, k2, fun j hj => k3 j (by omega)⟩)
    rw [e]; omega
  · exact Or.inl (SplV.v (Or.inl ⟨rfl, fun m y => z ⟨m, y⟩⟩))
theorem seen_two {r : F1} {w v : Int} (h8 : r 8 ≤ 7) (hw : 0 ≤ w ∧ w < r 8) (hv : 0 ≤ v ∧ v < r 8) (hn : w ≠ v) : SeenP r (ior (ishl 1 w) (ishl 1 v)) ↔ BoP r w v := by
  have hs : ∀ k, 0 ≤ k → k < r 8 → (hasI (ior (ishl 1 w) (ishl 1 v)) k ↔ k = w ∨ k = v) := fun k a b => by
    rw [has_or ⟨a, by omega⟩, has_shl (by omega) ⟨a, by omega⟩, has_shl (by omega) ⟨a, by omega⟩]
  unfold BoP
  constructor
  · intro h
    refine ⟨fun e => h w v hw.1 hw.2 hv.1 hv.2 ((hs w hw.1 hw.2).mpr (Or.inl rfl)) ((hs v hv.1 hv.2).mpr (Or.inr rfl)) e (fun u u1 u2 u3 u4 => ?_), fun e => h v w hv.1 hv.2 hw.1 hw.2 ((hs v hv.1 hv.2).mpr (Or.inr rfl)) ((hs w hw.1 hw.2).mpr (Or.inl rfl)) ((ErP.to hn).resolve_left e) (fun u u1 u2 u3 u4 => ?_)⟩
    · rcases (hs u u1 u2).mp u3 with z | z
      · subst z; exact ErP.ir u4.1
      · subst z; exact ErP.ir u4.2
    · rcases (hs u u1 u2).mp u3 with z | z
      · subst z; exact ErP.ir u4.2
      · subst z; exact ErP.ir u4.1
  · rintro ⟨h1, h2⟩ x y x1 x2 y1 y2 x3 y3 e _
    rcases (hs x x1 x2).mp x3 with z | z <;> rcases (hs y y1 y2).mp y3 with z' | z'
    · subst z; subst z'; exact absurd e ErP.ir
    · subst z; subst z'; exact h1 e
    · subst z; subst z'; exact h2 e.as
    · subst z; subst z'; exact absurd e ErP.ir
theorem CV.g7 {I : MI} {L : ML} {R : MR} {m : Int} {bt : F1} {n ft pl w : Int} {HP : Prop} {r s : F1} {a : List Int} {U D K : List (List Int)} {P P' : Nat} (h : CV I L R m bt n ft pl w HP r s a U D K P P') (hh : HP) : GW7 P r I := by
  obtain ⟨hs, hw, hN⟩ := h.2.2.2.2.2.2.1 hh
  exact ⟨h.2.2.1, hN.2.2.2.2.2.1, hN.2.2.2.2.2.2⟩
theorem GW3.p {P : Nat} {I I' : MI} {r : F1} {rd g : Int} {sc : F1} {cut : Int} (hP : isP P) (hr : WFr r) (h : GW3 85 P r rd g sc cut I) (e : ∀ c, c < 107 → I' c = I c) : GW3 85 P r rd g sc cut I' := h.eq hr (fun c hc => e c (by have hp : P = 3 ∨ P = 39 := hP; omega))
set_option maxHeartbeats 4000000 in
theorem c_X11_fewestOfAll {E : ET} {I : MI} {L : ML} {R : MR} {Q : Option AV → MI → ML → MR → Prop} {m : Int} {bt : F1} {n ft pl w : Int} {HP : Prop} {r s : F1} {a : List Int} {U D K : List (List Int)} {P P' : Nat}  (hT : Topo R) (hC : CV I L R m bt n ft pl w HP r s a U D K P P') (hm : 0 ≤ m ∧ m ≤ 900000) (h : ∀ I', Hi I I' → CV I' L R (m + 8) bt n ft pl (pick (HP) 0 1) HP r s a U D K P P' → Q (some (vi (pick (HP) (bestV (valF r (-1) (r 2) (s 12)) (ordL r)) (-1)))) I' L R) : CT E M_X11_fewestOfAll 161 yX11_fewestOfAll [(vr (0))] I L R Q := by
  refine CT_of rfl rfl (fun h => by cases h) (Nat.le_of_ble_eq_true rfl) (fun X => ?_)
  show V X _ z0 0 [some (vr (0))] [] I L R _
  obtain ⟨hn, hy⟩ := c_spl hC h
  have bd := hC.bd
  have hP := hC.1.1
  have t2 := hC.1.2.2.2.1
  have hR := hC.2.2.1
  have hE := hC.2.2.2.1
  refine s_aload_n 1 dX11_fewestOfAll_0 rfl rfl ?_
  refine s_callV0 (M' := M_X11_noPiece) (as := []) 4 dX11_fewestOfAll_1 rfl cw_X11_151 rfl rfl sh_0 rfl (by decide) (Nat.le_of_ble_eq_true rfl) (Nat.le_of_ble_eq_true rfl) (Nat.le_of_ble_eq_true rfl) (Nat.le_of_ble_eq_true rfl) ⟨rfl, rfl, rfl⟩ ?_
  refine c_X11_noPiece hC ?_
  refine s_ifb_eq 13 7 dX11_fewestOfAll_4 rfl rfl (fun h_4 => ?_) (fun h_4 => ?_)
  · skip
    refine s_aload_n 14 dX11_fewestOfAll_13 rfl rfl ?_
    refine s_aload_n 15 dX11_fewestOfAll_14 rfl rfl ?_
    refine s_getR 18 dX11_fewestOfAll_15 rfl fl_X11_70 (fun _ _ _ _ => rfl) (T_X11_search hT) sh_0 (Nat.le_of_ble_eq_true rfl) ?_
    refine s_aload_n 19 dX11_fewestOfAll_18 rfl rfl ?_
    refine s_getR 22 dX11_fewestOfAll_19 rfl fl_X11_38 (fun _ _ _ _ => rfl) (T_X11_evening hT) sh_0 (Nat.le_of_ble_eq_true rfl) ?_
    refine s_getI 25 dX11_fewestOfAll_22 rfl fl_X11_161 (fun _ _ _ _ => rfl) sh_80 (Nat.le_of_ble_eq_true rfl) (fun r_22 => ?_)
    rw [hE.2.2]
    refine s_callV0 (M' := M_X7_bestOfAll) (as := [_]) 28 dX11_fewestOfAll_25 rfl cw_X11_275 rfl rfl sh_111 rfl (by decide) (Nat.le_of_ble_eq_true rfl) (Nat.le_of_ble_eq_true rfl) (Nat.le_of_ble_eq_true rfl) (Nat.le_of_ble_eq_true rfl) ⟨rfl, rfl, rfl⟩ ?_
    have hh := nn_n h_4
    obtain ⟨hs, hw9, hN⟩ := hC.2.2.2.2.2.2.1 hh
    refine c_X7_bestOfAll hT hP hC.1.2.2.2.2.2.2.2.1 hC.1.2.2.2.2.2.2.1 hs.1 (hC.tw hh) hN.2.2.2.2.1 hs.ct (fun I1 k1 k2 k3 k4 k5 => ?_)
    have C2 := hC.se hh (fun c hc => k1 c (by omega) (by omega)) k2 (Or.inr ⟨s 12, hs.ct.1, hs.ct.2, k3, k4, k5⟩)
    refine s_callV0 (M' := M_X11_fine) (as := [_]) 31 dX11_fewestOfAll_28 rfl cw_X11_119 rfl rfl sh_0 rfl (by decide) (Nat.le_of_ble_eq_true rfl) (Nat.le_of_ble_eq_true rfl) (Nat.le_of_ble_eq_true rfl) (Nat.le_of_ble_eq_true rfl) ⟨rfl, rfl, rfl⟩ ?_
    refine c_X11_fine ?_
    refine s_iret dX11_fewestOfAll_31 rfl rfl ?_
    first | exact hn h_4 | exact hy hh I1 m (by omega) (fun c hc => k1 c (by omega) (by omega)) C2
  refine s_aload_n 8 dX11_fewestOfAll_7 rfl rfl ?_
  refine s_iconst 9 dX11_fewestOfAll_8 rfl ?_
  refine s_callV0 (M' := M_X11_refuse) (as := [_]) 12 dX11_fewestOfAll_9 rfl cw_X11_102 rfl rfl sh_0 rfl (by decide) (Nat.le_of_ble_eq_true rfl) (Nat.le_of_ble_eq_true rfl) (Nat.le_of_ble_eq_true rfl) (Nat.le_of_ble_eq_true rfl) ⟨rfl, rfl, rfl⟩ ?_
  refine c_X11_refuse (by decide) ?_
  refine s_iret dX11_fewestOfAll_12 rfl rfl ?_
  first | exact hn h_4 | exact hy hh I1 m (by omega) (fun c hc => k1 c (by omega) (by omega)) C2
set_option maxHeartbeats 4000000 in
theorem c_X11_sceneOfAll {E : ET} {I : MI} {L : ML} {R : MR} {Q : Option AV → MI → ML → MR → Prop} {m : Int} {bt : F1} {n ft pl w : Int} {HP : Prop} {r s : F1} {a : List Int} {U D K : List (List Int)} {P P' : Nat} {i : Int} (hT : Topo R) (hC : CV I L R m bt n ft pl w HP r s a U D K P P') (hm : 0 ≤ m ∧ m ≤ 900000) (hi : -2147483648 ≤ i ∧ i ≤ 2147483647) (h : ∀ I', Hi I I' → CV I' L R (m + 8) bt n ft pl (pick (HP ∧ 0 ≤ i ∧ i < r 5) 0 1) HP r s a U D K P P' → Q (some (vi (pick (HP ∧ 0 ≤ i ∧ i < r 5) (bestX (valF r (-1) (r 2) (s 12)) (ordL r) i) (-1)))) I' L R) : CT E M_X11_sceneOfAll 161 yX11_sceneOfAll [(vr (0)), (vi (i))] I L R Q := by
  refine CT_of rfl rfl (fun h => by cases h) (Nat.le_of_ble_eq_true rfl) (fun X => ?_)
  show V X _ z0 0 [some (vr (0)), some (vi (i))] [] I L R _
  obtain ⟨hn, hy⟩ := c_spl hC h
  have bd := hC.bd
  have hP := hC.1.1
  have t2 := hC.1.2.2.2.1
  have hR := hC.2.2.1
  have hE := hC.2.2.2.1
  refine s_aload_n 1 dX11_sceneOfAll_0 rfl rfl ?_
  refine s_iload_n 2 dX11_sceneOfAll_1 rfl rfl ?_
  refine s_callV0 (M' := M_X11_isScene) (as := [_]) 5 dX11_sceneOfAll_2 rfl cw_X11_178 rfl rfl sh_0 rfl (by decide) (Nat.le_of_ble_eq_true rfl) (Nat.le_of_ble_eq_true rfl) (Nat.le_of_ble_eq_true rfl) (Nat.le_of_ble_eq_true rfl) ⟨rfl, rfl, rfl⟩ ?_
  refine c_X11_isScene hC hi ?_
  refine s_ifb_ne 14 8 dX11_sceneOfAll_5 rfl rfl (fun h_5 => ?_) (fun h_5 => ?_)
  · skip
    refine s_aload_n 15 dX11_sceneOfAll_14 rfl rfl ?_
    refine s_getR 18 dX11_sceneOfAll_15 rfl fl_X11_70 (fun _ _ _ _ => rfl) (T_X11_search hT) sh_0 (Nat.le_of_ble_eq_true rfl) ?_
    refine s_aload_n 19 dX11_sceneOfAll_18 rfl rfl ?_
    refine s_getR 22 dX11_sceneOfAll_19 rfl fl_X11_38 (fun _ _ _ _ => rfl) (T_X11_evening hT) sh_0 (Nat.le_of_ble_eq_true rfl) ?_
    refine s_getI 25 dX11_sceneOfAll_22 rfl fl_X11_161 (fun _ _ _ _ => rfl) sh_80 (Nat.le_of_ble_eq_true rfl) (fun r_22 => ?_)
    rw [hE.2.2]
    refine s_callV0 (M' := M_X7_bestOfAll) (as := [_]) 28 dX11_sceneOfAll_25 rfl cw_X11_275 rfl rfl sh_111 rfl (by decide) (Nat.le_of_ble_eq_true rfl) (Nat.le_of_ble_eq_true rfl) (Nat.le_of_ble_eq_true rfl) (Nat.le_of_ble_eq_true rfl) ⟨rfl, rfl, rfl⟩ ?_
    have hh := h_5.1
    obtain ⟨hs, hw9, hN⟩ := hC.2.2.2.2.2.2.1 hh
    have e09 := hs.1.1
    have bb := best_bd (Ls := ordL r) (valF_bd (r := r) (rd := -1) (g := r 2) (cut := s 12) ⟨by omega, by omega⟩)
    refine c_X7_bestOfAll hT hP hC.1.2.2.2.2.2.2.2.1 hC.1.2.2.2.2.2.2.1 hs.1 (hC.tw hh) hN.2.2.2.2.1 hs.ct (fun I1 k1 k2 k3 k4 k5 => ?_)
    have C2 := hC.se hh (fun c hc => k1 c (by omega) (by omega)) k2 (Or.inr ⟨s 12, hs.ct.1, hs.ct.2, k3, k4, k5⟩)
    have hq := hy h_5 I1 m (by omega) (fun c hc => k1 c (by omega) (by omega)) C2
    refine s_bipush 30 dX11_sceneOfAll_28 rfl (by decide) ?_
    refine s_icmp_ne 40 33 dX11_sceneOfAll_30 rfl rfl (by first | omega | exact bI_r _ | exact iI_r _) (by first | omega | exact bI_r _ | exact iI_r _) (fun h_30 => ?_) (fun h_30 => ?_)
    · skip
      refine s_aload_n 41 dX11_sceneOfAll_40 rfl rfl ?_
      refine s_aload_n 42 dX11_sceneOfAll_41 rfl rfl ?_
      refine s_getR 45 dX11_sceneOfAll_42 rfl fl_X11_70 (fun _ _ _ _ => rfl) (T_X11_search hT) sh_0 (Nat.le_of_ble_eq_true rfl) ?_
      refine s_getI 48 dX11_sceneOfAll_45 rfl fl_X11_278 (fun _ _ _ _ => rfl) sh_111 (Nat.le_of_ble_eq_true rfl) (fun r_45 => ?_)
      refine s_iload_n 49 dX11_sceneOfAll_48 rfl rfl ?_
      refine s_callS0 (M' := M_X11_sceneAt) (as := [_, _]) 52 dX11_sceneOfAll_49 rfl cw_X11_181 rfl rfl (Nat.le_of_ble_eq_true rfl) (Nat.le_of_ble_eq_true rfl) (Nat.le_of_ble_eq_true rfl) ⟨rfl, rfl, rfl⟩ ?_
      rw [k4] at k5
      have k6 := k5 h_30
      refine c_X11_sceneAt (by omega) ?_
      rw [k6.2.1 i h_5.2.1 h_5.2.2]
      refine s_callV0 (M' := M_X11_fine) (as := [_]) 55 dX11_sceneOfAll_52 rfl cw_X11_119 rfl rfl sh_0 rfl (by decide) (Nat.le_of_ble_eq_true rfl) (Nat.le_of_ble_eq_true rfl) (Nat.le_of_ble_eq_true rfl) (Nat.le_of_ble_eq_true rfl) ⟨rfl, rfl, rfl⟩ ?_
      refine c_X11_fine ?_
      refine s_iret dX11_sceneOfAll_55 rfl rfl ?_
      exact hq
    refine s_aload_n 34 dX11_sceneOfAll_33 rfl rfl ?_
    refine s_bipush 36 dX11_sceneOfAll_34 rfl (by decide) ?_
    refine s_callV0 (M' := M_X11_fine) (as := [_]) 39 dX11_sceneOfAll_36 rfl cw_X11_119 rfl rfl sh_0 rfl (by decide) (Nat.le_of_ble_eq_true rfl) (Nat.le_of_ble_eq_true rfl) (Nat.le_of_ble_eq_true rfl) (Nat.le_of_ble_eq_true rfl) ⟨rfl, rfl, rfl⟩ ?_
    refine c_X11_fine ?_
    refine s_iret dX11_sceneOfAll_39 rfl rfl ?_
    have eL : ordL r ≠ [] := fun z => by have := hs.2.1; rw [z] at this; cases this
    rw [bestX_m2 h_30] at hq; exact hq
  refine s_aload_n 9 dX11_sceneOfAll_8 rfl rfl ?_
  refine s_iconst 10 dX11_sceneOfAll_9 rfl ?_
  refine s_callV0 (M' := M_X11_refuse) (as := [_]) 13 dX11_sceneOfAll_10 rfl cw_X11_102 rfl rfl sh_0 rfl (by decide) (Nat.le_of_ble_eq_true rfl) (Nat.le_of_ble_eq_true rfl) (Nat.le_of_ble_eq_true rfl) (Nat.le_of_ble_eq_true rfl) ⟨rfl, rfl, rfl⟩ ?_
  refine c_X11_refuse (by decide) ?_
  refine s_iret dX11_sceneOfAll_13 rfl rfl ?_
  exact hn h_5
set_option maxHeartbeats 4000000 in
theorem c_X11_enough {E : ET} {I : MI} {L : ML} {R : MR} {Q : Option AV → MI → ML → MR → Prop} {m : Int} {bt : F1} {n ft pl w : Int} {HP : Prop} {r s : F1} {a : List Int} {U D K : List (List Int)} {P P' : Nat}  (hT : Topo R) (hC : CV I L R m bt n ft pl w HP r s a U D K P P') (hm : 0 ≤ m ∧ m ≤ 900000) (h : ∀ I', Hi I I' → CV I' L R (m + 8) bt n ft pl (pick (HP) 0 1) HP r s a U D K P P' → Q (some (vi (pick (HP) (bI (bestV (valF r (-1) (r 2) (s 12)) (ordL r) ≠ -2 ∧ bestV (valF r (-1) (r 2) (s 12)) (ordL r) ≤ r 3)) (-1)))) I' L R) : CT E M_X11_enough 161 yX11_enough [(vr (0))] I L R Q := by
  refine CT_of rfl rfl (fun h => by cases h) (Nat.le_of_ble_eq_true rfl) (fun X => ?_)
  show V X _ z0 0 [some (vr (0)), none] [] I L R _
  obtain ⟨hn, hy⟩ := c_spl hC h
  have bd := hC.bd
  have hP := hC.1.1
  have t2 := hC.1.2.2.2.1
  have hR := hC.2.2.1
  have hE := hC.2.2.2.1
  refine s_aload_n 1 dX11_enough_0 rfl rfl ?_
  refine s_callV0 (M' := M_X11_noPiece) (as := []) 4 dX11_enough_1 rfl cw_X11_151 rfl rfl sh_0 rfl (by decide) (Nat.le_of_ble_eq_true rfl) (Nat.le_of_ble_eq_true rfl) (Nat.le_of_ble_eq_true rfl) (Nat.le_of_ble_eq_true rfl) ⟨rfl, rfl, rfl⟩ ?_
  refine c_X11_noPiece hC ?_
  refine s_ifb_eq 13 7 dX11_enough_4 rfl rfl (fun h_4 => ?_) (fun h_4 => ?_)
  · skip
    refine s_aload_n 14 dX11_enough_13 rfl rfl ?_
    refine s_getR 17 dX11_enough_14 rfl fl_X11_70 (fun _ _ _ _ => rfl) (T_X11_search hT) sh_0 (Nat.le_of_ble_eq_true rfl) ?_
    refine s_aload_n 18 dX11_enough_17 rfl rfl ?_
    refine s_getR 21 dX11_enough_18 rfl fl_X11_38 (fun _ _ _ _ => rfl) (T_X11_evening hT) sh_0 (Nat.le_of_ble_eq_true rfl) ?_
    refine s_getI 24 dX11_enough_21 rfl fl_X11_161 (fun _ _ _ _ => rfl) sh_80 (Nat.le_of_ble_eq_true rfl) (fun r_21 => ?_)
    rw [hE.2.2]
    refine s_callV0 (M' := M_X7_bestOfAll) (as := [_]) 27 dX11_enough_24 rfl cw_X11_275 rfl rfl sh_111 rfl (by decide) (Nat.le_of_ble_eq_true rfl) (Nat.le_of_ble_eq_true rfl) (Nat.le_of_ble_eq_true rfl) (Nat.le_of_ble_eq_true rfl) ⟨rfl, rfl, rfl⟩ ?_
    have hh := nn_n h_4
    obtain ⟨hs, hw9, hN⟩ := hC.2.2.2.2.2.2.1 hh
    have e09 := hs.1.1
    have bb := best_bd (Ls := ordL r) (valF_bd (r := r) (rd := -1) (g := r 2) (cut := s 12) ⟨by omega, by omega⟩)
    refine c_X7_bestOfAll hT hP hC.1.2.2.2.2.2.2.2.1 hC.1.2.2.2.2.2.2.1 hs.1 (hC.tw hh) hN.2.2.2.2.1 hs.ct (fun I1 k1 k2 k3 k4 k5 => ?_)
    have C2 := hC.se hh (fun c hc => k1 c (by omega) (by omega)) k2 (Or.inr ⟨s 12, hs.ct.1, hs.ct.2, k3, k4, k5⟩)
    have hq := hy hh I1 m (by omega) (fun c hc => k1 c (by omega) (by omega)) C2
    refine s_istore_n (ls' := [_, _]) 28 dX11_enough_27 rfl (Nat.le_of_ble_eq_true rfl) rfl rfl ?_
    refine s_aload_n 29 dX11_enough_28 rfl rfl ?_
    refine s_iload_n 30 dX11_enough_29 rfl rfl ?_
    refine s_bipush 32 dX11_enough_30 rfl (by decide) ?_
    refine s_icmp_eq 50 35 dX11_enough_32 rfl rfl (by first | omega | exact bI_r _ | exact iI_r _) (by first | omega | exact bI_r _ | exact iI_r _) (fun h_32 => ?_) (fun h_32 => ?_)
    · skip
      refine s_iconst 51 dX11_enough_50 rfl ?_
      refine s_callV0 (M' := M_X11_fineIf) (as := [_]) 54 dX11_enough_51 rfl cw_X11_217 rfl rfl sh_0 rfl (by decide) (Nat.le_of_ble_eq_true rfl) (Nat.le_of_ble_eq_true rfl) (Nat.le_of_ble_eq_true rfl) (Nat.le_of_ble_eq_true rfl) ⟨rfl, rfl, rfl⟩ ?_
      first | (rw [show (1 : Int) = bI (bestV (valF r (-1) (r 2) (s 12)) (ordL r) ≠ -2 ∧ bestV (valF r (-1) (r 2) (s 12)) (ordL r) ≤ r 3) from (bI_t ⟨by omega, by omega⟩).symm]; refine c_X11_fineIf ?_) | (rw [show (0 : Int) = bI (bestV (valF r (-1) (r 2) (s 12)) (ordL r) ≠ -2 ∧ bestV (valF r (-1) (r 2) (s 12)) (ordL r) ≤ r 3) from (bI_f (by omega)).symm]; refine c_X11_fineIf ?_)
      refine s_iret dX11_enough_54 rfl rfl ?_
      first | exact hn h_4 | exact hq
    refine s_iload_n 36 dX11_enough_35 rfl rfl ?_
    refine s_aload_n 37 dX11_enough_36 rfl rfl ?_
    refine s_getR 40 dX11_enough_37 rfl fl_X11_19 (fun _ _ _ _ => rfl) (by assumption) sh_0 (Nat.le_of_ble_eq_true rfl) ?_
    refine s_getI 43 dX11_enough_40 rfl fl_X11_281 (fun _ _ _ _ => rfl) (isP_sh (by assumption)) (isP_lt (by assumption)) (fun r_40 => ?_)
    rw [k2.1.1.2.2.1]
    refine s_icmp_gt 50 46 dX11_enough_43 rfl rfl (by first | omega | exact bI_r _ | exact iI_r _) (by first | omega | exact bI_r _ | exact iI_r _) (fun h_43 => ?_) (fun h_43 => ?_)
    · skip
      refine s_iconst 51 dX11_enough_50 rfl ?_
      refine s_callV0 (M' := M_X11_fineIf) (as := [_]) 54 dX11_enough_51 rfl cw_X11_217 rfl rfl sh_0 rfl (by decide) (Nat.le_of_ble_eq_true rfl) (Nat.le_of_ble_eq_true rfl) (Nat.le_of_ble_eq_true rfl) (Nat.le_of_ble_eq_true rfl) ⟨rfl, rfl, rfl⟩ ?_
      first | (rw [show (1 : Int) = bI (bestV (valF r (-1) (r 2) (s 12)) (ordL r) ≠ -2 ∧ bestV (valF r (-1) (r 2) (s 12)) (ordL r) ≤ r 3) from (bI_t ⟨by omega, by omega⟩).symm]; refine c_X11_fineIf ?_) | (rw [show (0 : Int) = bI (bestV (valF r (-1) (r 2) (s 12)) (ordL r) ≠ -2 ∧ bestV (valF r (-1) (r 2) (s 12)) (ordL r) ≤ r 3) from (bI_f (by omega)).symm]; refine c_X11_fineIf ?_)
      refine s_iret dX11_enough_54 rfl rfl ?_
      first | exact hn h_4 | exact hq
    refine s_iconst 47 dX11_enough_46 rfl ?_
    refine s_goto 51 dX11_enough_47 rfl ?_
    refine s_callV0 (M' := M_X11_fineIf) (as := [_]) 54 dX11_enough_51 rfl cw_X11_217 rfl rfl sh_0 rfl (by decide) (Nat.le_of_ble_eq_true rfl) (Nat.le_of_ble_eq_true rfl) (Nat.le_of_ble_eq_true rfl) (Nat.le_of_ble_eq_true rfl) ⟨rfl, rfl, rfl⟩ ?_
    first | (rw [show (1 : Int) = bI (bestV (valF r (-1) (r 2) (s 12)) (ordL r) ≠ -2 ∧ bestV (valF r (-1) (r 2) (s 12)) (ordL r) ≤ r 3) from (bI_t ⟨by omega, by omega⟩).symm]; refine c_X11_fineIf ?_) | (rw [show (0 : Int) = bI (bestV (valF r (-1) (r 2) (s 12)) (ordL r) ≠ -2 ∧ bestV (valF r (-1) (r 2) (s 12)) (ordL r) ≤ r 3) from (bI_f (by omega)).symm]; refine c_X11_fineIf ?_)
    refine s_iret dX11_enough_54 rfl rfl ?_
    first | exact hn h_4 | exact hq
  refine s_aload_n 8 dX11_enough_7 rfl rfl ?_
  refine s_iconst 9 dX11_enough_8 rfl ?_
  refine s_callV0 (M' := M_X11_refuse) (as := [_]) 12 dX11_enough_9 rfl cw_X11_102 rfl rfl sh_0 rfl (by decide) (Nat.le_of_ble_eq_true rfl) (Nat.le_of_ble_eq_true rfl) (Nat.le_of_ble_eq_true rfl) (Nat.le_of_ble_eq_true rfl) ⟨rfl, rfl, rfl⟩ ?_
  refine c_X11_refuse (by decide) ?_
  refine s_iret dX11_enough_12 rfl rfl ?_
  first | exact hn h_4 | exact hq
set_option maxHeartbeats 4000000 in
theorem c_X11_cuts {E : ET} {I : MI} {L : ML} {R : MR} {Q : Option AV → MI → ML → MR → Prop} {m : Int} {bt : F1} {n ft pl w : Int} {HP : Prop} {r s : F1} {a : List Int} {U D K : List (List Int)} {P P' : Nat}  (hT : Topo R) (hC : CV I L R m bt n ft pl w HP r s a U D K P P') (hm : 0 ≤ m ∧ m ≤ 900000) (h : ∀ I', Hi I I' → CV I' L R (m + 8) bt n ft pl (pick (HP) 0 1) HP r s a U D K P P' → Q (some (vi (pick (HP) (if cutF r (-1) (r 2) s = -2 then -2 else bits (cutF r (-1) (r 2) s)) (-1)))) I' L R) : CT E M_X11_cuts 161 yX11_cuts [(vr (0))] I L R Q := by
  refine CT_of rfl rfl (fun h => by cases h) (Nat.le_of_ble_eq_true rfl) (fun X => ?_)
  show V X _ z0 0 [some (vr (0))] [] I L R _
  obtain ⟨hn, hy⟩ := c_spl hC h
  have bd := hC.bd
  have hP := hC.1.1
  have t2 := hC.1.2.2.2.1
  have hR := hC.2.2.1
  have hE := hC.2.2.2.1
  refine s_aload_n 1 dX11_cuts_0 rfl rfl ?_
  refine s_callV0 (M' := M_X11_noPiece) (as := []) 4 dX11_cuts_1 rfl cw_X11_151 rfl rfl sh_0 rfl (by decide) (Nat.le_of_ble_eq_true rfl) (Nat.le_of_ble_eq_true rfl) (Nat.le_of_ble_eq_true rfl) (Nat.le_of_ble_eq_true rfl) ⟨rfl, rfl, rfl⟩ ?_
  refine c_X11_noPiece hC ?_
  refine s_ifb_eq 13 7 dX11_cuts_4 rfl rfl (fun h_4 => ?_) (fun h_4 => ?_)
  · skip
    refine s_aload_n 14 dX11_cuts_13 rfl rfl ?_
    refine s_callV0 (M' := M_X11_tonight) (as := []) 17 dX11_cuts_14 rfl cw_X11_184 rfl rfl sh_0 rfl (by decide) (Nat.le_of_ble_eq_true rfl) (Nat.le_of_ble_eq_true rfl) (Nat.le_of_ble_eq_true rfl) (Nat.le_of_ble_eq_true rfl) ⟨rfl, rfl, rfl⟩ ?_
    have hh := nn_n h_4
    obtain ⟨hs, hw9, hN⟩ := hC.2.2.2.2.2.2.1 hh
    have hr9 := hs.1
    have e09 := hr9.1
    refine c_X11_tonight hT hC hh (by omega) (fun I1 g1 g2 g3 => ?_)
    refine s_pop 18 dX11_cuts_17 rfl rfl ?_
    refine s_aload_n 19 dX11_cuts_18 rfl rfl ?_
    refine s_aload_n 20 dX11_cuts_19 rfl rfl ?_
    refine s_getR 23 dX11_cuts_20 rfl fl_X11_63 (fun _ _ _ _ => rfl) (T_X11_casting hT) sh_0 (Nat.le_of_ble_eq_true rfl) ?_
    refine s_callV0 (M' := M_X1_fewestCuts) (as := []) 26 dX11_cuts_23 rfl cw_X11_284 rfl rfl sh_107 rfl (by decide) (Nat.le_of_ble_eq_true rfl) (Nat.le_of_ble_eq_true rfl) (Nat.le_of_ble_eq_true rfl) (Nat.le_of_ble_eq_true rfl) ⟨rfl, rfl, rfl⟩ ?_
    have use := g3.use hh g2
    refine c_X1_fewestCuts hT hP hC.1.2.2.2.2.2.1 hr9 hs.p (by omega) (g2.gw g3.2.2.1) use.2 (fun I2 k1 k2 k3 k4 => ?_)
    obtain ⟨C2, S2⟩ := g3.ca hh g2 (k1.mo (by decide)) ((g2.gw g3.2.2.1).p hP hr9 (fun c hc => k1 c (by simp; omega))) (Or.inl (k3 3 (by decide) (by decide))) (Or.inr k2) (fun z => by rw [k3 3 (by decide) (by decide)] at z; have := use.1 z; unfold CasP at *; rw [k3 4 (by decide) (by decide), k1 109 (by decide)]; exact this) (fun _ => k4)
    refine s_callV0 (M' := M_X11_fine) (as := [_]) 29 dX11_cuts_26 rfl cw_X11_119 rfl rfl sh_0 rfl (by decide) (Nat.le_of_ble_eq_true rfl) (Nat.le_of_ble_eq_true rfl) (Nat.le_of_ble_eq_true rfl) (Nat.le_of_ble_eq_true rfl) ⟨rfl, rfl, rfl⟩ ?_
    refine c_X11_fine ?_
    refine s_iret dX11_cuts_29 rfl rfl ?_
    first | exact hn h_4 | exact hy hh I2 (m + 1) (by omega) ((Hi.nt isN_85 g1).tr (fun c hc => k1 c (by simp; omega))) C2
  refine s_aload_n 8 dX11_cuts_7 rfl rfl ?_
  refine s_iconst 9 dX11_cuts_8 rfl ?_
  refine s_callV0 (M' := M_X11_refuse) (as := [_]) 12 dX11_cuts_9 rfl cw_X11_102 rfl rfl sh_0 rfl (by decide) (Nat.le_of_ble_eq_true rfl) (Nat.le_of_ble_eq_true rfl) (Nat.le_of_ble_eq_true rfl) (Nat.le_of_ble_eq_true rfl) ⟨rfl, rfl, rfl⟩ ?_
  refine c_X11_refuse (by decide) ?_
  refine s_iret dX11_cuts_12 rfl rfl ?_
  first | exact hn h_4 | exact hy hh I2 (m + 1) (by omega) ((Hi.nt isN_85 g1).tr (fun c hc => k1 c (by simp; omega))) C2
set_option maxHeartbeats 4000000 in
theorem c_X11_cutsBy {E : ET} {I : MI} {L : ML} {R : MR} {Q : Option AV → MI → ML → MR → Prop} {m : Int} {bt : F1} {n ft pl w : Int} {HP : Prop} {r s : F1} {a : List Int} {U D K : List (List Int)} {P P' : Nat}  (hT : Topo R) (hC : CV I L R m bt n ft pl w HP r s a U D K P P') (hm : 0 ≤ m ∧ m ≤ 900000) (h : ∀ I', Hi I I' → CV I' L R (m + 8) bt n ft pl (pick (HP) 0 1) HP r s a U D K P P' → Q (some (vi (pick (HP) (cutF r (-1) (r 2) s) (-1)))) I' L R) : CT E M_X11_cutsBy 161 yX11_cutsBy [(vr (0))] I L R Q := by
  refine CT_of rfl rfl (fun h => by cases h) (Nat.le_of_ble_eq_true rfl) (fun X => ?_)
  show V X _ z0 0 [some (vr (0))] [] I L R _
  obtain ⟨hn, hy⟩ := c_spl hC h
  have bd := hC.bd
  have hP := hC.1.1
  have t2 := hC.1.2.2.2.1
  have hR := hC.2.2.1
  have hE := hC.2.2.2.1
  refine s_aload_n 1 dX11_cutsBy_0 rfl rfl ?_
  refine s_callV0 (M' := M_X11_noPiece) (as := []) 4 dX11_cutsBy_1 rfl cw_X11_151 rfl rfl sh_0 rfl (by decide) (Nat.le_of_ble_eq_true rfl) (Nat.le_of_ble_eq_true rfl) (Nat.le_of_ble_eq_true rfl) (Nat.le_of_ble_eq_true rfl) ⟨rfl, rfl, rfl⟩ ?_
  refine c_X11_noPiece hC ?_
  refine s_ifb_eq 13 7 dX11_cutsBy_4 rfl rfl (fun h_4 => ?_) (fun h_4 => ?_)
  · skip
    refine s_aload_n 14 dX11_cutsBy_13 rfl rfl ?_
    refine s_callV0 (M' := M_X11_tonight) (as := []) 17 dX11_cutsBy_14 rfl cw_X11_184 rfl rfl sh_0 rfl (by decide) (Nat.le_of_ble_eq_true rfl) (Nat.le_of_ble_eq_true rfl) (Nat.le_of_ble_eq_true rfl) (Nat.le_of_ble_eq_true rfl) ⟨rfl, rfl, rfl⟩ ?_
    have hh := nn_n h_4
    obtain ⟨hs, hw9, hN⟩ := hC.2.2.2.2.2.2.1 hh
    have hr9 := hs.1
    have e09 := hr9.1
    refine c_X11_tonight hT hC hh (by omega) (fun I1 g1 g2 g3 => ?_)
    refine s_pop 18 dX11_cutsBy_17 rfl rfl ?_
    refine s_aload_n 19 dX11_cutsBy_18 rfl rfl ?_
    refine s_aload_n 20 dX11_cutsBy_19 rfl rfl ?_
    refine s_getR 23 dX11_cutsBy_20 rfl fl_X11_63 (fun _ _ _ _ => rfl) (T_X11_casting hT) sh_0 (Nat.le_of_ble_eq_true rfl) ?_
    refine s_callV0 (M' := M_X1_cutBits) (as := []) 26 dX11_cutsBy_23 rfl cw_X11_287 rfl rfl sh_107 rfl (by decide) (Nat.le_of_ble_eq_true rfl) (Nat.le_of_ble_eq_true rfl) (Nat.le_of_ble_eq_true rfl) (Nat.le_of_ble_eq_true rfl) ⟨rfl, rfl, rfl⟩ ?_
    have use := g3.use hh g2
    refine c_X1_cutBits hT hP hC.1.2.2.2.2.2.1 hr9 hs.p (by omega) (g2.gw g3.2.2.1) use.2 (fun I2 k1 k2 k3 k4 => ?_)
    obtain ⟨C2, S2⟩ := g3.ca hh g2 (k1.mo (by decide)) ((g2.gw g3.2.2.1).p hP hr9 (fun c hc => k1 c (by simp; omega))) (Or.inl (k3 3 (by decide) (by decide))) (Or.inr k2) (fun z => by rw [k3 3 (by decide) (by decide)] at z; have := use.1 z; unfold CasP at *; rw [k3 4 (by decide) (by decide), k1 109 (by decide)]; exact this) (fun _ => k4)
    refine s_callV0 (M' := M_X11_fine) (as := [_]) 29 dX11_cutsBy_26 rfl cw_X11_119 rfl rfl sh_0 rfl (by decide) (Nat.le_of_ble_eq_true rfl) (Nat.le_of_ble_eq_true rfl) (Nat.le_of_ble_eq_true rfl) (Nat.le_of_ble_eq_true rfl) ⟨rfl, rfl, rfl⟩ ?_
    refine c_X11_fine ?_
    refine s_iret dX11_cutsBy_29 rfl rfl ?_
    first | exact hn h_4 | exact hy hh I2 (m + 1) (by omega) ((Hi.nt isN_85 g1).tr (fun c hc => k1 c (by simp; omega))) C2
  refine s_aload_n 8 dX11_cutsBy_7 rfl rfl ?_
  refine s_iconst 9 dX11_cutsBy_8 rfl ?_
  refine s_callV0 (M' := M_X11_refuse) (as := [_]) 12 dX11_cutsBy_9 rfl cw_X11_102 rfl rfl sh_0 rfl (by decide) (Nat.le_of_ble_eq_true rfl) (Nat.le_of_ble_eq_true rfl) (Nat.le_of_ble_eq_true rfl) (Nat.le_of_ble_eq_true rfl) ⟨rfl, rfl, rfl⟩ ?_
  refine c_X11_refuse (by decide) ?_
  refine s_iret dX11_cutsBy_12 rfl rfl ?_
  first | exact hn h_4 | exact hy hh I2 (m + 1) (by omega) ((Hi.nt isN_85 g1).tr (fun c hc => k1 c (by simp; omega))) C2
set_option maxHeartbeats 4000000 in
theorem c_X11_ready {E : ET} {I : MI} {L : ML} {R : MR} {Q : Option AV → MI → ML → MR → Prop} {m : Int} {bt : F1} {n ft pl w : Int} {HP : Prop} {r s : F1} {a : List Int} {U D K : List (List Int)} {P P' : Nat} {i : Int} (hT : Topo R) (hC : CV I L R m bt n ft pl w HP r s a U D K P P') (hm : 0 ≤ m ∧ m ≤ 900000) (hi : -2147483648 ≤ i ∧ i ≤ 2147483647) (h : ∀ I', Hi I I' → CV I' L R (m + 8) bt n ft pl (pick (HP ∧ 0 ≤ i ∧ i < r 4) 0 1) HP r s a U D K P P' → Q (some (vi (pick (HP ∧ 0 ≤ i ∧ i < r 4) (if fewV (MayP r (-1) (r 2) s (s 12)) (r 4).toNat = -2 then -2 else fewV (MayP r (-1) (r 2) s (s 12)) (r 4).toNat - fewV (MayP r i (r 2) s (s 12)) (r 4).toNat) (-1)))) I' L R) : CT E M_X11_ready 161 yX11_ready [(vr (0)), (vi (i))] I L R Q := by
  refine CT_of rfl rfl (fun h => by cases h) (Nat.le_of_ble_eq_true rfl) (fun X => ?_)
  show V X _ z0 0 [some (vr (0)), some (vi (i)), none] [] I L R _
  obtain ⟨hn, hy⟩ := c_spl hC h
  have bd := hC.bd
  have hP := hC.1.1
  have t2 := hC.1.2.2.2.1
  have hR := hC.2.2.1
  have hE := hC.2.2.2.1
  refine s_aload_n 1 dX11_ready_0 rfl rfl ?_
  refine s_iload_n 2 dX11_ready_1 rfl rfl ?_
  refine s_callV0 (M' := M_X11_isPart) (as := [_]) 5 dX11_ready_2 rfl cw_X11_203 rfl rfl sh_0 rfl (by decide) (Nat.le_of_ble_eq_true rfl) (Nat.le_of_ble_eq_true rfl) (Nat.le_of_ble_eq_true rfl) (Nat.le_of_ble_eq_true rfl) ⟨rfl, rfl, rfl⟩ ?_
  refine c_X11_isPart hC hi ?_
  refine s_ifb_ne 14 8 dX11_ready_5 rfl rfl (fun h_5 => ?_) (fun h_5 => ?_)
  · skip
    refine s_aload_n 15 dX11_ready_14 rfl rfl ?_
    refine s_callV0 (M' := M_X11_tonight) (as := []) 18 dX11_ready_15 rfl cw_X11_184 rfl rfl sh_0 rfl (by decide) (Nat.le_of_ble_eq_true rfl) (Nat.le_of_ble_eq_true rfl) (Nat.le_of_ble_eq_true rfl) (Nat.le_of_ble_eq_true rfl) ⟨rfl, rfl, rfl⟩ ?_
    have hh := h_5.1
    obtain ⟨hs, hw9, hN⟩ := hC.2.2.2.2.2.2.1 hh
    have hr9 := hs.1
    have e09 := hr9.1
    refine c_X11_tonight hT hC hh (by omega) (fun I1 g1 g2 g3 => ?_)
    refine s_aload_n 19 dX11_ready_18 rfl rfl ?_
    refine s_getR 22 dX11_ready_19 rfl fl_X11_19 (fun _ _ _ _ => rfl) (by assumption) sh_0 (Nat.le_of_ble_eq_true rfl) ?_
    refine s_callV0 (M' := M_X5_allParts) (as := []) 25 dX11_ready_22 rfl cw_X11_237 rfl rfl (isP_sh (by assumption)) rfl (by decide) (isP_lt (by assumption)) (Nat.le_of_ble_eq_true rfl) (Nat.le_of_ble_eq_true rfl) (Nat.le_of_ble_eq_true rfl) ⟨rfl, rfl, rfl⟩ ?_
    refine c_X5_allParts hP g3.2.2.1 ?_
    refine s_callU0 (M' := M_X3_fewestFor) (as := [_]) 28 dX11_ready_25 rfl cw_X11_271_3 rfl rfl (isN_sh isN_85) rfl (by decide) (isN_lt isN_85) (Nat.le_of_ble_eq_true rfl) (Nat.le_of_ble_eq_true rfl) (Nat.le_of_ble_eq_true rfl) ⟨rfl, rfl, rfl⟩ ?_
    have a7 := allF_7 (n := r 4) ⟨by omega, by omega⟩
    refine c_X3_fewestFor3 hT isN_85 hP hC.1.2.2.2.2.2.1 hr9 hs.p (by omega) (g2.gw g3.2.2.1) a7 (fun I2 k1 k2 => ?_)
    obtain ⟨C2, S2⟩ := g3.gd hh g2 k1 k2
    have fb := few_b (G := MayP r (-1) (r 2) s (s 12)) (n := (r 4).toNat) (by omega)
    have fb2 := few_b (G := MayP r i (r 2) s (s 12)) (n := (r 4).toNat) (by omega)
    rw [few_r ⟨by omega, by omega⟩]
    refine s_istore_n (ls' := [_, _, _]) 29 dX11_ready_28 rfl (Nat.le_of_ble_eq_true rfl) rfl rfl ?_
    refine s_iload_n 30 dX11_ready_29 rfl rfl ?_
    refine s_bipush 32 dX11_ready_30 rfl (by decide) ?_
    refine s_icmp_ne 42 35 dX11_ready_32 rfl rfl (by first | omega | exact bI_r _ | exact iI_r _) (by first | omega | exact bI_r _ | exact iI_r _) (fun h_32 => ?_) (fun h_32 => ?_)
    · skip
      refine s_aload_n 43 dX11_ready_42 rfl rfl ?_
      refine s_iload_n 44 dX11_ready_43 rfl rfl ?_
      refine s_aload_n 45 dX11_ready_44 rfl rfl ?_
      refine s_getR 48 dX11_ready_45 rfl fl_X11_70 (fun _ _ _ _ => rfl) (T_X11_search hT) sh_0 (Nat.le_of_ble_eq_true rfl) ?_
      refine s_iload_n 49 dX11_ready_48 rfl rfl ?_
      refine s_aload_n 50 dX11_ready_49 rfl rfl ?_
      refine s_getR 53 dX11_ready_50 rfl fl_X11_38 (fun _ _ _ _ => rfl) (T_X11_evening hT) sh_0 (Nat.le_of_ble_eq_true rfl) ?_
      refine s_getI 56 dX11_ready_53 rfl fl_X11_155 (fun _ _ _ _ => rfl) sh_80 (Nat.le_of_ble_eq_true rfl) (fun r_53 => ?_)
      refine s_aload_n 57 dX11_ready_56 rfl rfl ?_
      refine s_getR 60 dX11_ready_57 rfl fl_X11_38 (fun _ _ _ _ => rfl) (T_X11_evening hT) sh_0 (Nat.le_of_ble_eq_true rfl) ?_
      refine s_getI 63 dX11_ready_60 rfl fl_X11_161 (fun _ _ _ _ => rfl) sh_80 (Nat.le_of_ble_eq_true rfl) (fun r_60 => ?_)
      rw [C2.2.2.2.1.2.2]
      refine s_callV0 (M' := M_X7_fewestIfReady) (as := [_, _, _]) 66 dX11_ready_63 rfl cw_X11_290 rfl rfl sh_111 rfl (by decide) (Nat.le_of_ble_eq_true rfl) (Nat.le_of_ble_eq_true rfl) (Nat.le_of_ble_eq_true rfl) (Nat.le_of_ble_eq_true rfl) ⟨rfl, rfl, rfl⟩ ?_
      refine c_X7_fewestIfReady hT hP hC.1.2.2.2.2.2.2.2.1 hC.1.2.2.2.2.2.2.1 hr9 hw9 (C2.tw hh) C2.2.2.2.1.1 hs.p ⟨by omega, by omega⟩ hs.ct (fun I3 x1 x2 => ?_)
      have C3 := C2.sn hh x1 x2
      refine s_isub 67 dX11_ready_66 rfl ?_
      refine s_callV0 (M' := M_X11_fine) (as := [_]) 70 dX11_ready_67 rfl cw_X11_119 rfl rfl sh_0 rfl (by decide) (Nat.le_of_ble_eq_true rfl) (Nat.le_of_ble_eq_true rfl) (Nat.le_of_ble_eq_true rfl) (Nat.le_of_ble_eq_true rfl) ⟨rfl, rfl, rfl⟩ ?_
      refine c_X11_fine ?_
      refine s_iret dX11_ready_70 rfl rfl ?_
      have hq := hy h_5 I3 (m + 1) (by omega) (((Hi.nt isN_85 g1).tr (Hi.e86 k1)).tr (Hi.nt isN_113 x1)) C3
      rw [if_neg h_32] at hq; exact hq
    refine s_aload_n 36 dX11_ready_35 rfl rfl ?_
    refine s_bipush 38 dX11_ready_36 rfl (by decide) ?_
    refine s_callV0 (M' := M_X11_fine) (as := [_]) 41 dX11_ready_38 rfl cw_X11_119 rfl rfl sh_0 rfl (by decide) (Nat.le_of_ble_eq_true rfl) (Nat.le_of_ble_eq_true rfl) (Nat.le_of_ble_eq_true rfl) (Nat.le_of_ble_eq_true rfl) ⟨rfl, rfl, rfl⟩ ?_
    refine c_X11_fine ?_
    refine s_iret dX11_ready_41 rfl rfl ?_
    have hq := hy h_5 I2 (m + 1) (by omega) ((Hi.nt isN_85 g1).tr (Hi.e86 k1)) C2
    rw [if_pos h_32] at hq; exact hq
  refine s_aload_n 9 dX11_ready_8 rfl rfl ?_
  refine s_iconst 10 dX11_ready_9 rfl ?_
  refine s_callV0 (M' := M_X11_refuse) (as := [_]) 13 dX11_ready_10 rfl cw_X11_102 rfl rfl sh_0 rfl (by decide) (Nat.le_of_ble_eq_true rfl) (Nat.le_of_ble_eq_true rfl) (Nat.le_of_ble_eq_true rfl) (Nat.le_of_ble_eq_true rfl) ⟨rfl, rfl, rfl⟩ ?_
  refine c_X11_refuse (by decide) ?_
  refine s_iret dX11_ready_13 rfl rfl ?_
  exact hn h_5
