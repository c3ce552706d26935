/-! what the class answers, 11: the tape; plain answers -/
theorem CV.tp {I I' : MI} {L : ML} {R : MR} {m : Int} {bt bt' : F1} {n n' ft pl w : Int} {HP : Prop} {r s : F1} {a : List Int} {U D K : List (List Int)} {P P' : Nat} (h : CV I L R m bt n ft pl w HP r s a U D K P P') (e : ∀ c, c ≠ 1 → c ≠ 2 → I' c = I c) (e1 : I' 1 1 = n') (hn : 0 ≤ n' ∧ n' ≤ 900) (e2 : ∀ k, 0 ≤ k → k < 900 → I' 2 k = bt' k) : CV I' L R m bt' n' ft pl w HP r s a U D K P P' := by
  have bd := h.bd
  obtain ⟨t, ⟨a1, a2, a3, a4, a5, a6⟩, p, ⟨x1, x2, x3⟩, ⟨⟨b1, b2⟩, ⟨b3, b4⟩, ⟨b5, b6⟩, b7⟩, c9, hh9, hz⟩ := h
  have hp : P = 3 ∨ P = 39 := t.1
  have ee : ∀ c, c < 1 ∨ 2 < c → I' c = I c := fun c hc => e c (by omega) (by omega)
  refine ⟨t, ⟨e1, hn, e2, by rw [ee 0 (by decide)]; exact a4, by rw [ee 0 (by decide)]; exact a5, fun z => by rw [ee 0 (by decide)]; exact a6 z⟩, p.c (by omega) (fun c x y => ee c (by omega)), ?_, ?_, ?_, fun hh => ?_, hz⟩
  · unfold CvE
    rw [ee 80 (by decide)]; exact ⟨x1, x2, x3⟩
  · unfold CvH
    rw [ee 81 (by decide)]; exact ⟨⟨b1, b2⟩, ⟨b3, b4⟩, ⟨b5, b6⟩, b7⟩
  · unfold CvS at *
    rw [ee 85 (by decide), ee 107 (by decide)]; exact c9
  · obtain ⟨h0, hw, h1, h2, h3, h4, h5, h6, h7⟩ := hh9 hh
    refine ⟨h0, hw, h1.c (ee P (by omega)) (ee (P + 35) (by omega)), h2.eq (by omega) (fun c a b => ee c (by omega)), h3.eq (ee 85 (by decide)) (ee 107 (by decide)) (ee 109 (by decide)), h4.eq (by omega) (fun c a b => ee c (by omega)), ?_, fun i a b => by rw [ee 137 (by decide)]; exact h6 i a b, h7.c (ee 136 (by decide)) (fun _ _ _ => Iff.rfl)⟩
    unfold BaI at *
    rw [ee 111 (by decide)]; exact h5
theorem ad_fd {x a b c d e j q : Int} (hx : x = fdW a b c d e j) (hq : j % 4 = q) : adB x q = fdB a b c d e j := by
  unfold adB fdB
  rw [hx, hq]
set_option maxHeartbeats 4000000 in
theorem c_X11_feed {E : ET} {I : MI} {L : ML} {R : MR} {Q : Option AV → MI → ML → MR → Prop} {m : Int} {bt : F1} {n ft pl w : Int} {HP : Prop} {r s : F1} {a : List Int} {U D K : List (List Int)} {P P' : Nat} {x1 x2 x3 x4 x5 : Int} (hT : Topo R) (hC : CV I L R m bt n ft pl w HP r s a U D K P P') (z1 : -2147483648 ≤ x1 ∧ x1 ≤ 2147483647) (z2 : -2147483648 ≤ x2 ∧ x2 ≤ 2147483647) (z3 : -2147483648 ≤ x3 ∧ x3 ≤ 2147483647) (z4 : -2147483648 ≤ x4 ∧ x4 ≤ 2147483647) (z5 : -2147483648 ≤ x5 ∧ x5 ≤ 2147483647) (h : (n + 20 > 900 → Q (some (vi (-1))) I L R) ∧ (n + 20 ≤ 900 → ∀ I', Hi I I' → CV I' L R m (fdT bt n x1 x2 x3 x4 x5 20) (n + 20) ft pl w HP r s a U D K P P' → Q (some (vi (n + 20))) I' L R)) : CT E M_X11_feed 161 yX11_feed [(vr (0)), (vi (x1)), (vi (x2)), (vi (x3)), (vi (x4)), (vi (x5))] I L R Q := by
  refine CT_of rfl rfl (fun h => by cases h) (Nat.le_of_ble_eq_true rfl) (fun X => ?_)
  show V X _ z0 0 [some (vr (0)), some (vi (x1)), some (vi (x2)), some (vi (x3)), some (vi (x4)), some (vi (x5))] [] I L R _
  obtain ⟨c1, c2, c3, c4, c5, c6⟩ := hC.2.1
  by_cases hb : n + 20 ≤ 900
  · have h := h.2 hb
    refine s_aload_n 1 dX11_feed_0 rfl rfl ?_
    refine s_getR 4 dX11_feed_1 rfl fl_X11_10 (fun _ _ _ _ => rfl) (T_X11_tape hT) sh_0 (Nat.le_of_ble_eq_true rfl) ?_
    refine s_bipush 6 dX11_feed_4 rfl (by decide) ?_
    refine s_callV0 (M' := M_X9_hasRoom) (as := [_]) 9 dX11_feed_6 rfl cw_X11_91 rfl rfl sh_1 rfl (by decide) (Nat.le_of_ble_eq_true rfl) (Nat.le_of_ble_eq_true rfl) (Nat.le_of_ble_eq_true rfl) (Nat.le_of_ble_eq_true rfl) ⟨rfl, rfl, rfl⟩ ?_
    refine c_X9_hasRoom c1 c2 ?_
    refine s_ifb_ne 14 12 dX11_feed_9 rfl rfl (fun h_9 => ?_) (fun h_9 => by exfalso; exact h_9 hb)
    refine s_aload_n 15 dX11_feed_14 rfl rfl ?_
    refine s_getR 18 dX11_feed_15 rfl fl_X11_10 (fun _ _ _ _ => rfl) (T_X11_tape hT) sh_0 (Nat.le_of_ble_eq_true rfl) ?_
    refine s_iload_n 19 dX11_feed_18 rfl rfl ?_
    refine s_callV0 (M' := M_X9_add) (as := [_]) 22 dX11_feed_19 rfl cw_X11_95 rfl rfl sh_1 rfl (by decide) (Nat.le_of_ble_eq_true rfl) (Nat.le_of_ble_eq_true rfl) (Nat.le_of_ble_eq_true rfl) (Nat.le_of_ble_eq_true rfl) ⟨rfl, rfl, rfl⟩ ?_
    refine c_X9_add hT c1 (by omega) (fun I1 g1 g2 g3 => ?_)
    refine s_aload_n 23 dX11_feed_22 rfl rfl ?_
    refine s_getR 26 dX11_feed_23 rfl fl_X11_10 (fun _ _ _ _ => rfl) (T_X11_tape hT) sh_0 (Nat.le_of_ble_eq_true rfl) ?_
    refine s_iload_n 27 dX11_feed_26 rfl rfl ?_
    refine s_callV0 (M' := M_X9_add) (as := [_]) 30 dX11_feed_27 rfl cw_X11_95 rfl rfl sh_1 rfl (by decide) (Nat.le_of_ble_eq_true rfl) (Nat.le_of_ble_eq_true rfl) (Nat.le_of_ble_eq_true rfl) (Nat.le_of_ble_eq_true rfl) ⟨rfl, rfl, rfl⟩ ?_
    refine c_X9_add hT g2 (by omega) (fun I2 k1 k2 k3 => ?_)
    refine s_aload_n 31 dX11_feed_30 rfl rfl ?_
    refine s_getR 34 dX11_feed_31 rfl fl_X11_10 (fun _ _ _ _ => rfl) (T_X11_tape hT) sh_0 (Nat.le_of_ble_eq_true rfl) ?_
    refine s_iload_n 35 dX11_feed_34 rfl rfl ?_
    refine s_callV0 (M' := M_X9_add) (as := [_]) 38 dX11_feed_35 rfl cw_X11_95 rfl rfl sh_1 rfl (by decide) (Nat.le_of_ble_eq_true rfl) (Nat.le_of_ble_eq_true rfl) (Nat.le_of_ble_eq_true rfl) (Nat.le_of_ble_eq_true rfl) ⟨rfl, rfl, rfl⟩ ?_
    refine c_X9_add hT k2 (by omega) (fun I3 m1 m2 m3 => ?_)
    refine s_aload_n 39 dX11_feed_38 rfl rfl ?_
    refine s_getR 42 dX11_feed_39 rfl fl_X11_10 (fun _ _ _ _ => rfl) (T_X11_tape hT) sh_0 (Nat.le_of_ble_eq_true rfl) ?_
    refine s_iload 44 dX11_feed_42 rfl rfl ?_
    refine s_callV0 (M' := M_X9_add) (as := [_]) 47 dX11_feed_44 rfl cw_X11_95 rfl rfl sh_1 rfl (by decide) (Nat.le_of_ble_eq_true rfl) (Nat.le_of_ble_eq_true rfl) (Nat.le_of_ble_eq_true rfl) (Nat.le_of_ble_eq_true rfl) ⟨rfl, rfl, rfl⟩ ?_
    refine c_X9_add hT m2 (by omega) (fun I4 n1 n2 n3 => ?_)
    refine s_aload_n 48 dX11_feed_47 rfl rfl ?_
    refine s_getR 51 dX11_feed_48 rfl fl_X11_10 (fun _ _ _ _ => rfl) (T_X11_tape hT) sh_0 (Nat.le_of_ble_eq_true rfl) ?_
    refine s_iload 53 dX11_feed_51 rfl rfl ?_
    refine s_callV0 (M' := M_X9_add) (as := [_]) 56 dX11_feed_53 rfl cw_X11_95 rfl rfl sh_1 rfl (by decide) (Nat.le_of_ble_eq_true rfl) (Nat.le_of_ble_eq_true rfl) (Nat.le_of_ble_eq_true rfl) (Nat.le_of_ble_eq_true rfl) ⟨rfl, rfl, rfl⟩ ?_
    refine c_X9_add hT n2 (by omega) (fun I5 o1 o2 o3 => ?_)
    refine s_aload_n 57 dX11_feed_56 rfl rfl ?_
    refine s_getR 60 dX11_feed_57 rfl fl_X11_10 (fun _ _ _ _ => rfl) (T_X11_tape hT) sh_0 (Nat.le_of_ble_eq_true rfl) ?_
    refine s_getI 63 dX11_feed_60 rfl fl_X11_99 (fun _ _ _ _ => rfl) sh_1 (Nat.le_of_ble_eq_true rfl) (fun r_60 => ?_)
    rw [o2]
    refine s_iret dX11_feed_63 rfl rfl ?_
    have oE := g1.tr (k1.tr (m1.tr (n1.tr o1)))
    rw [show n + 4 + 4 + 4 + 4 + 4 = n + 20 by omega]
    refine h I5 (fun c hc => oE c (by simp; omega)) (hC.tp (fun c y1 y2 => oE c (by simp; omega)) (by rw [o2]; omega) (by omega) (fun k y1 y2 => ?_))
    rw [o3 k, n3 k, m3 k, k3 k, g3 k, c3 k y1 y2]
    unfold fdT
    by_cases w0 : n ≤ k ∧ k < n + 20
    · rw [if_pos w0]
      by_cases w5 : n + 4 + 4 + 4 + 4 ≤ k ∧ k < n + 4 + 4 + 4 + 4 + 4
      · rw [if_pos w5]; exact ad_fd (by unfold fdW; rw [if_neg (by omega), if_neg (by omega), if_neg (by omega), if_neg (by omega)]) (by omega)
      · rw [if_neg w5]
        by_cases w4 : n + 4 + 4 + 4 ≤ k ∧ k < n + 4 + 4 + 4 + 4
        · rw [if_pos w4]; exact ad_fd (by unfold fdW; rw [if_neg (by omega), if_neg (by omega), if_neg (by omega), if_pos (by omega)]) (by omega)
        · rw [if_neg w4]
          by_cases w3 : n + 4 + 4 ≤ k ∧ k < n + 4 + 4 + 4
          · rw [if_pos w3]; exact ad_fd (by unfold fdW; rw [if_neg (by omega), if_neg (by omega), if_pos (by omega)]) (by omega)
          · rw [if_neg w3]
            by_cases w2 : n + 4 ≤ k ∧ k < n + 4 + 4
            · rw [if_pos w2]; exact ad_fd (by unfold fdW; rw [if_neg (by omega), if_pos (by omega)]) (by omega)
            · rw [if_neg w2, if_pos (by omega)]; exact ad_fd (by unfold fdW; rw [if_pos (by omega)]) (by omega)
    · rw [if_neg w0, if_neg (by omega), if_neg (by omega), if_neg (by omega), if_neg (by omega), if_neg (by omega)]
  · have h := h.1 (by omega)
    refine s_aload_n 1 dX11_feed_0 rfl rfl ?_
    refine s_getR 4 dX11_feed_1 rfl fl_X11_10 (fun _ _ _ _ => rfl) (T_X11_tape hT) sh_0 (Nat.le_of_ble_eq_true rfl) ?_
    refine s_bipush 6 dX11_feed_4 rfl (by decide) ?_
    refine s_callV0 (M' := M_X9_hasRoom) (as := [_]) 9 dX11_feed_6 rfl cw_X11_91 rfl rfl sh_1 rfl (by decide) (Nat.le_of_ble_eq_true rfl) (Nat.le_of_ble_eq_true rfl) (Nat.le_of_ble_eq_true rfl) (Nat.le_of_ble_eq_true rfl) ⟨rfl, rfl, rfl⟩ ?_
    refine c_X9_hasRoom c1 c2 ?_
    refine s_ifb_ne 14 12 dX11_feed_9 rfl rfl (fun h_9 => by exfalso; exact hb h_9) (fun h_9 => ?_)
    refine s_iconst 13 dX11_feed_12 rfl ?_
    refine s_iret dX11_feed_13 rfl rfl ?_
    exact h
set_option maxHeartbeats 4000000 in
theorem c_X11_fault {E : ET} {I : MI} {L : ML} {R : MR} {Q : Option AV → MI → ML → MR → Prop} {m : Int} {bt : F1} {n ft pl w : Int} {HP : Prop} {r s : F1} {a : List Int} {U D K : List (List Int)} {P P' : Nat} (hC : CV I L R m bt n ft pl w HP r s a U D K P P') (h : Q (some (vi ft)) I L R) : CT E M_X11_fault 161 yX11_fault [(vr (0))] I L R Q := by
  refine CT_of rfl rfl (fun h => by cases h) (Nat.le_of_ble_eq_true rfl) (fun X => ?_)
  show V X _ z0 0 [some (vr (0))] [] I L R _
  rw [← hC.2.1.2.2.2.2.1] at h
  refine s_aload_n 1 dX11_fault_0 rfl rfl ?_
  refine s_getI 4 dX11_fault_1 rfl fl_X11_85 (fun _ _ _ _ => rfl) sh_0 (Nat.le_of_ble_eq_true rfl) (fun r_1 => ?_)
  refine s_iret dX11_fault_4 rfl rfl ?_
  exact h
set_option maxHeartbeats 4000000 in
theorem c_X11_trouble {E : ET} {I : MI} {L : ML} {R : MR} {Q : Option AV → MI → ML → MR → Prop} {m : Int} {bt : F1} {n ft pl w : Int} {HP : Prop} {r s : F1} {a : List Int} {U D K : List (List Int)} {P P' : Nat} (hC : CV I L R m bt n ft pl w HP r s a U D K P P') (h : Q (some (vi w)) I L R) : CT E M_X11_trouble 161 yX11_trouble [(vr (0))] I L R Q := by
  refine CT_of rfl rfl (fun h => by cases h) (Nat.le_of_ble_eq_true rfl) (fun X => ?_)
  show V X _ z0 0 [some (vr (0))] [] I L R _
  rw [← hC.2.1.2.2.2.1] at h
  refine s_aload_n 1 dX11_trouble_0 rfl rfl ?_
  refine s_getI 4 dX11_trouble_1 rfl fl_X11_81 (fun _ _ _ _ => rfl) sh_0 (Nat.le_of_ble_eq_true rfl) (fun r_1 => ?_)
  refine s_iret dX11_trouble_4 rfl rfl ?_
  exact h
set_option maxHeartbeats 4000000 in
theorem c_X11_where {E : ET} {I : MI} {L : ML} {R : MR} {Q : Option AV → MI → ML → MR → Prop} {m : Int} {bt : F1} {n ft pl w : Int} {HP : Prop} {r s : F1} {a : List Int} {U D K : List (List Int)} {P P' : Nat} (hC : CV I L R m bt n ft pl w HP r s a U D K P P') (h : Q (some (vi (if w = 4 then pl else -1))) I L R) : CT E M_X11_where 161 yX11_where [(vr (0))] I L R Q := by
  refine CT_of rfl rfl (fun h => by cases h) (Nat.le_of_ble_eq_true rfl) (fun X => ?_)
  show V X _ z0 0 [some (vr (0))] [] I L R _
  have e1 := hC.2.1.2.2.2.1
  have e2 := hC.2.1.2.2.2.2.2
  by_cases z : w = 4
  · rw [if_pos z, ← e2 z] at h
    skip
    refine s_aload_n 1 dX11_where_0 rfl rfl ?_
    refine s_getI 4 dX11_where_1 rfl fl_X11_81 (fun _ _ _ _ => rfl) sh_0 (Nat.le_of_ble_eq_true rfl) (fun r_1 => ?_)
    refine s_iconst 5 dX11_where_4 rfl ?_
    refine s_icmp_ne 15 8 dX11_where_5 rfl rfl (by first | omega | exact bI_r _ | exact iI_r _) (by first | omega | exact bI_r _ | exact iI_r _) (fun h_5 => by exfalso; omega) (fun h_5 => ?_)
    refine s_aload_n 9 dX11_where_8 rfl rfl ?_
    refine s_getI 12 dX11_where_9 rfl fl_X11_88 (fun _ _ _ _ => rfl) sh_0 (Nat.le_of_ble_eq_true rfl) (fun r_9 => ?_)
    refine s_goto 16 dX11_where_12 rfl ?_
    refine s_iret dX11_where_16 rfl rfl ?_
    exact h
  · rw [if_neg z] at h
    skip
    refine s_aload_n 1 dX11_where_0 rfl rfl ?_
    refine s_getI 4 dX11_where_1 rfl fl_X11_81 (fun _ _ _ _ => rfl) sh_0 (Nat.le_of_ble_eq_true rfl) (fun r_1 => ?_)
    refine s_iconst 5 dX11_where_4 rfl ?_
    refine s_icmp_ne 15 8 dX11_where_5 rfl rfl (by first | omega | exact bI_r _ | exact iI_r _) (by first | omega | exact bI_r _ | exact iI_r _) (fun h_5 => ?_) (fun h_5 => by exfalso; omega)
    refine s_iconst 16 dX11_where_15 rfl ?_
    refine s_iret dX11_where_16 rfl rfl ?_
    exact h
set_option maxHeartbeats 4000000 in
theorem c_X11_size {E : ET} {I : MI} {L : ML} {R : MR} {Q : Option AV → MI → ML → MR → Prop} {m : Int} {bt : F1} {n ft pl w : Int} {HP : Prop} {r s : F1} {a : List Int} {U D K : List (List Int)} {P P' : Nat} {i : Int} (hT : Topo R) (hC : CV I L R m bt n ft pl w HP r s a U D K P P') (hi : -2147483648 ≤ i ∧ i ≤ 2147483647) (h : Q (some (vi (szF n HP r U.length D.length K.length i))) I L R) : CT E M_X11_size 161 yX11_size [(vr (0)), (vi (i))] I L R Q := by
  refine CT_of rfl rfl (fun h => by cases h) (Nat.le_of_ble_eq_true rfl) (fun X => ?_)
  show V X _ z0 0 [some (vr (0)), some (vi (i))] [] I L R _
  have hP := hC.1.1
  have t2 := hC.1.2.2.2.1
  obtain ⟨p1, p2, p3, p4, p5, p6, p7, p8⟩ := hC.2.2.1.1
  have hH := hC.2.2.2.2.1
  have c1 := hC.2.1.1
  have zz : ¬ HP → r 3 = 0 ∧ r 4 = 0 ∧ r 5 = 0 ∧ r 6 = 0 ∧ r 7 = 0 ∧ r 8 = 0 ∧ (U.length : Int) = 0 ∧ (D.length : Int) = 0 ∧ (K.length : Int) = 0 := fun z => by
    have hz := (hC.2.2.2.2.2.2.2 z).1
    have nn : ∀ {c : Nat} {X : List (List Int)}, AcR L c r X → (X.length : Int) = 0 := fun {c X} y => by
      apply Classical.byContradiction
      intro y2
      exact z (AcR.hp (s := s) y (fun y3 => y2 (by rw [y3]; rfl)) hC.2.2.2.2.2.2.2)
    exact ⟨hz 3 (by decide) (by decide), hz 4 (by decide) (by decide), hz 5 (by decide) (by decide), hz 6 (by decide) (by decide), hz 7 (by decide) (by decide), hz 8 (by decide) (by decide), nn hH.1.2, nn hH.2.1.2, nn hH.2.2.1.2⟩
  have key : ∀ v, (HP → v = szF n HP r U.length D.length K.length i) → (¬ HP → v = szF n HP r U.length D.length K.length i) → Q (some (vi v)) I L R := fun v v1 v2 => by
    by_cases z : HP
    · rw [v1 z]; exact h
    · rw [v2 z]; exact h
  refine s_iload_n 1 dX11_size_0 rfl rfl ?_
  rcases (show (i < 0 ∨ 9 < i) ∨ i = 0 ∨ i = 1 ∨ i = 2 ∨ i = 3 ∨ i = 4 ∨ i = 5 ∨ i = 6 ∨ i = 7 ∨ i = 8 ∨ i = 9 by omega) with h_1 | h_1 | h_1 | h_1 | h_1 | h_1 | h_1 | h_1 | h_1 | h_1 | h_1
  · refine s_tsOut 136 dX11_size_1 (by omega) h_1 (by decide) ?_
    refine s_iconst 137 dX11_size_136 rfl ?_
    refine s_iret dX11_size_137 rfl rfl ?_
    refine key _ (fun z => ?_) (fun z => ?_)
    · unfold szF; rw [pick_t z]; first | (subst h_1; simp [p3, p4, p5, p6, p7, p8, hH.1.1, hH.2.1.1, hH.2.2.1.1, c1]) | (repeat rw [if_neg (by omega)])
    · obtain ⟨y3, y4, y5, y6, y7, y8, yu, yd, yk⟩ := zz z; unfold szF; rw [pick_f z]; first | (subst h_1; simp [p3, p4, p5, p6, p7, p8, hH.1.1, hH.2.1.1, hH.2.2.1.1, c1, y3, y4, y5, y6, y7, y8, yu, yd, yk]) | (repeat rw [if_neg (by omega)])
  · refine s_tsIn 56 dX11_size_1 (by omega) (by omega) (by omega) (by rw [h_1]; rfl) (by decide) ?_
    refine s_aload_n 57 dX11_size_56 rfl rfl ?_
    refine s_getR 60 dX11_size_57 rfl fl_X11_19 (fun _ _ _ _ => rfl) (by assumption) sh_0 (Nat.le_of_ble_eq_true rfl) ?_
    refine s_getI 63 dX11_size_60 rfl fl_X11_142 (fun _ _ _ _ => rfl) (isP_sh (by assumption)) (isP_lt (by assumption)) (fun r_60 => ?_)
    refine s_iret dX11_size_63 rfl rfl ?_
    refine key _ (fun z => ?_) (fun z => ?_)
    · unfold szF; rw [pick_t z]; first | (subst h_1; simp [p3, p4, p5, p6, p7, p8, hH.1.1, hH.2.1.1, hH.2.2.1.1, c1]) | (repeat rw [if_neg (by omega)])
    · obtain ⟨y3, y4, y5, y6, y7, y8, yu, yd, yk⟩ := zz z; unfold szF; rw [pick_f z]; first | (subst h_1; simp [p3, p4, p5, p6, p7, p8, hH.1.1, hH.2.1.1, hH.2.2.1.1, c1, y3, y4, y5, y6, y7, y8, yu, yd, yk]) | (repeat rw [if_neg (by omega)])
  · refine s_tsIn 64 dX11_size_1 (by omega) (by omega) (by omega) (by rw [h_1]; rfl) (by decide) ?_
    refine s_aload_n 65 dX11_size_64 rfl rfl ?_
    refine s_getR 68 dX11_size_65 rfl fl_X11_19 (fun _ _ _ _ => rfl) (by assumption) sh_0 (Nat.le_of_ble_eq_true rfl) ?_
    refine s_getI 71 dX11_size_68 rfl fl_X11_145 (fun _ _ _ _ => rfl) (isP_sh (by assumption)) (isP_lt (by assumption)) (fun r_68 => ?_)
    refine s_iret dX11_size_71 rfl rfl ?_
    refine key _ (fun z => ?_) (fun z => ?_)
    · unfold szF; rw [pick_t z]; first | (subst h_1; simp [p3, p4, p5, p6, p7, p8, hH.1.1, hH.2.1.1, hH.2.2.1.1, c1]) | (repeat rw [if_neg (by omega)])
    · obtain ⟨y3, y4, y5, y6, y7, y8, yu, yd, yk⟩ := zz z; unfold szF; rw [pick_f z]; first | (subst h_1; simp [p3, p4, p5, p6, p7, p8, hH.1.1, hH.2.1.1, hH.2.2.1.1, c1, y3, y4, y5, y6, y7, y8, yu, yd, yk]) | (repeat rw [if_neg (by omega)])
  · refine s_tsIn 72 dX11_size_1 (by omega) (by omega) (by omega) (by rw [h_1]; rfl) (by decide) ?_
    refine s_aload_n 73 dX11_size_72 rfl rfl ?_
    refine s_getR 76 dX11_size_73 rfl fl_X11_19 (fun _ _ _ _ => rfl) (by assumption) sh_0 (Nat.le_of_ble_eq_true rfl) ?_
    refine s_getI 79 dX11_size_76 rfl fl_X11_116 (fun _ _ _ _ => rfl) (isP_sh (by assumption)) (isP_lt (by assumption)) (fun r_76 => ?_)
    refine s_iret dX11_size_79 rfl rfl ?_
    refine key _ (fun z => ?_) (fun z => ?_)
    · unfold szF; rw [pick_t z]; first | (subst h_1; simp [p3, p4, p5, p6, p7, p8, hH.1.1, hH.2.1.1, hH.2.2.1.1, c1]) | (repeat rw [if_neg (by omega)])
    · obtain ⟨y3, y4, y5, y6, y7, y8, yu, yd, yk⟩ := zz z; unfold szF; rw [pick_f z]; first | (subst h_1; simp [p3, p4, p5, p6, p7, p8, hH.1.1, hH.2.1.1, hH.2.2.1.1, c1, y3, y4, y5, y6, y7, y8, yu, yd, yk]) | (repeat rw [if_neg (by omega)])
  · refine s_tsIn 80 dX11_size_1 (by omega) (by omega) (by omega) (by rw [h_1]; rfl) (by decide) ?_
    refine s_aload_n 81 dX11_size_80 rfl rfl ?_
    refine s_getR 84 dX11_size_81 rfl fl_X11_19 (fun _ _ _ _ => rfl) (by assumption) sh_0 (Nat.le_of_ble_eq_true rfl) ?_
    refine s_getI 87 dX11_size_84 rfl fl_X11_373 (fun _ _ _ _ => rfl) (isP_sh (by assumption)) (isP_lt (by assumption)) (fun r_84 => ?_)
    refine s_iret dX11_size_87 rfl rfl ?_
    refine key _ (fun z => ?_) (fun z => ?_)
    · unfold szF; rw [pick_t z]; first | (subst h_1; simp [p3, p4, p5, p6, p7, p8, hH.1.1, hH.2.1.1, hH.2.2.1.1, c1]) | (repeat rw [if_neg (by omega)])
    · obtain ⟨y3, y4, y5, y6, y7, y8, yu, yd, yk⟩ := zz z; unfold szF; rw [pick_f z]; first | (subst h_1; simp [p3, p4, p5, p6, p7, p8, hH.1.1, hH.2.1.1, hH.2.2.1.1, c1, y3, y4, y5, y6, y7, y8, yu, yd, yk]) | (repeat rw [if_neg (by omega)])
  · refine s_tsIn 88 dX11_size_1 (by omega) (by omega) (by omega) (by rw [h_1]; rfl) (by decide) ?_
    refine s_aload_n 89 dX11_size_88 rfl rfl ?_
    refine s_getR 92 dX11_size_89 rfl fl_X11_19 (fun _ _ _ _ => rfl) (by assumption) sh_0 (Nat.le_of_ble_eq_true rfl) ?_
    refine s_getI 95 dX11_size_92 rfl fl_X11_148 (fun _ _ _ _ => rfl) (isP_sh (by assumption)) (isP_lt (by assumption)) (fun r_92 => ?_)
    refine s_iret dX11_size_95 rfl rfl ?_
    refine key _ (fun z => ?_) (fun z => ?_)
    · unfold szF; rw [pick_t z]; first | (subst h_1; simp [p3, p4, p5, p6, p7, p8, hH.1.1, hH.2.1.1, hH.2.2.1.1, c1]) | (repeat rw [if_neg (by omega)])
    · obtain ⟨y3, y4, y5, y6, y7, y8, yu, yd, yk⟩ := zz z; unfold szF; rw [pick_f z]; first | (subst h_1; simp [p3, p4, p5, p6, p7, p8, hH.1.1, hH.2.1.1, hH.2.2.1.1, c1, y3, y4, y5, y6, y7, y8, yu, yd, yk]) | (repeat rw [if_neg (by omega)])
  · refine s_tsIn 96 dX11_size_1 (by omega) (by omega) (by omega) (by rw [h_1]; rfl) (by decide) ?_
    refine s_aload_n 97 dX11_size_96 rfl rfl ?_
    refine s_getR 100 dX11_size_97 rfl fl_X11_19 (fun _ _ _ _ => rfl) (by assumption) sh_0 (Nat.le_of_ble_eq_true rfl) ?_
    refine s_getI 103 dX11_size_100 rfl fl_X11_281 (fun _ _ _ _ => rfl) (isP_sh (by assumption)) (isP_lt (by assumption)) (fun r_100 => ?_)
    refine s_iret dX11_size_103 rfl rfl ?_
    refine key _ (fun z => ?_) (fun z => ?_)
    · unfold szF; rw [pick_t z]; first | (subst h_1; simp [p3, p4, p5, p6, p7, p8, hH.1.1, hH.2.1.1, hH.2.2.1.1, c1]) | (repeat rw [if_neg (by omega)])
    · obtain ⟨y3, y4, y5, y6, y7, y8, yu, yd, yk⟩ := zz z; unfold szF; rw [pick_f z]; first | (subst h_1; simp [p3, p4, p5, p6, p7, p8, hH.1.1, hH.2.1.1, hH.2.2.1.1, c1, y3, y4, y5, y6, y7, y8, yu, yd, yk]) | (repeat rw [if_neg (by omega)])
  · refine s_tsIn 104 dX11_size_1 (by omega) (by omega) (by omega) (by rw [h_1]; rfl) (by decide) ?_
    refine s_aload_n 105 dX11_size_104 rfl rfl ?_
    refine s_getR 108 dX11_size_105 rfl fl_X11_45 (fun _ _ _ _ => rfl) (T_X11_acts hT) sh_0 (Nat.le_of_ble_eq_true rfl) ?_
    refine s_getI 111 dX11_size_108 rfl fl_X11_334 (fun _ _ _ _ => rfl) sh_81 (Nat.le_of_ble_eq_true rfl) (fun r_108 => ?_)
    refine s_iret dX11_size_111 rfl rfl ?_
    refine key _ (fun z => ?_) (fun z => ?_)
    · unfold szF; rw [pick_t z]; first | (subst h_1; simp [p3, p4, p5, p6, p7, p8, hH.1.1, hH.2.1.1, hH.2.2.1.1, c1]) | (repeat rw [if_neg (by omega)])
    · obtain ⟨y3, y4, y5, y6, y7, y8, yu, yd, yk⟩ := zz z; unfold szF; rw [pick_f z]; first | (subst h_1; simp [p3, p4, p5, p6, p7, p8, hH.1.1, hH.2.1.1, hH.2.2.1.1, c1, y3, y4, y5, y6, y7, y8, yu, yd, yk]) | (repeat rw [if_neg (by omega)])
  · refine s_tsIn 112 dX11_size_1 (by omega) (by omega) (by omega) (by rw [h_1]; rfl) (by decide) ?_
    refine s_aload_n 113 dX11_size_112 rfl rfl ?_
    refine s_getR 116 dX11_size_113 rfl fl_X11_45 (fun _ _ _ _ => rfl) (T_X11_acts hT) sh_0 (Nat.le_of_ble_eq_true rfl) ?_
    refine s_getI 119 dX11_size_116 rfl fl_X11_344 (fun _ _ _ _ => rfl) sh_81 (Nat.le_of_ble_eq_true rfl) (fun r_116 => ?_)
    refine s_iret dX11_size_119 rfl rfl ?_
    refine key _ (fun z => ?_) (fun z => ?_)
    · unfold szF; rw [pick_t z]; first | (subst h_1; simp [p3, p4, p5, p6, p7, p8, hH.1.1, hH.2.1.1, hH.2.2.1.1, c1]) | (repeat rw [if_neg (by omega)])
    · obtain ⟨y3, y4, y5, y6, y7, y8, yu, yd, yk⟩ := zz z; unfold szF; rw [pick_f z]; first | (subst h_1; simp [p3, p4, p5, p6, p7, p8, hH.1.1, hH.2.1.1, hH.2.2.1.1, c1, y3, y4, y5, y6, y7, y8, yu, yd, yk]) | (repeat rw [if_neg (by omega)])
  · refine s_tsIn 120 dX11_size_1 (by omega) (by omega) (by omega) (by rw [h_1]; rfl) (by decide) ?_
    refine s_aload_n 121 dX11_size_120 rfl rfl ?_
    refine s_getR 124 dX11_size_121 rfl fl_X11_45 (fun _ _ _ _ => rfl) (T_X11_acts hT) sh_0 (Nat.le_of_ble_eq_true rfl) ?_
    refine s_getI 127 dX11_size_124 rfl fl_X11_350 (fun _ _ _ _ => rfl) sh_81 (Nat.le_of_ble_eq_true rfl) (fun r_124 => ?_)
    refine s_iret dX11_size_127 rfl rfl ?_
    refine key _ (fun z => ?_) (fun z => ?_)
    · unfold szF; rw [pick_t z]; first | (subst h_1; simp [p3, p4, p5, p6, p7, p8, hH.1.1, hH.2.1.1, hH.2.2.1.1, c1]) | (repeat rw [if_neg (by omega)])
    · obtain ⟨y3, y4, y5, y6, y7, y8, yu, yd, yk⟩ := zz z; unfold szF; rw [pick_f z]; first | (subst h_1; simp [p3, p4, p5, p6, p7, p8, hH.1.1, hH.2.1.1, hH.2.2.1.1, c1, y3, y4, y5, y6, y7, y8, yu, yd, yk]) | (repeat rw [if_neg (by omega)])
  · refine s_tsIn 128 dX11_size_1 (by omega) (by omega) (by omega) (by rw [h_1]; rfl) (by decide) ?_
    refine s_aload_n 129 dX11_size_128 rfl rfl ?_
    refine s_getR 132 dX11_size_129 rfl fl_X11_10 (fun _ _ _ _ => rfl) (T_X11_tape hT) sh_0 (Nat.le_of_ble_eq_true rfl) ?_
    refine s_getI 135 dX11_size_132 rfl fl_X11_99 (fun _ _ _ _ => rfl) sh_1 (Nat.le_of_ble_eq_true rfl) (fun r_132 => ?_)
    refine s_iret dX11_size_135 rfl rfl ?_
    refine key _ (fun z => ?_) (fun z => ?_)
    · unfold szF; rw [pick_t z]; first | (subst h_1; simp [p3, p4, p5, p6, p7, p8, hH.1.1, hH.2.1.1, hH.2.2.1.1, c1]) | (repeat rw [if_neg (by omega)])
    · obtain ⟨y3, y4, y5, y6, y7, y8, yu, yd, yk⟩ := zz z; unfold szF; rw [pick_f z]; first | (subst h_1; simp [p3, p4, p5, p6, p7, p8, hH.1.1, hH.2.1.1, hH.2.2.1.1, c1, y3, y4, y5, y6, y7, y8, yu, yd, yk]) | (repeat rw [if_neg (by omega)])
