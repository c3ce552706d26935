/-! image, back, by the reference -/
theorem hist_at {M : F1} {m i : Nat} (h : i < m) : (hist M m).getD i [] = rowAt M i := by
  unfold hist
  rw [List.getD_eq_getElem?_getD, List.getElem?_map, List.getElem?_range h]
  rfl
set_option maxHeartbeats 4000000 in
theorem c_X12_image {E : ET} {I : MI} {L : ML} {R : MR} {Q : Option AV → MI → ML → MR → Prop} {bt r s : F1} {n ft pl w : Int} {HP : Prop} {U D K : List (List Int)} (hT : Topo R) (hM : MV I bt n ft pl w HP r s U D K) (hk : K.length ≤ 3) (h : ∀ C, C = (K.length ≠ 3) → ∀ I', (Lo I I' ∧ MV I' bt n ft pl (pick HP (pick C 0 3) 1) HP r s U D (pick (HP ∧ C) (K ++ [rowAt s 0]) K)) → Q (some (vi (pick HP (pick C (K.length : Int) (-1)) (-1)))) I' L R) : CT E M_X12_image 161 yX12_image [(vr (138))] I L R Q := by
  refine CT_of rfl rfl (fun h => by cases h) (Nat.le_of_ble_eq_true rfl) (fun X => ?_)
  show V X _ z0 0 [some (vr (138))] [] I L R _
  have h := h _ rfl
  have hM0 := hM
  obtain ⟨⟨a1, a2, a3, a4, a5, ehp⟩, erd, er, es, ⟨e1, e2⟩, ⟨f1, f2⟩, g1, g2⟩ := hM
  obtain ⟨C, hC⟩ : ∃ C, C = (K.length ≠ 3) := ⟨_, rfl⟩
  rw [← hC] at h
  have ehp1 : up (up I 138 0 0) 138 11 0 138 14 = bI HP := (gd_f (by decide)).trans ehp
  have g3 : up (up I 138 0 0) 138 11 0 138 24 = (K.length : Int) := (gd_f (by decide)).trans g1
  by_cases hP : HP
  · by_cases z : C
    · rw [pick_t hP, pick_t z, pick_t ⟨hP, z⟩, pick_t hP, pick_t z] at h
      rw [hC] at z
      refine s_aload_n 1 dX12_image_0 rfl rfl ?_
      refine s_callV0 (M' := M_X12_good) (as := []) 4 dX12_image_1 rfl cw_X12_190 rfl rfl sh_138 rfl (by decide) (Nat.le_of_ble_eq_true rfl) (Nat.le_of_ble_eq_true rfl) (Nat.le_of_ble_eq_true rfl) (Nat.le_of_ble_eq_true rfl) ⟨rfl, rfl, rfl⟩ ?_
      refine c_X12_good ?_
      refine s_aload_n 5 dX12_image_4 rfl rfl ?_
      refine s_getI 8 dX12_image_5 rfl fl_X12_203 (fun _ _ _ _ => rfl) sh_138 (Nat.le_of_ble_eq_true rfl) (fun r_5 => ?_)
      rw [ehp1, bI_t hP]
      refine s_if_ne 17 11 dX12_image_8 rfl rfl (by first | omega | exact bI_r _ | exact iI_r _) (fun h_8 => ?_) (fun h_8 => by exfalso; omega)
      refine s_aload_n 18 dX12_image_17 rfl rfl ?_
      refine s_getI 21 dX12_image_18 rfl fl_X12_212 (fun _ _ _ _ => rfl) sh_138 (Nat.le_of_ble_eq_true rfl) (fun r_18 => ?_)
      rw [g3]
      refine s_iconst 22 dX12_image_21 rfl ?_
      refine s_icmp_ne 31 25 dX12_image_22 rfl rfl (by first | omega | exact bI_r _ | exact iI_r _) (by first | omega | exact bI_r _ | exact iI_r _) (fun h_22 => ?_) (fun h_22 => by exfalso; omega)
      refine s_aload_n 32 dX12_image_31 rfl rfl ?_
      refine s_getR 35 dX12_image_32 rfl fl_X12_26 (fun _ _ _ _ => rfl) (T_X12_st hT) sh_138 (Nat.le_of_ble_eq_true rfl) ?_
      refine s_iconst 36 dX12_image_35 rfl ?_
      refine s_aload_n 37 dX12_image_36 rfl rfl ?_
      refine s_getR 40 dX12_image_37 rfl fl_X12_38 (fun _ _ _ _ => rfl) (T_X12_kept hT) sh_138 (Nat.le_of_ble_eq_true rfl) ?_
      refine s_bipush 42 dX12_image_40 rfl (by decide) ?_
      refine s_aload_n 43 dX12_image_42 rfl rfl ?_
      refine s_getI 46 dX12_image_43 rfl fl_X12_212 (fun _ _ _ _ => rfl) sh_138 (Nat.le_of_ble_eq_true rfl) (fun r_43 => ?_)
      rw [g3]
      refine s_imul 47 dX12_image_46 rfl ?_
      refine s_bipush 49 dX12_image_47 rfl (by decide) ?_
      refine s_callS0 (M' := M_X12_copy) (as := [_, _, _, _, _]) 52 dX12_image_49 rfl cw_X12_199 rfl rfl (Nat.le_of_ble_eq_true rfl) (Nat.le_of_ble_eq_true rfl) (Nat.le_of_ble_eq_true rfl) ⟨rfl, rfl, rfl⟩ ?_
      refine c_X12_copy sh_143 sh_147 (by decide) (by decide) (by decide) (by decide) (by omega) (by omega) (by omega) ?_
      refine s_aload_n 53 dX12_image_52 rfl rfl ?_
      refine s_dup 54 dX12_image_53 rfl rfl ?_
      refine s_getI 57 dX12_image_54 rfl fl_X12_212 (fun _ _ _ _ => rfl) sh_138 (Nat.le_of_ble_eq_true rfl) (fun r_54 => ?_)
      rw [show cpI (up (up I 138 0 0) 138 11 0) 143 0 147 (13 * K.length) 13 138 24 = (K.length : Int) from by rw [cpI_ne (by decide)]; exact g3]
      refine s_iconst 58 dX12_image_57 rfl ?_
      refine s_iadd 59 dX12_image_58 rfl ?_
      refine s_putI 62 dX12_image_59 rfl fl_X12_212 (fun _ => rfl) (fun _ => rfl) (fun _ _ _ _ => rfl) sh_138 (Nat.le_of_ble_eq_true rfl) (by first | omega | exact bI_r _ | exact iI_r _) ?_
      refine s_aload_n 63 dX12_image_62 rfl rfl ?_
      refine s_getI 66 dX12_image_63 rfl fl_X12_212 (fun _ _ _ _ => rfl) sh_138 (Nat.le_of_ble_eq_true rfl) (fun r_63 => ?_)
      rw [ups]
      refine s_iconst 67 dX12_image_66 rfl ?_
      refine s_isub 68 dX12_image_67 rfl ?_
      refine s_iret dX12_image_68 rfl rfl ?_
      rw [show ((K.length : Int) + 1 - 1) = K.length by omega]
      have n1 : ∀ c, c ≠ 147 → c ≠ 138 → up (cpI (up (up I 138 0 0) 138 11 0) 143 0 147 (13 * K.length) 13) 138 24 (K.length + 1) c = I c := fun c q1 q2 => by
        rw [up_ne q2, cpI_ne q1]
        exact gd_n q2
      have n2 : ∀ k, k ≠ 24 → up (cpI (up (up I 138 0 0) 138 11 0) 143 0 147 (13 * K.length) 13) 138 24 (K.length + 1) 138 k = gd I 0 138 k := fun k q1 => by
        rw [upn q1, cpI_ne (by decide)]
        rfl
      have el : (K ++ [rowAt s 0]).length = K.length + 1 := by simp
      refine h _ (hM0.mk (fun k q1 q2 q3 q4 q5 => by rw [n2 k q5]; exact gd_f ⟨q1, q2⟩) (fun c q1 q2 => n1 c (fun e => q1 (by rw [e]; decide)) q2) (by rw [n2 _ (by decide)]; exact gd_11) (by rw [n1 143 (by decide) (by decide)]; exact es) ⟨by rw [n2 _ (by decide)]; exact (gd_f (by decide)).trans e1, by rw [n1 145 (by decide) (by decide)]; exact e2⟩ ⟨by rw [n2 _ (by decide)]; exact (gd_f (by decide)).trans f1, by rw [n1 146 (by decide) (by decide)]; exact f2⟩ ⟨by rw [ups, el]; rfl, ?_⟩)
      rw [el, hist_s, up_ne (by decide), cpI_eq]
      congr 1
      · conv => rhs; rw [← g2]
        refine hist_c (fun k q1 q2 => ?_)
        try simp only []
        rw [if_neg (by omega)]
        exact congrFun (gd_n (w := 0) (by decide)) k
      · congr 1
        refine rowAt_c (fun k q1 q2 => ?_)
        try simp only []
        rw [if_pos (by omega)]
        refine (congrFun ((gd_n (w := 0) (by decide)).trans es) _).trans ?_
        congr 1
        omega
    · rw [pick_t hP, pick_f z, pick_f (fun y => z y.2), pick_t hP, pick_f z] at h
      rw [hC] at z
      refine s_aload_n 1 dX12_image_0 rfl rfl ?_
      refine s_callV0 (M' := M_X12_good) (as := []) 4 dX12_image_1 rfl cw_X12_190 rfl rfl sh_138 rfl (by decide) (Nat.le_of_ble_eq_true rfl) (Nat.le_of_ble_eq_true rfl) (Nat.le_of_ble_eq_true rfl) (Nat.le_of_ble_eq_true rfl) ⟨rfl, rfl, rfl⟩ ?_
      refine c_X12_good ?_
      refine s_aload_n 5 dX12_image_4 rfl rfl ?_
      refine s_getI 8 dX12_image_5 rfl fl_X12_203 (fun _ _ _ _ => rfl) sh_138 (Nat.le_of_ble_eq_true rfl) (fun r_5 => ?_)
      rw [ehp1, bI_t hP]
      refine s_if_ne 17 11 dX12_image_8 rfl rfl (by first | omega | exact bI_r _ | exact iI_r _) (fun h_8 => ?_) (fun h_8 => by exfalso; omega)
      refine s_aload_n 18 dX12_image_17 rfl rfl ?_
      refine s_getI 21 dX12_image_18 rfl fl_X12_212 (fun _ _ _ _ => rfl) sh_138 (Nat.le_of_ble_eq_true rfl) (fun r_18 => ?_)
      rw [g3]
      refine s_iconst 22 dX12_image_21 rfl ?_
      refine s_icmp_ne 31 25 dX12_image_22 rfl rfl (by first | omega | exact bI_r _ | exact iI_r _) (by first | omega | exact bI_r _ | exact iI_r _) (fun h_22 => by exfalso; omega) (fun h_22 => ?_)
      refine s_aload_n 26 dX12_image_25 rfl rfl ?_
      refine s_iconst 27 dX12_image_26 rfl ?_
      refine s_callV0 (M' := M_X12_no) (as := [_]) 30 dX12_image_27 rfl cw_X12_193 rfl rfl sh_138 rfl (by decide) (Nat.le_of_ble_eq_true rfl) (Nat.le_of_ble_eq_true rfl) (Nat.le_of_ble_eq_true rfl) (Nat.le_of_ble_eq_true rfl) ⟨rfl, rfl, rfl⟩ ?_
      refine c_X12_no (by decide) ?_
      rw [show up (up (up I 138 0 0) 138 11 0) 138 11 3 = gd I 3 from gd_no]
      refine s_iret dX12_image_30 rfl rfl ?_
      exact h _ ⟨Lo.gd Eqo.rf, hM0.q Eqo.rf⟩
  · rw [pick_f hP, pick_f (fun y => hP y.1), pick_f hP] at h
    refine s_aload_n 1 dX12_image_0 rfl rfl ?_
    refine s_callV0 (M' := M_X12_good) (as := []) 4 dX12_image_1 rfl cw_X12_190 rfl rfl sh_138 rfl (by decide) (Nat.le_of_ble_eq_true rfl) (Nat.le_of_ble_eq_true rfl) (Nat.le_of_ble_eq_true rfl) (Nat.le_of_ble_eq_true rfl) ⟨rfl, rfl, rfl⟩ ?_
    refine c_X12_good ?_
    refine s_aload_n 5 dX12_image_4 rfl rfl ?_
    refine s_getI 8 dX12_image_5 rfl fl_X12_203 (fun _ _ _ _ => rfl) sh_138 (Nat.le_of_ble_eq_true rfl) (fun r_5 => ?_)
    rw [ehp1, bI_f hP]
    refine s_if_ne 17 11 dX12_image_8 rfl rfl (by first | omega | exact bI_r _ | exact iI_r _) (fun h_8 => by exfalso; exact absurd rfl h_8) (fun h_8 => ?_)
    refine s_aload_n 12 dX12_image_11 rfl rfl ?_
    refine s_iconst 13 dX12_image_12 rfl ?_
    refine s_callV0 (M' := M_X12_no) (as := [_]) 16 dX12_image_13 rfl cw_X12_193 rfl rfl sh_138 rfl (by decide) (Nat.le_of_ble_eq_true rfl) (Nat.le_of_ble_eq_true rfl) (Nat.le_of_ble_eq_true rfl) (Nat.le_of_ble_eq_true rfl) ⟨rfl, rfl, rfl⟩ ?_
    refine c_X12_no (by decide) ?_
    rw [show up (up (up I 138 0 0) 138 11 0) 138 11 1 = gd I 1 from gd_no]
    refine s_iret dX12_image_16 rfl rfl ?_
    exact h _ ⟨Lo.gd Eqo.rf, hM0.q Eqo.rf⟩
set_option maxHeartbeats 4000000 in
theorem c_X12_back {E : ET} {I : MI} {L : ML} {R : MR} {Q : Option AV → MI → ML → MR → Prop} {bt r s : F1} {n ft pl w i : Int} {HP : Prop} {U D K : List (List Int)} (hT : Topo R) (hM : MV I bt n ft pl w HP r s U D K) (hk : K.length ≤ 3) (hi : -2147483648 ≤ i ∧ i ≤ 2147483647) (h : ∀ C, C = (0 ≤ i ∧ i < (K.length : Int)) → ∀ I', (Lo I I' ∧ MV I' bt n ft pl (pick C 0 1) HP r (pick C (stO (K.getD i.toNat []) s) s) (pick C [] U) (pick C [] D) K) → Q (some (vi (bI C))) I' L R) : CT E M_X12_back 161 yX12_back [(vr (138)), (vi (i))] I L R Q := by
  refine CT_of rfl rfl (fun h => by cases h) (Nat.le_of_ble_eq_true rfl) (fun X => ?_)
  show V X _ z0 0 [some (vr (138)), some (vi (i))] [] I L R _
  have h := h _ rfl
  have hM0 := hM
  obtain ⟨⟨a1, a2, a3, a4, a5, ehp⟩, erd, er, es, ⟨e1, e2⟩, ⟨f1, f2⟩, g1, g2⟩ := hM
  obtain ⟨C, hC⟩ : ∃ C, C = (0 ≤ i ∧ i < (K.length : Int)) := ⟨_, rfl⟩
  rw [← hC] at h
  have g3 : up (up I 138 0 0) 138 11 0 138 24 = (K.length : Int) := (gd_f (by decide)).trans g1
  have hcc : (0 ≤ i ∧ i ≤ (K.length : Int) - 1) ↔ C := by rw [hC]; omega
  by_cases z : C
  · rw [pick_t z, pick_t z, pick_t z, pick_t z, bI_t z] at h
    have z2 := hcc.mpr z
    have hrow : K.getD i.toNat [] = rowAt (I 147) i := by
      rw [← g2, hist_at (by omega), show ((i.toNat : Nat) : Int) = i by omega]
    refine s_aload_n 1 dX12_back_0 rfl rfl ?_
    refine s_callV0 (M' := M_X12_good) (as := []) 4 dX12_back_1 rfl cw_X12_190 rfl rfl sh_138 rfl (by decide) (Nat.le_of_ble_eq_true rfl) (Nat.le_of_ble_eq_true rfl) (Nat.le_of_ble_eq_true rfl) (Nat.le_of_ble_eq_true rfl) ⟨rfl, rfl, rfl⟩ ?_
    refine c_X12_good ?_
    refine s_iload_n 5 dX12_back_4 rfl rfl ?_
    refine s_iconst 6 dX12_back_5 rfl ?_
    refine s_aload_n 7 dX12_back_6 rfl rfl ?_
    refine s_getI 10 dX12_back_7 rfl fl_X12_212 (fun _ _ _ _ => rfl) sh_138 (Nat.le_of_ble_eq_true rfl) (fun r_7 => ?_)
    rw [g3]
    refine s_iconst 11 dX12_back_10 rfl ?_
    refine s_isub 12 dX12_back_11 rfl ?_
    refine s_callS0 (M' := M_X12_within) (as := [_, _, _]) 15 dX12_back_12 rfl cw_X12_174 rfl rfl (Nat.le_of_ble_eq_true rfl) (Nat.le_of_ble_eq_true rfl) (Nat.le_of_ble_eq_true rfl) ⟨rfl, rfl, rfl⟩ ?_
    refine c_X12_within (by omega) (by omega) (by omega) ?_
    refine s_ifb_ne 24 18 dX12_back_15 rfl rfl (fun h_15 => ?_) (fun h_15 => by exfalso; exact absurd z2 (by assumption))
    refine s_aload_n 25 dX12_back_24 rfl rfl ?_
    refine s_getR 28 dX12_back_25 rfl fl_X12_38 (fun _ _ _ _ => rfl) (T_X12_kept hT) sh_138 (Nat.le_of_ble_eq_true rfl) ?_
    refine s_bipush 30 dX12_back_28 rfl (by decide) ?_
    refine s_iload_n 31 dX12_back_30 rfl rfl ?_
    refine s_imul 32 dX12_back_31 rfl ?_
    refine s_aload_n 33 dX12_back_32 rfl rfl ?_
    refine s_getR 36 dX12_back_33 rfl fl_X12_26 (fun _ _ _ _ => rfl) (T_X12_st hT) sh_138 (Nat.le_of_ble_eq_true rfl) ?_
    refine s_iconst 37 dX12_back_36 rfl ?_
    refine s_bipush 39 dX12_back_37 rfl (by decide) ?_
    refine s_callS0 (M' := M_X12_copy) (as := [_, _, _, _, _]) 42 dX12_back_39 rfl cw_X12_199 rfl rfl (Nat.le_of_ble_eq_true rfl) (Nat.le_of_ble_eq_true rfl) (Nat.le_of_ble_eq_true rfl) ⟨rfl, rfl, rfl⟩ ?_
    refine c_X12_copy sh_147 sh_143 (by decide) (by decide) (by decide) (by decide) (by omega) (by omega) (by omega) ?_
    refine s_aload_n 43 dX12_back_42 rfl rfl ?_
    refine s_iconst 44 dX12_back_43 rfl ?_
    refine s_putI 47 dX12_back_44 rfl fl_X12_206 (fun _ => rfl) (fun _ => rfl) (fun _ _ _ _ => rfl) sh_138 (Nat.le_of_ble_eq_true rfl) (by first | omega | exact bI_r _ | exact iI_r _) ?_
    refine s_aload_n 48 dX12_back_47 rfl rfl ?_
    refine s_iconst 49 dX12_back_48 rfl ?_
    refine s_putI 52 dX12_back_49 rfl fl_X12_209 (fun _ => rfl) (fun _ => rfl) (fun _ _ _ _ => rfl) sh_138 (Nat.le_of_ble_eq_true rfl) (by first | omega | exact bI_r _ | exact iI_r _) ?_
    refine s_iconst 53 dX12_back_52 rfl ?_
    refine s_zret dX12_back_53 rfl (by first | omega | exact bI_b _) rfl ?_
    have n1 : ∀ c, c ≠ 143 → c ≠ 138 → up (up (cpI (up (up I 138 0 0) 138 11 0) 147 (13 * i) 143 0 13) 138 22 0) 138 23 0 c = I c := fun c q1 q2 => by
      rw [up_ne q2, up_ne q2, cpI_ne q1]
      exact gd_n q2
    have n2 : ∀ k, k ≠ 22 → k ≠ 23 → up (up (cpI (up (up I 138 0 0) 138 11 0) 147 (13 * i) 143 0 13) 138 22 0) 138 23 0 138 k = gd I 0 138 k := fun k q1 q2 => by
      rw [upn q2, upn q1, cpI_ne (by decide)]
      rfl
    refine h _ (hM0.mk (U' := []) (D' := []) (K' := K) (fun k q1 q2 q3 q4 q5 => by rw [n2 k q3 q4]; exact gd_f ⟨q1, q2⟩) (fun c q1 q2 => n1 c (fun e => q1 (by rw [e]; decide)) q2) (by rw [n2 _ (by decide) (by decide)]; exact gd_11) ?_ ⟨by rw [upn (by decide), ups]; rfl, rfl⟩ ⟨by rw [ups]; rfl, rfl⟩ ⟨by rw [n2 _ (by decide) (by decide)]; exact (gd_f (by decide)).trans g1, by rw [n1 147 (by decide) (by decide)]; exact g2⟩)
    funext k
    rw [up_ne (by decide), up_ne (by decide), cpI_eq]
    try simp only []
    unfold stO
    by_cases hk : 0 ≤ k ∧ k < 13
    · rw [if_pos (by omega), if_pos hk, hrow, vL_row hk]
      refine (congrFun (gd_n (w := 0) (by decide)) _).trans ?_
      congr 1
      omega
    · rw [if_neg (by omega), if_neg hk]
      exact congrFun ((gd_n (w := 0) (by decide)).trans es) k
  · rw [pick_f z, pick_f z, pick_f z, pick_f z] at h
    have z2 : ¬ (0 ≤ i ∧ i ≤ (K.length : Int) - 1) := fun y => z (hcc.mp y)
    refine s_aload_n 1 dX12_back_0 rfl rfl ?_
    refine s_callV0 (M' := M_X12_good) (as := []) 4 dX12_back_1 rfl cw_X12_190 rfl rfl sh_138 rfl (by decide) (Nat.le_of_ble_eq_true rfl) (Nat.le_of_ble_eq_true rfl) (Nat.le_of_ble_eq_true rfl) (Nat.le_of_ble_eq_true rfl) ⟨rfl, rfl, rfl⟩ ?_
    refine c_X12_good ?_
    refine s_iload_n 5 dX12_back_4 rfl rfl ?_
    refine s_iconst 6 dX12_back_5 rfl ?_
    refine s_aload_n 7 dX12_back_6 rfl rfl ?_
    refine s_getI 10 dX12_back_7 rfl fl_X12_212 (fun _ _ _ _ => rfl) sh_138 (Nat.le_of_ble_eq_true rfl) (fun r_7 => ?_)
    rw [g3]
    refine s_iconst 11 dX12_back_10 rfl ?_
    refine s_isub 12 dX12_back_11 rfl ?_
    refine s_callS0 (M' := M_X12_within) (as := [_, _, _]) 15 dX12_back_12 rfl cw_X12_174 rfl rfl (Nat.le_of_ble_eq_true rfl) (Nat.le_of_ble_eq_true rfl) (Nat.le_of_ble_eq_true rfl) ⟨rfl, rfl, rfl⟩ ?_
    refine c_X12_within (by omega) (by omega) (by omega) ?_
    refine s_ifb_ne 24 18 dX12_back_15 rfl rfl (fun h_15 => by exfalso; exact absurd (by assumption) z2) (fun h_15 => ?_)
    refine s_aload_n 19 dX12_back_18 rfl rfl ?_
    refine s_iconst 20 dX12_back_19 rfl ?_
    refine s_callV0 (M' := M_X12_isNot) (as := [_]) 23 dX12_back_20 rfl cw_X12_424 rfl rfl sh_138 rfl (by decide) (Nat.le_of_ble_eq_true rfl) (Nat.le_of_ble_eq_true rfl) (Nat.le_of_ble_eq_true rfl) (Nat.le_of_ble_eq_true rfl) ⟨rfl, rfl, rfl⟩ ?_
    refine c_X12_isNot (by decide) ?_
    rw [show up (up (up I 138 0 0) 138 11 0) 138 11 1 = gd I 1 from gd_no]
    refine s_zret dX12_back_23 rfl (by first | omega | exact bI_b _) rfl ?_
    have q := h (gd I 1) ⟨Lo.gd Eqo.rf, hM0.q Eqo.rf⟩
    rw [bI_f z, ← bI_f (b := False) id] at q
    exact q
