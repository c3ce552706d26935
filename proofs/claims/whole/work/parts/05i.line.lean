/-! the class's LINES: piece, part, scene -/
theorem nu_e {bt : F1} {n lo hi : Int} {o : PO} (h : isE o) : nuO bt n lo hi o = o := by
  obtain ⟨q, rfl⟩ := isE_t h; rfl
theorem mu_e {bt : F1} {n : Int} {w : List Int} {o : PO} (h : isE o) : muW bt n w o = o := by
  obtain ⟨q, rfl⟩ := isE_t h; rfl
theorem tk_e {bt : F1} {n : Int} {w : List Int} {o : PO} (h : isE o) : tkW bt n w o = o := by
  obtain ⟨q, rfl⟩ := isE_t h; rfl
theorem si_e {bt : F1} {n : Int} {o : PO} (h : isE o) : siO bt n o = o := by
  obtain ⟨q, rfl⟩ := isE_t h; rfl
theorem ki_e {bt : F1} {n : Int} {o : PO} (h : isE o) : kiO bt n o = o := by
  obtain ⟨q, rfl⟩ := isE_t h; rfl
theorem na_e {bt r : F1} {n : Int} {B : Prop} {o : PO} (h : isE o) : naO bt n r B o = o := by
  obtain ⟨q, rfl⟩ := isE_t h; rfl
theorem pa_e {bt r : F1} {n : Int} {B : Prop} {o : PO} (h : isE o) : paO bt n r B o = o := by
  obtain ⟨q, rfl⟩ := isE_t h; rfl
theorem RdO.k {I : MI} {L : ML} {bt r : F1} {n : Int} {P : Nat} {o : PO} (h : RdO I L bt n P r o) (z : ¬ isE o) : ∃ a, o = .inr a ∧ RdK I L bt n P r a := by
  obtain ⟨a, rfl⟩ := isE_f z
  exact ⟨a, rfl, h⟩
theorem RdO.e {I : MI} {L : ML} {bt r r' : F1} {n : Int} {P : Nat} {o o' : PO} (h : RdO I L bt n P r o) (z : isE o) (e : o' = o) : RdO I L bt n P r' o' ∧ bI (¬ isE o') = 0 := by
  obtain ⟨q, hq⟩ := isE_t z
  rw [e, hq]
  rw [hq] at h
  exact ⟨h, isE_l⟩
theorem nn_n {C : Prop} (h : ¬ ¬ C) : C := Classical.byContradiction h
/-- the Piece, when only these three are told anew -/
theorem PR_pl {I J : MI} {P : Nat} {r r' : F1} (hP : isP P) (hW : WFp r) (hR : PR I P r) (ho : ∀ c, c ≠ P → c ≠ 75 → c ≠ 78 → c ≠ 79 → J c = I c) (hf : ∀ k, 3 ≤ k → J P k = I P k) (h0 : J P 0 = r' 1 ∧ J P 1 = r' 2 ∧ J P 2 = r' 3) (e : ∀ j, 4 ≤ j → r' j = r j) : PR J P r' := by
  have hp : P = 3 ∨ P = 39 := hP
  have hd := hW.1
  unfold wHd at hd
  have hOn := hW.2.2.2.1
  obtain ⟨⟨a1, a2, a3, a4, a5, a6, a7, a8⟩, ⟨b1, b2, b3⟩, c1, c2, c3, c4, c5, c6⟩ := hR
  obtain ⟨s1, s2, s3, s4⟩ := sets_c (r := r) (r' := r') (e 7 (by omega)) (fun k k1 k2 => e _ (by omega)) (fun k k1 k2 => e _ (by omega)) (fun k k1 k2 => by have := hOn k k1 k2; exact e _ (by omega))
  refine ⟨⟨h0.1, h0.2.1, h0.2.2, ?_, ?_, ?_, ?_, ?_⟩, ⟨?_, ?_, ?_⟩, fun p p1 p2 => ?_, fun k k1 k2 => ?_, fun w w1 w2 => ?_, fun s q1 q2 => ?_, fun s q1 q2 => ?_, fun p p1 p2 => ?_⟩
  · rw [hf _ (by decide), e 4 (by omega)]; exact a4
  · rw [hf _ (by decide), e 5 (by omega)]; exact a5
  · rw [hf _ (by decide), e 6 (by omega)]; exact a6
  · rw [hf _ (by decide), e 7 (by omega)]; exact a7
  · rw [hf _ (by decide), e 8 (by omega)]; exact a8
  · rw [hf _ (by decide), s1]; exact b1
  · rw [hf _ (by decide), s2]; exact b2
  · rw [hf _ (by decide), s3]; exact b3
  · rw [e 4 (by omega)] at p2
    unfold rowP
    rw [ho _ (by omega) (by omega) (by omega) (by omega), e (9 + p) (by omega), e (16 + p) (by omega), e (23 + p) (by omega), e (30 + p) (by omega), e (37 + p) (by omega)]
    exact c1 p p1 p2
  · rw [e 7 (by omega)] at k2
    unfold rowO
    rw [ho _ (by omega) (by omega) (by omega) (by omega), e (54 + 7 * k + 0) (by omega), e (54 + 7 * k + 1) (by omega), e (54 + 7 * k + 2) (by omega), e (54 + 7 * k + 3) (by omega), e (54 + 7 * k + 4) (by omega), e (54 + 7 * k + 5) (by omega), e (54 + 7 * k + 6) (by omega)]
    exact c2 k k1 k2
  · rw [e 8 (by omega)] at w2
    unfold rowS
    rw [ho _ (by omega) (by omega) (by omega) (by omega), e (152 + 3 * w + 0) (by omega), e (152 + 3 * w + 1) (by omega), e (152 + 3 * w + 2) (by omega)]
    exact c3 w w1 w2
  · rw [e 5 (by omega)] at q2
    rw [ho _ (by omega) (by omega) (by omega) (by omega), e _ (by omega)]; exact c4 s q1 q2
  · rw [ho _ (by omega) (by omega) (by omega) (by omega), e _ (by omega)]; exact c5 s q1 q2
  · rw [ho _ (by omega) (by omega) (by omega) (by omega), s4]; exact c6 p p1 p2
theorem nmL_c {r r' : F1} (hW : WFp r) (e : ∀ j, 173 ≤ j → j < 281 → r' j = r j) {j : Int} (hj : 0 ≤ j ∧ j < 12) : nmL r' j = nmL r j := by
  have h8 := (hW.2.2.2.2.2.2.2.1 j hj.1 hj.2)
  refine vL_ext (n := (r (173 + j)).toNat) (by rw [nmL_len, e _ (by omega) (by omega)]) nmL_len (fun k k1 k2 => ?_)
  have e9 := e (173 + j) (by omega) (by omega)
  rw [nmL_at (r := r') ⟨k1, by rw [e9]; omega⟩, nmL_at (r := r) ⟨k1, by omega⟩, e _ (by omega) (by omega)]
theorem NmC_c {L : ML} {r r' : F1} (hW : WFp r) (h : NmC L r) (e : ∀ j, 173 ≤ j → j < 281 → r' j = r j) (e4 : r' 4 = r 4) (e5 : r' 5 = r 5) : NmC L r' := by
  have hd := hW.1
  unfold wHd at hd
  refine ⟨fun p p1 p2 => ?_, fun s s1 s2 => ?_⟩
  · rw [e4] at p2
    rw [nmL_c hW e (by omega)]; exact h.1 p p1 p2
  · rw [e5] at s2
    rw [nmL_c hW e (by omega)]; exact h.2 s s1 s2
set_option maxHeartbeats 4000000 in
theorem c_X6_pieceLine {E : ET} {I : MI} {L : ML} {R : MR} {Q : Option AV → MI → ML → MR → Prop} {bt r : F1} {n a : Int} {v : F1} {P : Nat} (hT : Topo R) (hP : isP P) (hRP : R 75 5 = some P) (hn : 0 ≤ n ∧ n ≤ 900) (hb : ∀ k, 0 ≤ bt k ∧ bt k ≤ 255) (hW : WFp r) (hS : RdK I L bt n P r a) (hV : VC I 0 v) (h : ∀ I' L', RdF P I L I' L' → RdO I' L' bt n P (plR bt n r (.inr (nxE bt n a))) (plO bt n (.inr (nxE bt n a))) → Q (some (vi (bI (¬ isE (plO bt n (.inr (nxE bt n a))))))) I' L' R) : CT E M_X6_pieceLine 161 yX6_pieceLine [(vr (75))] I L R Q := by
  refine CT_of rfl rfl (fun h => by cases h) (Nat.le_of_ble_eq_true rfl) (fun X => ?_)
  show V X _ z0 0 [some (vr (75)), none] [] I L R _
  obtain ⟨u0, u1, u2, u3, u4, u12, u13, u14, u15, u16, u17, u18, u19, u20, u21, u22, u23, u24, u25, u26, u27⟩ := wR_eq
  have hp : P = 3 ∨ P = 39 := hP
  obtain ⟨o0, ho⟩ : ∃ o0 : PO, o0 = .inr (nxE bt n a) := ⟨_, rfl⟩
  rw [← ho] at h
  have b1 := nuV_b bt n (lo := 0) (hi := 99) (by decide) (plA bt n o0)
  have b2 := nuV_b bt n (lo := 0) (hi := 99) (by decide) (plB bt n o0)
  have b3 := nuV_b bt n (lo := 1) (hi := 3) (by decide) (plC bt n o0)
  have bad : ∀ (I1 : MI) (L1 : ML) (o : PO), isE o → plO bt n o0 = o → RdF P I L I1 L1 → RdO I1 L1 bt n P r o → ∀ w1, V X M_X6_pieceLine z0 67 [some (vr 75), w1] [] I1 L1 R (RT X M_X6_pieceLine Q) := by
    intro I1 L1 o z e f s w1
    obtain ⟨s2, s3⟩ := s.e (r' := plR bt n r o0) z e
    have h9 := h I1 L1 f s2
    rw [s3] at h9
    refine s_iconst 68 dX6_pieceLine_67 rfl ?_
    refine s_istore_n (ls' := [_, _]) 69 dX6_pieceLine_68 rfl (Nat.le_of_ble_eq_true rfl) rfl rfl ?_
    refine s_iload_n 70 dX6_pieceLine_69 rfl rfl ?_
    refine s_if_eq 112 73 dX6_pieceLine_70 rfl rfl (by first | omega | exact bI_r _ | exact iI_r _) (fun h_70 => ?_) (fun h_70 => by exfalso; omega)
    refine s_iload_n 113 dX6_pieceLine_112 rfl rfl ?_
    refine s_zret dX6_pieceLine_113 rfl (by first | omega | exact bI_b _) rfl ?_
    exact h9
  refine s_aload_n 1 dX6_pieceLine_0 rfl rfl ?_
  refine s_getR 4 dX6_pieceLine_1 rfl fl_X6_27 (fun _ _ _ _ => rfl) (T_X6_tokens hT) sh_75 (Nat.le_of_ble_eq_true rfl) ?_
  refine s_callV0 (M' := M_X10_move) (as := []) 7 dX6_pieceLine_4 rfl cw_X6_58 rfl rfl sh_79 rfl (by decide) (Nat.le_of_ble_eq_true rfl) (Nat.le_of_ble_eq_true rfl) (Nat.le_of_ble_eq_true rfl) (Nat.le_of_ble_eq_true rfl) ⟨rfl, rfl, rfl⟩ ?_
  refine c_X10_move2 hT hS.1 hn hb hS.2.2.2.2 (fun I1 L1 g1 g2 => ?_)
  have f1 : RdF P I L I1 L1 := RdF.tm g1
  have k1 := hS.mv hP hW g1 g2
  have v1 : VC I1 0 v := hV.c (by rw [g1.1 75 (by decide)]) (g1.1 78 (by decide))
  refine s_aload_n 8 dX6_pieceLine_7 rfl rfl ?_
  refine s_ldcS 10 dX6_pieceLine_8 rfl (ks_X6_123) ?_
  refine s_callV0 (M' := M_X6_word) (as := [_]) 13 dX6_pieceLine_10 rfl cw_X6_125 rfl rfl sh_75 rfl (by decide) (Nat.le_of_ble_eq_true rfl) (Nat.le_of_ble_eq_true rfl) (Nat.le_of_ble_eq_true rfl) (Nat.le_of_ble_eq_true rfl) ⟨rfl, rfl, rfl⟩ ?_
  refine c_X6_word (o := plA bt n o0) hT hP hn hb rfl u1 hW k1 v1 (by rw [ho]; rfl) (fun I2 L2 g3 g4 g5 => ?_)
  have f2 := f1.tr g3
  refine s_ifb_eq 67 16 dX6_pieceLine_13 rfl rfl (fun h_13 => ?_) (fun h_13 => ?_)
  · skip
    first | exact bad _ _ _ (nn_n h_13) (by unfold plO plC plB; rw [nu_e (nn_n h_13), mu_e (nn_n h_13), nu_e (nn_n h_13), mu_e (nn_n h_13), nu_e (nn_n h_13)]) f2 g4 _ | exact bad _ _ _ (nn_n h_23) (by unfold plO plC plB; rw [mu_e (nn_n h_23), nu_e (nn_n h_23), mu_e (nn_n h_23), nu_e (nn_n h_23)]) f3 g7 _ | exact bad _ _ _ (nn_n h_32) (by unfold plO plC; rw [nu_e (nn_n h_32), mu_e (nn_n h_32), nu_e (nn_n h_32)]) f4 g10 _ | exact bad _ _ _ (nn_n h_42) (by unfold plO plC; rw [mu_e (nn_n h_42), nu_e (nn_n h_42)]) f5 g13 _ | exact bad _ _ _ (nn_n h_51) (by unfold plO; rw [nu_e (nn_n h_51)]) f6 g16 _ | exact bad _ _ _ (nn_n h_60) rfl f7 g19 _
  obtain ⟨a2, e2, k2⟩ := g4.k h_13
  refine s_aload_n 17 dX6_pieceLine_16 rfl rfl ?_
  refine s_iconst 18 dX6_pieceLine_17 rfl ?_
  refine s_bipush 20 dX6_pieceLine_18 rfl (by decide) ?_
  refine s_callV0 (M' := M_X6_whole) (as := [_, _]) 23 dX6_pieceLine_20 rfl cw_X6_128 rfl rfl sh_75 rfl (by decide) (Nat.le_of_ble_eq_true rfl) (Nat.le_of_ble_eq_true rfl) (Nat.le_of_ble_eq_true rfl) (Nat.le_of_ble_eq_true rfl) ⟨rfl, rfl, rfl⟩ ?_
  refine c_X6_whole (o := nuO bt n 0 99 (plA bt n o0)) (x := nuV bt n 0 99 (plA bt n o0)) hT hP hn hb (by decide) (by decide) (by decide) hW k2 (g5 h_13) (by rw [e2]) (by rw [e2]) (fun I3 L3 g6 g7 g8 => ?_)
  have f3 := f2.tr g6
  refine s_ifb_eq 67 26 dX6_pieceLine_23 rfl rfl (fun h_23 => ?_) (fun h_23 => ?_)
  · skip
    first | exact bad _ _ _ (nn_n h_13) (by unfold plO plC plB; rw [nu_e (nn_n h_13), mu_e (nn_n h_13), nu_e (nn_n h_13), mu_e (nn_n h_13), nu_e (nn_n h_13)]) f2 g4 _ | exact bad _ _ _ (nn_n h_23) (by unfold plO plC plB; rw [mu_e (nn_n h_23), nu_e (nn_n h_23), mu_e (nn_n h_23), nu_e (nn_n h_23)]) f3 g7 _ | exact bad _ _ _ (nn_n h_32) (by unfold plO plC; rw [nu_e (nn_n h_32), mu_e (nn_n h_32), nu_e (nn_n h_32)]) f4 g10 _ | exact bad _ _ _ (nn_n h_42) (by unfold plO plC; rw [mu_e (nn_n h_42), nu_e (nn_n h_42)]) f5 g13 _ | exact bad _ _ _ (nn_n h_51) (by unfold plO; rw [nu_e (nn_n h_51)]) f6 g16 _ | exact bad _ _ _ (nn_n h_60) rfl f7 g19 _
  obtain ⟨a3, e3, k3⟩ := g7.k h_23
  refine s_aload_n 27 dX6_pieceLine_26 rfl rfl ?_
  refine s_ldcS 29 dX6_pieceLine_27 rfl (ks_X6_132) ?_
  refine s_callV0 (M' := M_X6_word) (as := [_]) 32 dX6_pieceLine_29 rfl cw_X6_125 rfl rfl sh_75 rfl (by decide) (Nat.le_of_ble_eq_true rfl) (Nat.le_of_ble_eq_true rfl) (Nat.le_of_ble_eq_true rfl) (Nat.le_of_ble_eq_true rfl) ⟨rfl, rfl, rfl⟩ ?_
  refine c_X6_word (o := plB bt n o0) hT hP hn hb rfl u2 hW k3 (g8 h_23) (by unfold plB; rw [e3]) (fun I4 L4 g9 g10 g11 => ?_)
  have f4 := f3.tr g9
  refine s_ifb_eq 67 35 dX6_pieceLine_32 rfl rfl (fun h_32 => ?_) (fun h_32 => ?_)
  · skip
    first | exact bad _ _ _ (nn_n h_13) (by unfold plO plC plB; rw [nu_e (nn_n h_13), mu_e (nn_n h_13), nu_e (nn_n h_13), mu_e (nn_n h_13), nu_e (nn_n h_13)]) f2 g4 _ | exact bad _ _ _ (nn_n h_23) (by unfold plO plC plB; rw [mu_e (nn_n h_23), nu_e (nn_n h_23), mu_e (nn_n h_23), nu_e (nn_n h_23)]) f3 g7 _ | exact bad _ _ _ (nn_n h_32) (by unfold plO plC; rw [nu_e (nn_n h_32), mu_e (nn_n h_32), nu_e (nn_n h_32)]) f4 g10 _ | exact bad _ _ _ (nn_n h_42) (by unfold plO plC; rw [mu_e (nn_n h_42), nu_e (nn_n h_42)]) f5 g13 _ | exact bad _ _ _ (nn_n h_51) (by unfold plO; rw [nu_e (nn_n h_51)]) f6 g16 _ | exact bad _ _ _ (nn_n h_60) rfl f7 g19 _
  obtain ⟨a4, e4, k4⟩ := g10.k h_32
  refine s_aload_n 36 dX6_pieceLine_35 rfl rfl ?_
  refine s_iconst 37 dX6_pieceLine_36 rfl ?_
  refine s_bipush 39 dX6_pieceLine_37 rfl (by decide) ?_
  refine s_callV0 (M' := M_X6_whole) (as := [_, _]) 42 dX6_pieceLine_39 rfl cw_X6_128 rfl rfl sh_75 rfl (by decide) (Nat.le_of_ble_eq_true rfl) (Nat.le_of_ble_eq_true rfl) (Nat.le_of_ble_eq_true rfl) (Nat.le_of_ble_eq_true rfl) ⟨rfl, rfl, rfl⟩ ?_
  refine c_X6_whole (o := nuO bt n 0 99 (plB bt n o0)) (x := nuV bt n 0 99 (plB bt n o0)) hT hP hn hb (by decide) (by decide) (by decide) hW k4 (g11 h_32) (by rw [e4]) (by rw [e4]) (fun I5 L5 g12 g13 g14 => ?_)
  have f5 := f4.tr g12
  refine s_ifb_eq 67 45 dX6_pieceLine_42 rfl rfl (fun h_42 => ?_) (fun h_42 => ?_)
  · skip
    first | exact bad _ _ _ (nn_n h_13) (by unfold plO plC plB; rw [nu_e (nn_n h_13), mu_e (nn_n h_13), nu_e (nn_n h_13), mu_e (nn_n h_13), nu_e (nn_n h_13)]) f2 g4 _ | exact bad _ _ _ (nn_n h_23) (by unfold plO plC plB; rw [mu_e (nn_n h_23), nu_e (nn_n h_23), mu_e (nn_n h_23), nu_e (nn_n h_23)]) f3 g7 _ | exact bad _ _ _ (nn_n h_32) (by unfold plO plC; rw [nu_e (nn_n h_32), mu_e (nn_n h_32), nu_e (nn_n h_32)]) f4 g10 _ | exact bad _ _ _ (nn_n h_42) (by unfold plO plC; rw [mu_e (nn_n h_42), nu_e (nn_n h_42)]) f5 g13 _ | exact bad _ _ _ (nn_n h_51) (by unfold plO; rw [nu_e (nn_n h_51)]) f6 g16 _ | exact bad _ _ _ (nn_n h_60) rfl f7 g19 _
  obtain ⟨a5, e5, k5⟩ := g13.k h_42
  refine s_aload_n 46 dX6_pieceLine_45 rfl rfl ?_
  refine s_ldcS 48 dX6_pieceLine_46 rfl (ks_X6_134) ?_
  refine s_callV0 (M' := M_X6_word) (as := [_]) 51 dX6_pieceLine_48 rfl cw_X6_125 rfl rfl sh_75 rfl (by decide) (Nat.le_of_ble_eq_true rfl) (Nat.le_of_ble_eq_true rfl) (Nat.le_of_ble_eq_true rfl) (Nat.le_of_ble_eq_true rfl) ⟨rfl, rfl, rfl⟩ ?_
  refine c_X6_word (o := plC bt n o0) hT hP hn hb rfl u3 hW k5 (g14 h_42) (by unfold plC; rw [e5]) (fun I6 L6 g15 g16 g17 => ?_)
  have f6 := f5.tr g15
  refine s_ifb_eq 67 54 dX6_pieceLine_51 rfl rfl (fun h_51 => ?_) (fun h_51 => ?_)
  · skip
    first | exact bad _ _ _ (nn_n h_13) (by unfold plO plC plB; rw [nu_e (nn_n h_13), mu_e (nn_n h_13), nu_e (nn_n h_13), mu_e (nn_n h_13), nu_e (nn_n h_13)]) f2 g4 _ | exact bad _ _ _ (nn_n h_23) (by unfold plO plC plB; rw [mu_e (nn_n h_23), nu_e (nn_n h_23), mu_e (nn_n h_23), nu_e (nn_n h_23)]) f3 g7 _ | exact bad _ _ _ (nn_n h_32) (by unfold plO plC; rw [nu_e (nn_n h_32), mu_e (nn_n h_32), nu_e (nn_n h_32)]) f4 g10 _ | exact bad _ _ _ (nn_n h_42) (by unfold plO plC; rw [mu_e (nn_n h_42), nu_e (nn_n h_42)]) f5 g13 _ | exact bad _ _ _ (nn_n h_51) (by unfold plO; rw [nu_e (nn_n h_51)]) f6 g16 _ | exact bad _ _ _ (nn_n h_60) rfl f7 g19 _
  obtain ⟨a6, e6, k6⟩ := g16.k h_51
  refine s_aload_n 55 dX6_pieceLine_54 rfl rfl ?_
  refine s_iconst 56 dX6_pieceLine_55 rfl ?_
  refine s_iconst 57 dX6_pieceLine_56 rfl ?_
  refine s_callV0 (M' := M_X6_whole) (as := [_, _]) 60 dX6_pieceLine_57 rfl cw_X6_128 rfl rfl sh_75 rfl (by decide) (Nat.le_of_ble_eq_true rfl) (Nat.le_of_ble_eq_true rfl) (Nat.le_of_ble_eq_true rfl) (Nat.le_of_ble_eq_true rfl) ⟨rfl, rfl, rfl⟩ ?_
  refine c_X6_whole (o := plO bt n o0) (x := nuV bt n 1 3 (plC bt n o0)) hT hP hn hb (by decide) (by decide) (by decide) hW k6 (g17 h_51) (by unfold plO; rw [e6]) (by rw [e6]) (fun I7 L7 g18 g19 g20 => ?_)
  have f7 := f6.tr g18
  refine s_ifb_eq 67 63 dX6_pieceLine_60 rfl rfl (fun h_60 => ?_) (fun h_60 => ?_)
  · skip
    first | exact bad _ _ _ (nn_n h_13) (by unfold plO plC plB; rw [nu_e (nn_n h_13), mu_e (nn_n h_13), nu_e (nn_n h_13), mu_e (nn_n h_13), nu_e (nn_n h_13)]) f2 g4 _ | exact bad _ _ _ (nn_n h_23) (by unfold plO plC plB; rw [mu_e (nn_n h_23), nu_e (nn_n h_23), mu_e (nn_n h_23), nu_e (nn_n h_23)]) f3 g7 _ | exact bad _ _ _ (nn_n h_32) (by unfold plO plC; rw [nu_e (nn_n h_32), mu_e (nn_n h_32), nu_e (nn_n h_32)]) f4 g10 _ | exact bad _ _ _ (nn_n h_42) (by unfold plO plC; rw [mu_e (nn_n h_42), nu_e (nn_n h_42)]) f5 g13 _ | exact bad _ _ _ (nn_n h_51) (by unfold plO; rw [nu_e (nn_n h_51)]) f6 g16 _ | exact bad _ _ _ (nn_n h_60) rfl f7 g19 _
  obtain ⟨a7, e7, k7⟩ := g19.k h_60
  have v7 := g20 h_60
  have w0 : I7 78 0 = nuV bt n 0 99 (plA bt n o0) := v7.2 0 (by decide) (by decide)
  have w1 : I7 78 1 = nuV bt n 0 99 (plB bt n o0) := v7.2 1 (by decide) (by decide)
  have w2 : I7 78 2 = nuV bt n 1 3 (plC bt n o0) := v7.2 2 (by decide) (by decide)
  refine s_iconst 64 dX6_pieceLine_63 rfl ?_
  refine s_goto 68 dX6_pieceLine_64 rfl ?_
  refine s_istore_n (ls' := [_, _]) 69 dX6_pieceLine_68 rfl (Nat.le_of_ble_eq_true rfl) rfl rfl ?_
  refine s_iload_n 70 dX6_pieceLine_69 rfl rfl ?_
  refine s_if_eq 112 73 dX6_pieceLine_70 rfl rfl (by first | omega | exact bI_r _ | exact iI_r _) (fun h_70 => by exfalso; omega) (fun h_70 => ?_)
  refine s_aload_n 74 dX6_pieceLine_73 rfl rfl ?_
  refine s_getR 77 dX6_pieceLine_74 rfl fl_X6_31 (fun _ _ _ _ => rfl) (by assumption) sh_75 (Nat.le_of_ble_eq_true rfl) ?_
  refine s_aload_n 78 dX6_pieceLine_77 rfl rfl ?_
  refine s_getR 81 dX6_pieceLine_78 rfl fl_X6_18 (fun _ _ _ _ => rfl) (T_X6_values hT) sh_75 (Nat.le_of_ble_eq_true rfl) ?_
  refine s_iconst 82 dX6_pieceLine_81 rfl ?_
  refine s_iald 83 dX6_pieceLine_82 rfl sh_78 (Nat.le_of_ble_eq_true rfl) (by omega) (by omega) (fun r_82 => ?_)
  rw [w0]
  refine s_putI 86 dX6_pieceLine_83 rfl fl_X6_136 (fun _ => rfl) (fun _ => rfl) (fun _ _ _ _ => rfl) (isP_sh (by assumption)) (isP_lt (by assumption)) (by first | omega | exact bI_r _ | exact iI_r _) ?_
  refine s_aload_n 87 dX6_pieceLine_86 rfl rfl ?_
  refine s_getR 90 dX6_pieceLine_87 rfl fl_X6_31 (fun _ _ _ _ => rfl) (by assumption) sh_75 (Nat.le_of_ble_eq_true rfl) ?_
  refine s_aload_n 91 dX6_pieceLine_90 rfl rfl ?_
  refine s_getR 94 dX6_pieceLine_91 rfl fl_X6_18 (fun _ _ _ _ => rfl) (T_X6_values hT) sh_75 (Nat.le_of_ble_eq_true rfl) ?_
  refine s_iconst 95 dX6_pieceLine_94 rfl ?_
  refine s_iald 96 dX6_pieceLine_95 rfl sh_78 (Nat.le_of_ble_eq_true rfl) (by omega) (by omega) (fun r_95 => ?_)
  rw [up_ne (by omega), w1]
  refine s_putI 99 dX6_pieceLine_96 rfl fl_X6_138 (fun _ => rfl) (fun _ => rfl) (fun _ _ _ _ => rfl) (isP_sh (by assumption)) (isP_lt (by assumption)) (by first | omega | exact bI_r _ | exact iI_r _) ?_
  refine s_aload_n 100 dX6_pieceLine_99 rfl rfl ?_
  refine s_getR 103 dX6_pieceLine_100 rfl fl_X6_31 (fun _ _ _ _ => rfl) (by assumption) sh_75 (Nat.le_of_ble_eq_true rfl) ?_
  refine s_aload_n 104 dX6_pieceLine_103 rfl rfl ?_
  refine s_getR 107 dX6_pieceLine_104 rfl fl_X6_18 (fun _ _ _ _ => rfl) (T_X6_values hT) sh_75 (Nat.le_of_ble_eq_true rfl) ?_
  refine s_iconst 108 dX6_pieceLine_107 rfl ?_
  refine s_iald 109 dX6_pieceLine_108 rfl sh_78 (Nat.le_of_ble_eq_true rfl) (by omega) (by omega) (fun r_108 => ?_)
  rw [up_ne (by omega), up_ne (by omega), w2]
  refine s_putI 112 dX6_pieceLine_109 rfl fl_X6_68 (fun _ => rfl) (fun _ => rfl) (fun _ _ _ _ => rfl) (isP_sh (by assumption)) (isP_lt (by assumption)) (by first | omega | exact bI_r _ | exact iI_r _) ?_
  refine s_iload_n 113 dX6_pieceLine_112 rfl rfl ?_
  refine s_zret dX6_pieceLine_113 rfl (by first | omega | exact bI_b _) rfl ?_
  have o4 : ∀ j, 4 ≤ j → plR bt n r o0 j = r j := fun j hj => (by unfold plR; rw [sr_n (by omega), sr_n (by omega), sr_n (by omega), sr_n (by omega)])
  have q1 : plR bt n r o0 1 = nuV bt n 0 99 (plA bt n o0) := (by unfold plR; rw [sr_n (by omega), sr_n (by omega), sr_n (by omega), sr_e])
  have q2 : plR bt n r o0 2 = nuV bt n 0 99 (plB bt n o0) := (by unfold plR; rw [sr_n (by omega), sr_n (by omega), sr_e])
  have q3 : plR bt n r o0 3 = nuV bt n 1 3 (plC bt n o0) := (by unfold plR; rw [sr_n (by omega), sr_e])
  have h9 := h (up (up (up I7 P 0 (nuV bt n 0 99 (plA bt n o0))) P 1 (nuV bt n 0 99 (plB bt n o0))) P 2 (nuV bt n 1 3 (plC bt n o0))) L7 (f7.fp (((FrP.rf.st (by omega)).st (by omega)).st (by omega)))
  rw [e7, isE_r] at h9
  refine h9 ⟨by rw [up_ne (by omega), up_ne (by omega), up_ne (by omega)]; exact k7.1, PR_pl hP hW k7.2.1 (fun c c1 c2 c3 c4 => by rw [up_ne c1, up_ne c1, up_ne c1]) (fun k hk => by rw [upn (by omega), upn (by omega), upn (by omega)]) ⟨?_, ?_, ?_⟩ o4, NmC_c hW k7.2.2.1 (fun j j1 _ => o4 j (by omega)) (o4 4 (by omega)) (o4 5 (by omega)), ?_, k7.2.2.2.2.c ?_ rfl⟩
  · rw [q1, upn (by decide), upn (by decide), ups]
  · rw [q2, upn (by decide), ups]
  · rw [q3, ups]
  · rw [up_ne (by omega), up_ne (by omega), up_ne (by omega)]; exact k7.2.2.2.1
  · rw [up_ne (by omega), up_ne (by omega), up_ne (by omega)]
