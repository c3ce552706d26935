/-! the class's LINES: part, scene -/
theorem nmL_s {r r' : F1} {p : Int} {w : List Int} (hp : 0 ≤ p ∧ p < 12) (hw : w.length ≤ 8) (e : ∀ j, 173 ≤ j → j < 281 → r' j = setN r p w j) : nmL r' p = w := by
  have e1 : r' (173 + p) = w.length := by rw [e _ (by omega) (by omega), setN_s]
  refine vL_ext (n := w.length) (by rw [nmL_len, e1]; omega) rfl (fun k k1 k2 => ?_)
  rw [nmL_at ⟨k1, by omega⟩, e _ (by omega) (by omega), setN_l hp ⟨k1, k2⟩]
theorem nmL_o {r r' : F1} {p : Int} {w : List Int} (hW : WFp r) (hp : 0 ≤ p ∧ p < 12) (hw : w.length ≤ 8) (e : ∀ j, 173 ≤ j → j < 281 → r' j = setN r p w j) {i : Int} (hi : 0 ≤ i ∧ i < 12) (hne : i ≠ p) : nmL r' i = nmL r i := by
  have h8 := (hW.2.2.2.2.2.2.2.1 i hi.1 hi.2)
  have e1 : r' (173 + i) = r (173 + i) := by rw [e _ (by omega) (by omega), setN_n (by omega) (by omega)]
  refine vL_ext (n := (r (173 + i)).toNat) (by rw [nmL_len, e1]) nmL_len (fun k k1 k2 => ?_)
  rw [nmL_at (r := r') ⟨k1, by omega⟩, nmL_at (r := r) ⟨k1, by omega⟩, e _ (by omega) (by omega), setN_n (by omega) (by omega)]
theorem NmC_p {L : ML} {r r' : F1} {w : List Int} (hW : WFp r) (h6 : r 4 ≤ 6) (h : NmC L r) (hw : w.length ≤ 8) (e : ∀ j, 173 ≤ j → j < 281 → r' j = setN r (r 4) w j) (e4 : r' 4 = r 4 + 1) (e5 : r' 5 = r 5) : NmC (up L 76 (r 4) (pkW w)) r' := by
  have hd := hW.1
  unfold wHd at hd
  refine ⟨fun p p1 p2 => ?_, fun s s1 s2 => ?_⟩
  · rw [e4] at p2
    by_cases z : p = r 4
    · subst z
      rw [upsL, nmL_s (by omega) hw e]
    · rw [up_eq, nmL_o hW (by omega) hw e (by omega) z]
      simp only [if_neg z]
      exact h.1 p p1 (by omega)
  · rw [e5] at s2
    rw [up_ne (by decide), nmL_o hW (by omega) hw e (by omega) (by omega)]
    exact h.2 s s1 s2
theorem NmC_s {L : ML} {r r' : F1} {w : List Int} (hW : WFp r) (h6 : r 5 ≤ 4) (h : NmC L r) (hw : w.length ≤ 8) (e : ∀ j, 173 ≤ j → j < 281 → r' j = setN r (7 + r 5) w j) (e4 : r' 4 = r 4) (e5 : r' 5 = r 5 + 1) : NmC (up L 77 (r 5) (pkW w)) r' := by
  have hd := hW.1
  unfold wHd at hd
  refine ⟨fun p p1 p2 => ?_, fun s s1 s2 => ?_⟩
  · rw [e4] at p2
    rw [up_ne (by decide), nmL_o hW (by omega) hw e (by omega) (by omega)]
    exact h.1 p p1 p2
  · rw [e5] at s2
    by_cases z : s = r 5
    · subst z
      rw [upsL, nmL_s (by omega) hw e]
    · rw [up_eq, nmL_o hW (by omega) hw e (by omega) (by omega)]
      simp only [if_neg z]
      exact h.2 s s1 (by omega)
theorem ptR_at {bt r : F1} {n : Int} {o : PO} (hd : 0 ≤ r 4 ∧ r 4 ≤ 6) (hO : ¬ isE (ptO bt n r o)) : ∃ a0, o = .inr a0 ∧ nmP bt n a0 ∧ (∀ j, j ≠ 4 → j ≠ 9 + r 4 → j ≠ 16 + r 4 → j ≠ 23 + r 4 → j ≠ 30 + r 4 → j ≠ 37 + r 4 → ptR bt n r o j = setN r (r 4) (wdE bt n a0) j) ∧
    ptR bt n r o 4 = r 4 + 1 ∧ ptR bt n r o (9 + r 4) = kiK bt n (ptA bt n r o) ∧ ptR bt n r o (37 + r 4) = kiH bt n (ptA bt n r o) ∧ ptR bt n r o (16 + r 4) = nuV bt n 0 9 (ptB bt n r o) ∧ ptR bt n r o (23 + r 4) = nuV bt n 0 99 (ptC bt n r o) ∧ ptR bt n r o (30 + r 4) = nuV bt n 0 99 (ptD bt n r o) := by
  obtain ⟨a0, h0, hm, hf, -, hR⟩ := nnO_s (ptO_A hO)
  have hR := hR (r 4)
  refine ⟨a0, h0, hm, fun j j1 j2 j3 j4 j5 j6 => ?_, sr_e, ?_, ?_, ?_, ?_, ?_⟩
  · unfold ptR
    rw [sr_n j1, sr_n j5, sr_n j4, sr_n j3, sr_n j6, sr_n j2, hR]
  · unfold ptR; rw [sr_n (by omega), sr_n (by omega), sr_n (by omega), sr_n (by omega), sr_n (by omega), sr_e]
  · unfold ptR; rw [sr_n (by omega), sr_n (by omega), sr_n (by omega), sr_n (by omega), sr_e]
  · unfold ptR; rw [sr_n (by omega), sr_n (by omega), sr_n (by omega), sr_e]
  · unfold ptR; rw [sr_n (by omega), sr_n (by omega), sr_e]
  · unfold ptR; rw [sr_n (by omega), sr_e]
set_option maxHeartbeats 4000000 in
theorem c_X6_partLine {E : ET} {I : MI} {L : ML} {R : MR} {Q : Option AV → MI → ML → MR → Prop} {bt r : F1} {n a : Int} {v : F1} {P : Nat} (hT : Topo R) (hP : isP P) (hRP : R 75 5 = some P) (hn : 0 ≤ n ∧ n ≤ 900) (hb : ∀ k, 0 ≤ bt k ∧ bt k ≤ 255) (hW : WFp r) (h6 : r 4 ≤ 6) (hS : RdK I L bt n P r a) (hV : VC I 0 v) (h : ∀ I' L', RdF P I L I' L' → RdO I' L' bt n P (ptR bt n r (.inr (nxE bt n a))) (ptO bt n r (.inr (nxE bt n a))) → Q (some (vi (bI (¬ isE (ptO bt n r (.inr (nxE bt n a))))))) I' L' R) : CT E M_X6_partLine 161 yX6_partLine [(vr (75))] I L R Q := by
  refine CT_of rfl rfl (fun h => by cases h) (Nat.le_of_ble_eq_true rfl) (fun X => ?_)
  show V X _ z0 0 [some (vr (75)), none, none, none] [] I L R _
  obtain ⟨u0, u1, u2, u3, u4, u12, u13, u14, u15, u16, u17, u18, u19, u20, u21, u22, u23, u24, u25, u26, u27⟩ := wR_eq
  have hp : P = 3 ∨ P = 39 := hP
  have hd := hW.1
  unfold wHd at hd
  obtain ⟨o0, ho⟩ : ∃ o0 : PO, o0 = .inr (nxE bt n a) := ⟨_, rfl⟩
  rw [← ho] at h
  have bad : ∀ (I1 : MI) (L1 : ML) (o : PO), isE o → ptO bt n r o0 = o → RdF P I L I1 L1 → RdO I1 L1 bt n P r o → ∀ (x9 : Int64) w3, V X M_X6_partLine z0 121 [some (vr 75), some (vl x9), none, w3] [] I1 L1 R (RT X M_X6_partLine Q) := by
    intro I1 L1 o z e f s x9 w3
    obtain ⟨s2, s3⟩ := s.e (r' := ptR bt n r o0) z e
    have h9 := h I1 L1 f s2
    rw [s3] at h9
    refine s_iconst 122 dX6_partLine_121 rfl ?_
    refine s_istore_n (ls' := [_, _, _, _]) 123 dX6_partLine_122 rfl (Nat.le_of_ble_eq_true rfl) rfl rfl ?_
    refine s_iload_n 124 dX6_partLine_123 rfl rfl ?_
    refine s_if_eq 151 127 dX6_partLine_124 rfl rfl (by first | omega | exact bI_r _ | exact iI_r _) (fun h_124 => ?_) (fun h_124 => by exfalso; omega)
    refine s_iload_n 152 dX6_partLine_151 rfl rfl ?_
    refine s_zret dX6_partLine_152 rfl (by first | omega | exact bI_b _) rfl ?_
    exact h9
  -- behind the KIND and the beard
  have tail : ∀ (I3 : MI) (L3 : ML) (x9 : Int64), (tkE bt n (nxE bt n a) = 2 → x9 = pkW (wdE bt n (nxE bt n a))) → RdF P I L I3 L3 → RdO I3 L3 bt n P r (kiO bt n (ptA bt n r o0)) → ¬ isE (kiO bt n (ptA bt n r o0)) → VC I3 (0 + 1 + 1) (fun j => if j = 0 + 1 then kiH bt n (ptA bt n r o0) else if j = 0 then kiK bt n (ptA bt n r o0) else v j) → V X M_X6_partLine z0 60 [some (vr 75), some (vl x9), none, none] [] I3 L3 R (RT X M_X6_partLine Q) := by
    intro I3 L3 x9 hx f3 g7 h_26 g8
    obtain ⟨a3, e3, k3⟩ := g7.k h_26
    refine s_aload_n 61 dX6_partLine_60 rfl rfl ?_
    refine s_ldcS 63 dX6_partLine_61 rfl (ks_X6_154) ?_
    refine s_callV0 (M' := M_X6_word) (as := [_]) 66 dX6_partLine_63 rfl cw_X6_125 rfl rfl sh_75 rfl (by decide) (Nat.le_of_ble_eq_true rfl) (Nat.le_of_ble_eq_true rfl) (Nat.le_of_ble_eq_true rfl) (Nat.le_of_ble_eq_true rfl) ⟨rfl, rfl, rfl⟩ ?_
    refine c_X6_word (o := ptB bt n r o0) hT hP hn hb rfl u16 hW k3 g8 (by unfold ptB; rw [e3]) (fun I4 L4 g9 g10 g11 => ?_)
    have f4 := f3.tr g9
    refine s_ifb_eq 121 69 dX6_partLine_66 rfl rfl (fun h_66 => ?_) (fun h_66 => ?_)
    · skip
      first | exact bad _ _ _ (nn_n h_66) (by unfold ptO ptD ptC; rw [nu_e (nn_n h_66), mu_e (nn_n h_66), nu_e (nn_n h_66), mu_e (nn_n h_66), nu_e (nn_n h_66)]) f4 g10 _ _ | exact bad _ _ _ (nn_n h_76) (by unfold ptO ptD ptC; rw [mu_e (nn_n h_76), nu_e (nn_n h_76), mu_e (nn_n h_76), nu_e (nn_n h_76)]) f5 g13 _ _ | exact bad _ _ _ (nn_n h_85) (by unfold ptO ptD; rw [nu_e (nn_n h_85), mu_e (nn_n h_85), nu_e (nn_n h_85)]) f6 g16 _ _ | exact bad _ _ _ (nn_n h_95) (by unfold ptO ptD; rw [mu_e (nn_n h_95), nu_e (nn_n h_95)]) f7 g19 _ _ | exact bad _ _ _ (nn_n h_104) (by unfold ptO; rw [nu_e (nn_n h_104)]) f8 g22 _ _ | exact bad _ _ _ (nn_n h_114) rfl f9 g25 _ _
    obtain ⟨a4, e4, k4⟩ := g10.k h_66
    refine s_aload_n 70 dX6_partLine_69 rfl rfl ?_
    refine s_iconst 71 dX6_partLine_70 rfl ?_
    refine s_bipush 73 dX6_partLine_71 rfl (by decide) ?_
    refine s_callV0 (M' := M_X6_whole) (as := [_, _]) 76 dX6_partLine_73 rfl cw_X6_128 rfl rfl sh_75 rfl (by decide) (Nat.le_of_ble_eq_true rfl) (Nat.le_of_ble_eq_true rfl) (Nat.le_of_ble_eq_true rfl) (Nat.le_of_ble_eq_true rfl) ⟨rfl, rfl, rfl⟩ ?_
    refine c_X6_whole (o := nuO bt n 0 9 (ptB bt n r o0)) (x := nuV bt n 0 9 (ptB bt n r o0)) hT hP hn hb (by decide) (by decide) (by decide) hW k4 (g11 h_66) (by rw [e4]) (by rw [e4]) (fun I5 L5 g12 g13 g14 => ?_)
    have f5 := f4.tr g12
    refine s_ifb_eq 121 79 dX6_partLine_76 rfl rfl (fun h_76 => ?_) (fun h_76 => ?_)
    · skip
      first | exact bad _ _ _ (nn_n h_66) (by unfold ptO ptD ptC; rw [nu_e (nn_n h_66), mu_e (nn_n h_66), nu_e (nn_n h_66), mu_e (nn_n h_66), nu_e (nn_n h_66)]) f4 g10 _ _ | exact bad _ _ _ (nn_n h_76) (by unfold ptO ptD ptC; rw [mu_e (nn_n h_76), nu_e (nn_n h_76), mu_e (nn_n h_76), nu_e (nn_n h_76)]) f5 g13 _ _ | exact bad _ _ _ (nn_n h_85) (by unfold ptO ptD; rw [nu_e (nn_n h_85), mu_e (nn_n h_85), nu_e (nn_n h_85)]) f6 g16 _ _ | exact bad _ _ _ (nn_n h_95) (by unfold ptO ptD; rw [mu_e (nn_n h_95), nu_e (nn_n h_95)]) f7 g19 _ _ | exact bad _ _ _ (nn_n h_104) (by unfold ptO; rw [nu_e (nn_n h_104)]) f8 g22 _ _ | exact bad _ _ _ (nn_n h_114) rfl f9 g25 _ _
    obtain ⟨a5, e5, k5⟩ := g13.k h_76
    refine s_aload_n 80 dX6_partLine_79 rfl rfl ?_
    refine s_ldcS 82 dX6_partLine_80 rfl (ks_X6_156) ?_
    refine s_callV0 (M' := M_X6_word) (as := [_]) 85 dX6_partLine_82 rfl cw_X6_125 rfl rfl sh_75 rfl (by decide) (Nat.le_of_ble_eq_true rfl) (Nat.le_of_ble_eq_true rfl) (Nat.le_of_ble_eq_true rfl) (Nat.le_of_ble_eq_true rfl) ⟨rfl, rfl, rfl⟩ ?_
    refine c_X6_word (o := ptC bt n r o0) hT hP hn hb rfl u17 hW k5 (g14 h_76) (by unfold ptC; rw [e5]) (fun I6 L6 g15 g16 g17 => ?_)
    have f6 := f5.tr g15
    refine s_ifb_eq 121 88 dX6_partLine_85 rfl rfl (fun h_85 => ?_) (fun h_85 => ?_)
    · skip
      first | exact bad _ _ _ (nn_n h_66) (by unfold ptO ptD ptC; rw [nu_e (nn_n h_66), mu_e (nn_n h_66), nu_e (nn_n h_66), mu_e (nn_n h_66), nu_e (nn_n h_66)]) f4 g10 _ _ | exact bad _ _ _ (nn_n h_76) (by unfold ptO ptD ptC; rw [mu_e (nn_n h_76), nu_e (nn_n h_76), mu_e (nn_n h_76), nu_e (nn_n h_76)]) f5 g13 _ _ | exact bad _ _ _ (nn_n h_85) (by unfold ptO ptD; rw [nu_e (nn_n h_85), mu_e (nn_n h_85), nu_e (nn_n h_85)]) f6 g16 _ _ | exact bad _ _ _ (nn_n h_95) (by unfold ptO ptD; rw [mu_e (nn_n h_95), nu_e (nn_n h_95)]) f7 g19 _ _ | exact bad _ _ _ (nn_n h_104) (by unfold ptO; rw [nu_e (nn_n h_104)]) f8 g22 _ _ | exact bad _ _ _ (nn_n h_114) rfl f9 g25 _ _
    obtain ⟨a6, e6, k6⟩ := g16.k h_85
    refine s_aload_n 89 dX6_partLine_88 rfl rfl ?_
    refine s_iconst 90 dX6_partLine_89 rfl ?_
    refine s_bipush 92 dX6_partLine_90 rfl (by decide) ?_
    refine s_callV0 (M' := M_X6_whole) (as := [_, _]) 95 dX6_partLine_92 rfl cw_X6_128 rfl rfl sh_75 rfl (by decide) (Nat.le_of_ble_eq_true rfl) (Nat.le_of_ble_eq_true rfl) (Nat.le_of_ble_eq_true rfl) (Nat.le_of_ble_eq_true rfl) ⟨rfl, rfl, rfl⟩ ?_
    refine c_X6_whole (o := nuO bt n 0 99 (ptC bt n r o0)) (x := nuV bt n 0 99 (ptC bt n r o0)) hT hP hn hb (by decide) (by decide) (by decide) hW k6 (g17 h_85) (by rw [e6]) (by rw [e6]) (fun I7 L7 g18 g19 g20 => ?_)
    have f7 := f6.tr g18
    refine s_ifb_eq 121 98 dX6_partLine_95 rfl rfl (fun h_95 => ?_) (fun h_95 => ?_)
    · skip
      first | exact bad _ _ _ (nn_n h_66) (by unfold ptO ptD ptC; rw [nu_e (nn_n h_66), mu_e (nn_n h_66), nu_e (nn_n h_66), mu_e (nn_n h_66), nu_e (nn_n h_66)]) f4 g10 _ _ | exact bad _ _ _ (nn_n h_76) (by unfold ptO ptD ptC; rw [mu_e (nn_n h_76), nu_e (nn_n h_76), mu_e (nn_n h_76), nu_e (nn_n h_76)]) f5 g13 _ _ | exact bad _ _ _ (nn_n h_85) (by unfold ptO ptD; rw [nu_e (nn_n h_85), mu_e (nn_n h_85), nu_e (nn_n h_85)]) f6 g16 _ _ | exact bad _ _ _ (nn_n h_95) (by unfold ptO ptD; rw [mu_e (nn_n h_95), nu_e (nn_n h_95)]) f7 g19 _ _ | exact bad _ _ _ (nn_n h_104) (by unfold ptO; rw [nu_e (nn_n h_104)]) f8 g22 _ _ | exact bad _ _ _ (nn_n h_114) rfl f9 g25 _ _
    obtain ⟨a7, e7, k7⟩ := g19.k h_95
    refine s_aload_n 99 dX6_partLine_98 rfl rfl ?_
    refine s_ldcS 101 dX6_partLine_99 rfl (ks_X6_158) ?_
    refine s_callV0 (M' := M_X6_word) (as := [_]) 104 dX6_partLine_101 rfl cw_X6_125 rfl rfl sh_75 rfl (by decide) (Nat.le_of_ble_eq_true rfl) (Nat.le_of_ble_eq_true rfl) (Nat.le_of_ble_eq_true rfl) (Nat.le_of_ble_eq_true rfl) ⟨rfl, rfl, rfl⟩ ?_
    refine c_X6_word (o := ptD bt n r o0) hT hP hn hb rfl u18 hW k7 (g20 h_95) (by unfold ptD; rw [e7]) (fun I8 L8 g21 g22 g23 => ?_)
    have f8 := f7.tr g21
    refine s_ifb_eq 121 107 dX6_partLine_104 rfl rfl (fun h_104 => ?_) (fun h_104 => ?_)
    · skip
      first | exact bad _ _ _ (nn_n h_66) (by unfold ptO ptD ptC; rw [nu_e (nn_n h_66), mu_e (nn_n h_66), nu_e (nn_n h_66), mu_e (nn_n h_66), nu_e (nn_n h_66)]) f4 g10 _ _ | exact bad _ _ _ (nn_n h_76) (by unfold ptO ptD ptC; rw [mu_e (nn_n h_76), nu_e (nn_n h_76), mu_e (nn_n h_76), nu_e (nn_n h_76)]) f5 g13 _ _ | exact bad _ _ _ (nn_n h_85) (by unfold ptO ptD; rw [nu_e (nn_n h_85), mu_e (nn_n h_85), nu_e (nn_n h_85)]) f6 g16 _ _ | exact bad _ _ _ (nn_n h_95) (by unfold ptO ptD; rw [mu_e (nn_n h_95), nu_e (nn_n h_95)]) f7 g19 _ _ | exact bad _ _ _ (nn_n h_104) (by unfold ptO; rw [nu_e (nn_n h_104)]) f8 g22 _ _ | exact bad _ _ _ (nn_n h_114) rfl f9 g25 _ _
    obtain ⟨a8, e8, k8⟩ := g22.k h_104
    refine s_aload_n 108 dX6_partLine_107 rfl rfl ?_
    refine s_iconst 109 dX6_partLine_108 rfl ?_
    refine s_bipush 111 dX6_partLine_109 rfl (by decide) ?_
    refine s_callV0 (M' := M_X6_whole) (as := [_, _]) 114 dX6_partLine_111 rfl cw_X6_128 rfl rfl sh_75 rfl (by decide) (Nat.le_of_ble_eq_true rfl) (Nat.le_of_ble_eq_true rfl) (Nat.le_of_ble_eq_true rfl) (Nat.le_of_ble_eq_true rfl) ⟨rfl, rfl, rfl⟩ ?_
    refine c_X6_whole (o := ptO bt n r o0) (x := nuV bt n 0 99 (ptD bt n r o0)) hT hP hn hb (by decide) (by decide) (by decide) hW k8 (g23 h_104) (by unfold ptO; rw [e8]) (by rw [e8]) (fun I9 L9 g24 g25 g26 => ?_)
    have f9 := f8.tr g24
    refine s_ifb_eq 121 117 dX6_partLine_114 rfl rfl (fun h_114 => ?_) (fun h_114 => ?_)
    · skip
      first | exact bad _ _ _ (nn_n h_66) (by unfold ptO ptD ptC; rw [nu_e (nn_n h_66), mu_e (nn_n h_66), nu_e (nn_n h_66), mu_e (nn_n h_66), nu_e (nn_n h_66)]) f4 g10 _ _ | exact bad _ _ _ (nn_n h_76) (by unfold ptO ptD ptC; rw [mu_e (nn_n h_76), nu_e (nn_n h_76), mu_e (nn_n h_76), nu_e (nn_n h_76)]) f5 g13 _ _ | exact bad _ _ _ (nn_n h_85) (by unfold ptO ptD; rw [nu_e (nn_n h_85), mu_e (nn_n h_85), nu_e (nn_n h_85)]) f6 g16 _ _ | exact bad _ _ _ (nn_n h_95) (by unfold ptO ptD; rw [mu_e (nn_n h_95), nu_e (nn_n h_95)]) f7 g19 _ _ | exact bad _ _ _ (nn_n h_104) (by unfold ptO; rw [nu_e (nn_n h_104)]) f8 g22 _ _ | exact bad _ _ _ (nn_n h_114) rfl f9 g25 _ _
    obtain ⟨a9, e9, k9⟩ := g25.k h_114
    have v9 := g26 h_114
    obtain ⟨b0, c0, cm, c1, c2, c3, c4, c5, c6, c7⟩ := ptR_at (bt := bt) (n := n) (o := o0) ⟨hd.1, h6⟩ h_114
    have cn := wdE_w cm.1
    have w0 : I9 78 0 = kiK bt n (ptA bt n r o0) := v9.2 0 (by decide) (by decide)
    have w1 : I9 78 1 = kiH bt n (ptA bt n r o0) := v9.2 1 (by decide) (by decide)
    have w2 : I9 78 2 = nuV bt n 0 9 (ptB bt n r o0) := v9.2 2 (by decide) (by decide)
    have w3 : I9 78 3 = nuV bt n 0 99 (ptC bt n r o0) := v9.2 3 (by decide) (by decide)
    have w4 : I9 78 4 = nuV bt n 0 99 (ptD bt n r o0) := v9.2 4 (by decide) (by decide)
    have hname : x9 = pkW (wdE bt n b0) := (by rw [ho] at c0; cases c0; exact hx cm.1)
    have p3 := k9.2.1.1.2.2.2.1
    refine s_iconst 118 dX6_partLine_117 rfl ?_
    refine s_goto 122 dX6_partLine_118 rfl ?_
    refine s_istore_n (ls' := [_, _, _, _]) 123 dX6_partLine_122 rfl (Nat.le_of_ble_eq_true rfl) rfl rfl ?_
    refine s_iload_n 124 dX6_partLine_123 rfl rfl ?_
    refine s_if_eq 151 127 dX6_partLine_124 rfl rfl (by first | omega | exact bI_r _ | exact iI_r _) (fun h_124 => by exfalso; omega) (fun h_124 => ?_)
    refine s_aload_n 128 dX6_partLine_127 rfl rfl ?_
    refine s_getR 131 dX6_partLine_128 rfl fl_X6_9 (fun _ _ _ _ => rfl) (T_X6_partNames hT) sh_75 (Nat.le_of_ble_eq_true rfl) ?_
    refine s_aload_n 132 dX6_partLine_131 rfl rfl ?_
    refine s_getR 135 dX6_partLine_132 rfl fl_X6_31 (fun _ _ _ _ => rfl) (by assumption) sh_75 (Nat.le_of_ble_eq_true rfl) ?_
    refine s_getI 138 dX6_partLine_135 rfl fl_X6_71 (fun _ _ _ _ => rfl) (isP_sh (by assumption)) (isP_lt (by assumption)) (fun r_135 => ?_)
    rw [p3]
    refine s_lload_n 139 dX6_partLine_138 rfl rfl ?_
    rw [hname]
    refine s_last 140 dX6_partLine_139 rfl sh_76 (Nat.le_of_ble_eq_true rfl) (by omega) (by omega) ?_
    refine s_aload_n 141 dX6_partLine_140 rfl rfl ?_
    refine s_getR 144 dX6_partLine_141 rfl fl_X6_31 (fun _ _ _ _ => rfl) (by assumption) sh_75 (Nat.le_of_ble_eq_true rfl) ?_
    refine s_aload_n 145 dX6_partLine_144 rfl rfl ?_
    refine s_getR 148 dX6_partLine_145 rfl fl_X6_18 (fun _ _ _ _ => rfl) (T_X6_values hT) sh_75 (Nat.le_of_ble_eq_true rfl) ?_
    refine s_callV0 (M' := M_X5_addPart) (as := [_]) 151 dX6_partLine_148 rfl cw_X6_160 rfl rfl (isP_sh (by assumption)) rfl (by decide) (isP_lt (by assumption)) (Nat.le_of_ble_eq_true rfl) (Nat.le_of_ble_eq_true rfl) (Nat.le_of_ble_eq_true rfl) ⟨rfl, rfl, rfl⟩ ?_
    have hX : PtX r (ptR bt n r o0) (I9 78) := ⟨c2, ⟨c3.trans w0.symm, c4.trans w1.symm, c5.trans w2.symm, c6.trans w3.symm, c7.trans w4.symm⟩, fun j j0 j1 j2 j3 j4 j5 j6 => by rw [c1 j j1 j2 j3 j4 j5 j6, setN_n (by omega) (by omega)]⟩
    refine c_X5_addPart (r' := ptR bt n r o0) hT hP hW h6 k9.2.1 rfl hX (fun I10 m1 m2 => ?_)
    refine s_iload_n 152 dX6_partLine_151 rfl rfl ?_
    refine s_zret dX6_partLine_152 rfl (by first | omega | exact bI_b _) rfl ?_
    have h9 := h I10 (up L9 76 (r 4) (pkW (wdE bt n b0))) ⟨(f9.fp m1).1, fun c z1 z2 z3 => by rw [up_ne z1]; exact f9.2 c z1 z2 z3⟩
    rw [e9, isE_r] at h9
    refine h9 ⟨by rw [m1 2 (by omega)]; exact k9.1, m2, NmC_p hW h6 k9.2.2.1 cn.2.1 (fun j j1 j2 => c1 j (by omega) (by omega) (by omega) (by omega) (by omega) (by omega)) c2 ?_, ?_, k9.2.2.2.2.c (m1 79 (by omega)) (up_ne (by decide))⟩
    · rw [c1 5 (by omega) (by omega) (by omega) (by omega) (by omega) (by omega), setN_n (by omega) (by omega)]
    · rw [m1 75 (by omega)]; exact k9.2.2.2.1
  refine s_aload_n 1 dX6_partLine_0 rfl rfl ?_
  refine s_getR 4 dX6_partLine_1 rfl fl_X6_27 (fun _ _ _ _ => rfl) (T_X6_tokens hT) sh_75 (Nat.le_of_ble_eq_true rfl) ?_
  refine s_callV0 (M' := M_X10_move) (as := []) 7 dX6_partLine_4 rfl cw_X6_58 rfl rfl sh_79 rfl (by decide) (Nat.le_of_ble_eq_true rfl) (Nat.le_of_ble_eq_true rfl) (Nat.le_of_ble_eq_true rfl) (Nat.le_of_ble_eq_true rfl) ⟨rfl, rfl, rfl⟩ ?_
  refine c_X10_move2 hT hS.1 hn hb hS.2.2.2.2 (fun I1 L1 g1 g2 => ?_)
  have f1 : RdF P I L I1 L1 := RdF.tm g1
  have k1 := hS.mv hP hW g1 g2
  have v1 : VC I1 0 v := hV.c (by rw [g1.1 75 (by decide)]) (g1.1 78 (by decide))
  refine s_aload_n 8 dX6_partLine_7 rfl rfl ?_
  refine s_getR 11 dX6_partLine_8 rfl fl_X6_27 (fun _ _ _ _ => rfl) (T_X6_tokens hT) sh_75 (Nat.le_of_ble_eq_true rfl) ?_
  refine s_getL 14 dX6_partLine_11 rfl fl_X6_141 (fun _ _ _ _ => rfl) sh_79 (Nat.le_of_ble_eq_true rfl) ?_
  refine s_lstore_n (ls' := [_, _, _, _]) 15 dX6_partLine_14 rfl (Nat.le_of_ble_eq_true rfl) rfl rfl ?_
  refine s_aload_n 16 dX6_partLine_15 rfl rfl ?_
  refine s_callV0 (M' := M_X6_newName) (as := []) 19 dX6_partLine_16 rfl cw_X6_145 rfl rfl sh_75 rfl (by decide) (Nat.le_of_ble_eq_true rfl) (Nat.le_of_ble_eq_true rfl) (Nat.le_of_ble_eq_true rfl) (Nat.le_of_ble_eq_true rfl) ⟨rfl, rfl, rfl⟩ ?_
  refine c_X6_newName (o := ptA bt n r o0) hT hP hRP hn hb hW k1 v1 (by rw [ho]; rfl) (fun I2 L2 g3 g4 g5 => ?_)
  have f2 := f1.tr g3
  refine s_ifb_eq 121 22 dX6_partLine_19 rfl rfl (fun h_19 => ?_) (fun h_19 => ?_)
  · skip
    first | exact bad _ _ _ (nn_n h_19) (by unfold ptO ptD ptC ptB; rw [ki_e (nn_n h_19), mu_e (nn_n h_19), nu_e (nn_n h_19), mu_e (nn_n h_19), nu_e (nn_n h_19), mu_e (nn_n h_19), nu_e (nn_n h_19)]) f2 g4 _ _ | exact bad _ _ _ (nn_n h_26) (by unfold ptO ptD ptC ptB; rw [kb.2.2 (nn_n h_26), mu_e (nn_n h_26), nu_e (nn_n h_26), mu_e (nn_n h_26), nu_e (nn_n h_26), mu_e (nn_n h_26), nu_e (nn_n h_26)]) f3 g7 _ _ | exact bad _ _ _ (nn_n h_46) (by unfold ptO ptD ptC ptB; rw [mu_e (nn_n h_46), nu_e (nn_n h_46), mu_e (nn_n h_46), nu_e (nn_n h_46), mu_e (nn_n h_46), nu_e (nn_n h_46)]) f4 g10 _ _
  obtain ⟨a2, e2, k2⟩ := g4.k h_19
  have kb := kj_b (bt := bt) (n := n) e2
  refine s_aload_n 23 dX6_partLine_22 rfl rfl ?_
  refine s_callV0 (M' := M_X6_kind) (as := []) 26 dX6_partLine_23 rfl cw_X6_148 rfl rfl sh_75 rfl (by decide) (Nat.le_of_ble_eq_true rfl) (Nat.le_of_ble_eq_true rfl) (Nat.le_of_ble_eq_true rfl) (Nat.le_of_ble_eq_true rfl) ⟨rfl, rfl, rfl⟩ ?_
  refine c_X6_kind (o := kjO bt n a2) hT hP hn hb (by decide) hW k2 (g5 h_19) rfl (fun I3 L3 g6 g7 g8 => ?_)
  have f3 := f2.tr g6
  refine s_ifb_eq 121 29 dX6_partLine_26 rfl rfl (fun h_26 => ?_) (fun h_26 => ?_)
  · skip
    first | exact bad _ _ _ (nn_n h_19) (by unfold ptO ptD ptC ptB; rw [ki_e (nn_n h_19), mu_e (nn_n h_19), nu_e (nn_n h_19), mu_e (nn_n h_19), nu_e (nn_n h_19), mu_e (nn_n h_19), nu_e (nn_n h_19)]) f2 g4 _ _ | exact bad _ _ _ (nn_n h_26) (by unfold ptO ptD ptC ptB; rw [kb.2.2 (nn_n h_26), mu_e (nn_n h_26), nu_e (nn_n h_26), mu_e (nn_n h_26), nu_e (nn_n h_26), mu_e (nn_n h_26), nu_e (nn_n h_26)]) f3 g7 _ _ | exact bad _ _ _ (nn_n h_46) (by unfold ptO ptD ptC ptB; rw [mu_e (nn_n h_46), nu_e (nn_n h_46), mu_e (nn_n h_46), nu_e (nn_n h_46), mu_e (nn_n h_46), nu_e (nn_n h_46)]) f4 g10 _ _
  obtain ⟨a3, e3, k3⟩ := g7.k h_26
  have v3 : VC I3 (0 + 1) (fun j => if j = 0 then kiK bt n (ptA bt n r o0) else v j) := by rw [e2]; exact g8 h_26
  have w3 : I3 78 0 = kiK bt n (ptA bt n r o0) := v3.2 0 (by decide) (by decide)
  refine s_aload_n 30 dX6_partLine_29 rfl rfl ?_
  refine s_getR 33 dX6_partLine_30 rfl fl_X6_18 (fun _ _ _ _ => rfl) (T_X6_values hT) sh_75 (Nat.le_of_ble_eq_true rfl) ?_
  refine s_iconst 34 dX6_partLine_33 rfl ?_
  refine s_iald 35 dX6_partLine_34 rfl sh_78 (Nat.le_of_ble_eq_true rfl) (by omega) (by omega) (fun r_34 => ?_)
  refine s_iconst 36 dX6_partLine_35 rfl ?_
  refine s_icmp_ne 52 39 dX6_partLine_36 rfl rfl (by first | omega | exact bI_r _ | exact iI_r _) (by first | omega | exact bI_r _ | exact iI_r _) (fun h_36 => ?_) (fun h_36 => ?_)
  · skip
    refine s_aload_n 53 dX6_partLine_52 rfl rfl ?_
    refine s_iconst 54 dX6_partLine_53 rfl ?_
    refine s_callV0 (M' := M_X6_tell) (as := [_]) 57 dX6_partLine_54 rfl cw_X6_151 rfl rfl sh_75 rfl (by decide) (Nat.le_of_ble_eq_true rfl) (Nat.le_of_ble_eq_true rfl) (Nat.le_of_ble_eq_true rfl) (Nat.le_of_ble_eq_true rfl) ⟨rfl, rfl, rfl⟩ ?_
    have kc := kb.2.1 (fun z => h_36 (w3.trans z))
    refine c_X6_tell hT v3.1 (by decide) (by decide) ?_
    refine s_if_eq 121 60 dX6_partLine_57 rfl rfl (by first | omega | exact bI_r _ | exact iI_r _) (fun h_57 => by exfalso; exact absurd h_57 (by decide)) (fun h_57 => ?_)
    first | exact tail I4 L4 _ k1.2.2.2.2.2.2.2.2.2.1 f4 g10 h_46 (g11 h_46) | exact tail _ _ _ k1.2.2.2.2.2.2.2.2.2.1 ((f3.fs (by decide)).fs (by decide)) (by rw [kc.1, e3]; exact k3.tl hP hW) (by rw [kc.1]; exact h_26) (by rw [kc.2]; exact v3.tl)
  refine s_aload_n 40 dX6_partLine_39 rfl rfl ?_
  refine s_iconst 41 dX6_partLine_40 rfl ?_
  refine s_bipush 43 dX6_partLine_41 rfl (by decide) ?_
  refine s_callV0 (M' := M_X6_whole) (as := [_, _]) 46 dX6_partLine_43 rfl cw_X6_128 rfl rfl sh_75 rfl (by decide) (Nat.le_of_ble_eq_true rfl) (Nat.le_of_ble_eq_true rfl) (Nat.le_of_ble_eq_true rfl) (Nat.le_of_ble_eq_true rfl) ⟨rfl, rfl, rfl⟩ ?_
  refine c_X6_whole (o := kiO bt n (ptA bt n r o0)) (x := kiH bt n (ptA bt n r o0)) hT hP hn hb (by decide) (by decide) (by decide) hW k3 v3 (by rw [(kb.1 (w3.symm.trans h_36)).1, e3]) (by rw [(kb.1 (w3.symm.trans h_36)).2, e3]) (fun I4 L4 g9 g10 g11 => ?_)
  have f4 := f3.tr g9
  refine s_ifb_eq 121 49 dX6_partLine_46 rfl rfl (fun h_46 => ?_) (fun h_46 => ?_)
  · skip
    first | exact bad _ _ _ (nn_n h_19) (by unfold ptO ptD ptC ptB; rw [ki_e (nn_n h_19), mu_e (nn_n h_19), nu_e (nn_n h_19), mu_e (nn_n h_19), nu_e (nn_n h_19), mu_e (nn_n h_19), nu_e (nn_n h_19)]) f2 g4 _ _ | exact bad _ _ _ (nn_n h_26) (by unfold ptO ptD ptC ptB; rw [kb.2.2 (nn_n h_26), mu_e (nn_n h_26), nu_e (nn_n h_26), mu_e (nn_n h_26), nu_e (nn_n h_26), mu_e (nn_n h_26), nu_e (nn_n h_26)]) f3 g7 _ _ | exact bad _ _ _ (nn_n h_46) (by unfold ptO ptD ptC ptB; rw [mu_e (nn_n h_46), nu_e (nn_n h_46), mu_e (nn_n h_46), nu_e (nn_n h_46), mu_e (nn_n h_46), nu_e (nn_n h_46)]) f4 g10 _ _
  refine s_goto 60 dX6_partLine_49 rfl ?_
  first | exact tail I4 L4 _ k1.2.2.2.2.2.2.2.2.2.1 f4 g10 h_46 (g11 h_46) | exact tail _ _ _ k1.2.2.2.2.2.2.2.2.2.1 ((f3.fs (by decide)).fs (by decide)) (by rw [kc.1, e3]; exact k3.tl hP hW) (by rw [kc.1]; exact h_26) (by rw [kc.2]; exact v3.tl)
theorem scR_at {bt r : F1} {n : Int} {o : PO} (hO : ¬ isE (scO bt n r o)) : ∃ a0, o = .inr a0 ∧ nmP bt n a0 ∧ (∀ j, j ≠ 5 → j ≠ 44 + r 5 → scR bt n r o j = setN r (7 + r 5) (wdE bt n a0) j) ∧ scR bt n r o 5 = r 5 + 1 ∧ (44 + r 5 ≠ 5 → scR bt n r o (44 + r 5) = nuV bt n 1 500 (scA bt n r o)) := by
  obtain ⟨a0, h0, hm, hf, -, hR⟩ := nnO_s (scO_A hO)
  have hR := hR (7 + r 5)
  refine ⟨a0, h0, hm, fun j j1 j2 => ?_, sr_e, fun z => ?_⟩
  · unfold scR
    rw [sr_n j1, sr_n j2, hR]
  · unfold scR; rw [sr_n z, sr_e]
theorem PR_sc {I J : MI} {P : Nat} {r r' : F1} {x : Int} (hP : isP P) (hW : WFp r) (h6 : r 5 ≤ 4) (hR : PR I P r) (ho : ∀ c, c ≠ P → c ≠ P + 32 → c ≠ 75 → c ≠ 78 → c ≠ 79 → J c = I c) (hf : ∀ k, k ≠ 4 → J P k = I P k) (h4 : J P 4 = r 5 + 1) (h32 : ∀ k, J (P + 32) k = if k = r 5 then x else I (P + 32) k) (e5 : r' 5 = r 5 + 1) (e44 : r' (44 + r 5) = x) (e : ∀ j, j < 173 → j ≠ 5 → j ≠ 44 + r 5 → r' j = r j) : PR J P r' := by
  have hp : P = 3 ∨ P = 39 := hP
  have hd := hW.1
  unfold wHd at hd
  have hOn := hW.2.2.2.1
  obtain ⟨⟨a1, a2, a3, a4, a5, a6, a7, a8⟩, ⟨b1, b2, b3⟩, c1, c2, c3, c4, c5, c6⟩ := hR
  obtain ⟨s1, s2, s3, s4⟩ := sets_c (r := r) (r' := r') (e 7 (by omega) (by omega) (by omega)) (fun k k1 k2 => e _ (by omega) (by omega) (by omega)) (fun k k1 k2 => e _ (by omega) (by omega) (by omega)) (fun k k1 k2 => by have := hOn k k1 k2; exact e _ (by omega) (by omega) (by omega))
  refine ⟨⟨?_, ?_, ?_, ?_, ?_, ?_, ?_, ?_⟩, ⟨?_, ?_, ?_⟩, fun p p1 p2 => ?_, fun k k1 k2 => ?_, fun w w1 w2 => ?_, fun s q1 q2 => ?_, fun s q1 q2 => ?_, fun p p1 p2 => ?_⟩
  · rw [hf _ (by decide), e 1 (by omega) (by omega) (by omega)]; exact a1
  · rw [hf _ (by decide), e 2 (by omega) (by omega) (by omega)]; exact a2
  · rw [hf _ (by decide), e 3 (by omega) (by omega) (by omega)]; exact a3
  · rw [hf _ (by decide), e 4 (by omega) (by omega) (by omega)]; exact a4
  · rw [h4, e5]
  · rw [hf _ (by decide), e 6 (by omega) (by omega) (by omega)]; exact a6
  · rw [hf _ (by decide), e 7 (by omega) (by omega) (by omega)]; exact a7
  · rw [hf _ (by decide), e 8 (by omega) (by omega) (by omega)]; exact a8
  · rw [hf _ (by decide), s1]; exact b1
  · rw [hf _ (by decide), s2]; exact b2
  · rw [hf _ (by decide), s3]; exact b3
  · rw [e 4 (by omega) (by omega) (by omega)] at p2
    unfold rowP
    rw [ho _ (by omega) (by omega) (by omega) (by omega) (by omega), e (9 + p) (by omega) (by omega) (by omega), e (16 + p) (by omega) (by omega) (by omega), e (23 + p) (by omega) (by omega) (by omega), e (30 + p) (by omega) (by omega) (by omega), e (37 + p) (by omega) (by omega) (by omega)]
    exact c1 p p1 p2
  · rw [e 7 (by omega) (by omega) (by omega)] at k2
    unfold rowO
    rw [ho _ (by omega) (by omega) (by omega) (by omega) (by omega), e (54 + 7 * k + 0) (by omega) (by omega) (by omega), e (54 + 7 * k + 1) (by omega) (by omega) (by omega), e (54 + 7 * k + 2) (by omega) (by omega) (by omega), e (54 + 7 * k + 3) (by omega) (by omega) (by omega), e (54 + 7 * k + 4) (by omega) (by omega) (by omega), e (54 + 7 * k + 5) (by omega) (by omega) (by omega), e (54 + 7 * k + 6) (by omega) (by omega) (by omega)]
    exact c2 k k1 k2
  · rw [e 8 (by omega) (by omega) (by omega)] at w2
    unfold rowS
    rw [ho _ (by omega) (by omega) (by omega) (by omega) (by omega), e (152 + 3 * w + 0) (by omega) (by omega) (by omega), e (152 + 3 * w + 1) (by omega) (by omega) (by omega), e (152 + 3 * w + 2) (by omega) (by omega) (by omega)]
    exact c3 w w1 w2
  · rw [e5] at q2
    rw [h32]
    by_cases z : s = r 5
    · rw [if_pos z, z, e44]
    · rw [if_neg z, e _ (by omega) (by omega) (by omega)]; exact c4 s q1 (by omega)
  · rw [ho _ (by omega) (by omega) (by omega) (by omega) (by omega), e _ (by omega) (by omega) (by omega)]; exact c5 s q1 q2
  · rw [ho _ (by omega) (by omega) (by omega) (by omega) (by omega), s4]; exact c6 p p1 p2
set_option maxHeartbeats 4000000 in
theorem c_X6_sceneLine {E : ET} {I : MI} {L : ML} {R : MR} {Q : Option AV → MI → ML → MR → Prop} {bt r : F1} {n a : Int} {v : F1} {P : Nat} (hT : Topo R) (hP : isP P) (hRP : R 75 5 = some P) (hn : 0 ≤ n ∧ n ≤ 900) (hb : ∀ k, 0 ≤ bt k ∧ bt k ≤ 255) (hW : WFp r) (h6 : r 5 ≤ 4) (hS : RdK I L bt n P r a) (hV : VC I 0 v) (h : ∀ I' L', RdF P I L I' L' → RdO I' L' bt n P (scR bt n r (.inr (nxE bt n a))) (scO bt n r (.inr (nxE bt n a))) → Q (some (vi (bI (¬ isE (scO bt n r (.inr (nxE bt n a))))))) I' L' R) : CT E M_X6_sceneLine 161 yX6_sceneLine [(vr (75))] I L R Q := by
  refine CT_of rfl rfl (fun h => by cases h) (Nat.le_of_ble_eq_true rfl) (fun X => ?_)
  show V X _ z0 0 [some (vr (75)), none, none, none] [] I L R _
  obtain ⟨u0, u1, u2, u3, u4, u12, u13, u14, u15, u16, u17, u18, u19, u20, u21, u22, u23, u24, u25, u26, u27⟩ := wR_eq
  have hp : P = 3 ∨ P = 39 := hP
  have hd := hW.1
  unfold wHd at hd
  obtain ⟨o0, ho⟩ : ∃ o0 : PO, o0 = .inr (nxE bt n a) := ⟨_, rfl⟩
  rw [← ho] at h
  have b1 := nuV_b bt n (lo := 1) (hi := 500) (by decide) (scA bt n r o0)
  have bad : ∀ (I1 : MI) (L1 : ML) (o : PO), isE o → scO bt n r o0 = o → RdF P I L I1 L1 → RdO I1 L1 bt n P r o → ∀ (x9 : Int64) w3, V X M_X6_sceneLine z0 46 [some (vr 75), some (vl x9), none, w3] [] I1 L1 R (RT X M_X6_sceneLine Q) := by
    intro I1 L1 o z e f s x9 w3
    obtain ⟨s2, s3⟩ := s.e (r' := scR bt n r o0) z e
    have h9 := h I1 L1 f s2
    rw [s3] at h9
    refine s_iconst 47 dX6_sceneLine_46 rfl ?_
    refine s_istore_n (ls' := [_, _, _, _]) 48 dX6_sceneLine_47 rfl (Nat.le_of_ble_eq_true rfl) rfl rfl ?_
    refine s_iload_n 49 dX6_sceneLine_48 rfl rfl ?_
    refine s_if_eq 99 52 dX6_sceneLine_49 rfl rfl (by first | omega | exact bI_r _ | exact iI_r _) (fun h_49 => ?_) (fun h_49 => by exfalso; omega)
    refine s_iload_n 100 dX6_sceneLine_99 rfl rfl ?_
    refine s_zret dX6_sceneLine_100 rfl (by first | omega | exact bI_b _) rfl ?_
    exact h9
  refine s_aload_n 1 dX6_sceneLine_0 rfl rfl ?_
  refine s_getR 4 dX6_sceneLine_1 rfl fl_X6_27 (fun _ _ _ _ => rfl) (T_X6_tokens hT) sh_75 (Nat.le_of_ble_eq_true rfl) ?_
  refine s_callV0 (M' := M_X10_move) (as := []) 7 dX6_sceneLine_4 rfl cw_X6_58 rfl rfl sh_79 rfl (by decide) (Nat.le_of_ble_eq_true rfl) (Nat.le_of_ble_eq_true rfl) (Nat.le_of_ble_eq_true rfl) (Nat.le_of_ble_eq_true rfl) ⟨rfl, rfl, rfl⟩ ?_
  refine c_X10_move2 hT hS.1 hn hb hS.2.2.2.2 (fun I1 L1 g1 g2 => ?_)
  have f1 : RdF P I L I1 L1 := RdF.tm g1
  have k1 := hS.mv hP hW g1 g2
  have v1 : VC I1 0 v := hV.c (by rw [g1.1 75 (by decide)]) (g1.1 78 (by decide))
  refine s_aload_n 8 dX6_sceneLine_7 rfl rfl ?_
  refine s_getR 11 dX6_sceneLine_8 rfl fl_X6_27 (fun _ _ _ _ => rfl) (T_X6_tokens hT) sh_75 (Nat.le_of_ble_eq_true rfl) ?_
  refine s_getL 14 dX6_sceneLine_11 rfl fl_X6_141 (fun _ _ _ _ => rfl) sh_79 (Nat.le_of_ble_eq_true rfl) ?_
  refine s_lstore_n (ls' := [_, _, _, _]) 15 dX6_sceneLine_14 rfl (Nat.le_of_ble_eq_true rfl) rfl rfl ?_
  refine s_aload_n 16 dX6_sceneLine_15 rfl rfl ?_
  refine s_callV0 (M' := M_X6_newName) (as := []) 19 dX6_sceneLine_16 rfl cw_X6_145 rfl rfl sh_75 rfl (by decide) (Nat.le_of_ble_eq_true rfl) (Nat.le_of_ble_eq_true rfl) (Nat.le_of_ble_eq_true rfl) (Nat.le_of_ble_eq_true rfl) ⟨rfl, rfl, rfl⟩ ?_
  refine c_X6_newName (o := nnO bt n r o0) hT hP hRP hn hb hW k1 v1 (by rw [ho]) (fun I2 L2 g3 g4 g5 => ?_)
  have f2 := f1.tr g3
  refine s_ifb_eq 46 22 dX6_sceneLine_19 rfl rfl (fun h_19 => ?_) (fun h_19 => ?_)
  · skip
    first | exact bad _ _ _ (nn_n h_19) (by unfold scO scA; rw [mu_e (nn_n h_19), nu_e (nn_n h_19)]) f2 g4 _ _ | exact bad _ _ _ (nn_n h_28) (by unfold scO; rw [nu_e (nn_n h_28)]) f3 g7 _ _ | exact bad _ _ _ (nn_n h_39) rfl f4 g10 _ _
  obtain ⟨a2, e2, k2⟩ := g4.k h_19
  refine s_aload_n 23 dX6_sceneLine_22 rfl rfl ?_
  refine s_ldcS 25 dX6_sceneLine_23 rfl (ks_X6_172) ?_
  refine s_callV0 (M' := M_X6_word) (as := [_]) 28 dX6_sceneLine_25 rfl cw_X6_125 rfl rfl sh_75 rfl (by decide) (Nat.le_of_ble_eq_true rfl) (Nat.le_of_ble_eq_true rfl) (Nat.le_of_ble_eq_true rfl) (Nat.le_of_ble_eq_true rfl) ⟨rfl, rfl, rfl⟩ ?_
  refine c_X6_word (o := scA bt n r o0) hT hP hn hb rfl u20 hW k2 (g5 h_19) (by unfold scA; rw [e2]) (fun I3 L3 g6 g7 g8 => ?_)
  have f3 := f2.tr g6
  refine s_ifb_eq 46 31 dX6_sceneLine_28 rfl rfl (fun h_28 => ?_) (fun h_28 => ?_)
  · skip
    first | exact bad _ _ _ (nn_n h_19) (by unfold scO scA; rw [mu_e (nn_n h_19), nu_e (nn_n h_19)]) f2 g4 _ _ | exact bad _ _ _ (nn_n h_28) (by unfold scO; rw [nu_e (nn_n h_28)]) f3 g7 _ _ | exact bad _ _ _ (nn_n h_39) rfl f4 g10 _ _
  obtain ⟨a3, e3, k3⟩ := g7.k h_28
  refine s_aload_n 32 dX6_sceneLine_31 rfl rfl ?_
  refine s_iconst 33 dX6_sceneLine_32 rfl ?_
  refine s_sipush 36 dX6_sceneLine_33 rfl (by decide) ?_
  refine s_callV0 (M' := M_X6_whole) (as := [_, _]) 39 dX6_sceneLine_36 rfl cw_X6_128 rfl rfl sh_75 rfl (by decide) (Nat.le_of_ble_eq_true rfl) (Nat.le_of_ble_eq_true rfl) (Nat.le_of_ble_eq_true rfl) (Nat.le_of_ble_eq_true rfl) ⟨rfl, rfl, rfl⟩ ?_
  refine c_X6_whole (o := scO bt n r o0) (x := nuV bt n 1 500 (scA bt n r o0)) hT hP hn hb (by decide) (by decide) (by decide) hW k3 (g8 h_28) (by unfold scO; rw [e3]) (by rw [e3]) (fun I4 L4 g9 g10 g11 => ?_)
  have f4 := f3.tr g9
  refine s_ifb_eq 46 42 dX6_sceneLine_39 rfl rfl (fun h_39 => ?_) (fun h_39 => ?_)
  · skip
    first | exact bad _ _ _ (nn_n h_19) (by unfold scO scA; rw [mu_e (nn_n h_19), nu_e (nn_n h_19)]) f2 g4 _ _ | exact bad _ _ _ (nn_n h_28) (by unfold scO; rw [nu_e (nn_n h_28)]) f3 g7 _ _ | exact bad _ _ _ (nn_n h_39) rfl f4 g10 _ _
  obtain ⟨a9, e9, k9⟩ := g10.k h_39
  have v9 := g11 h_39
  obtain ⟨b0, c0, cm, c1, c2, c3⟩ := scR_at (bt := bt) (n := n) (r := r) (o := o0) h_39
  have c3 := c3 (by omega)
  have cn := wdE_w cm.1
  have w0 : I4 78 0 = nuV bt n 1 500 (scA bt n r o0) := v9.2 0 (by decide) (by decide)
  have hname : L1 79 5 = pkW (wdE bt n b0) := (by rw [ho] at c0; cases c0; exact k1.2.2.2.2.2.2.2.2.2.1 cm.1)
  have p4 := k9.2.1.1.2.2.2.2.1
  refine s_iconst 43 dX6_sceneLine_42 rfl ?_
  refine s_goto 47 dX6_sceneLine_43 rfl ?_
  refine s_istore_n (ls' := [_, _, _, _]) 48 dX6_sceneLine_47 rfl (Nat.le_of_ble_eq_true rfl) rfl rfl ?_
  refine s_iload_n 49 dX6_sceneLine_48 rfl rfl ?_
  refine s_if_eq 99 52 dX6_sceneLine_49 rfl rfl (by first | omega | exact bI_r _ | exact iI_r _) (fun h_49 => by exfalso; omega) (fun h_49 => ?_)
  refine s_aload_n 53 dX6_sceneLine_52 rfl rfl ?_
  refine s_getR 56 dX6_sceneLine_53 rfl fl_X6_15 (fun _ _ _ _ => rfl) (T_X6_sceneNames hT) sh_75 (Nat.le_of_ble_eq_true rfl) ?_
  refine s_aload_n 57 dX6_sceneLine_56 rfl rfl ?_
  refine s_getR 60 dX6_sceneLine_57 rfl fl_X6_31 (fun _ _ _ _ => rfl) (by assumption) sh_75 (Nat.le_of_ble_eq_true rfl) ?_
  refine s_getI 63 dX6_sceneLine_60 rfl fl_X6_74 (fun _ _ _ _ => rfl) (isP_sh (by assumption)) (isP_lt (by assumption)) (fun r_60 => ?_)
  rw [p4]
  refine s_lload_n 64 dX6_sceneLine_63 rfl rfl ?_
  rw [hname]
  refine s_last 65 dX6_sceneLine_64 rfl sh_77 (Nat.le_of_ble_eq_true rfl) (by omega) (by omega) ?_
  refine s_aload_n 66 dX6_sceneLine_65 rfl rfl ?_
  refine s_getR 69 dX6_sceneLine_66 rfl fl_X6_31 (fun _ _ _ _ => rfl) (by assumption) sh_75 (Nat.le_of_ble_eq_true rfl) ?_
  refine s_getR 72 dX6_sceneLine_69 rfl fl_X6_174 (fun _ _ _ _ => rfl) (T_X5_lasts hT (by assumption)) (isP_sh (by assumption)) (isP_lt (by assumption)) ?_
  refine s_aload_n 73 dX6_sceneLine_72 rfl rfl ?_
  refine s_getR 76 dX6_sceneLine_73 rfl fl_X6_31 (fun _ _ _ _ => rfl) (by assumption) sh_75 (Nat.le_of_ble_eq_true rfl) ?_
  refine s_getI 79 dX6_sceneLine_76 rfl fl_X6_74 (fun _ _ _ _ => rfl) (isP_sh (by assumption)) (isP_lt (by assumption)) (fun r_76 => ?_)
  rw [p4]
  refine s_aload_n 80 dX6_sceneLine_79 rfl rfl ?_
  refine s_getR 83 dX6_sceneLine_80 rfl fl_X6_18 (fun _ _ _ _ => rfl) (T_X6_values hT) sh_75 (Nat.le_of_ble_eq_true rfl) ?_
  refine s_iconst 84 dX6_sceneLine_83 rfl ?_
  refine s_iald 85 dX6_sceneLine_84 rfl sh_78 (Nat.le_of_ble_eq_true rfl) (by omega) (by omega) (fun r_84 => ?_)
  rw [w0]
  refine s_iast 86 dX6_sceneLine_85 rfl (shP_lasts (by assumption)) (ltP_lasts (by assumption)) (by omega) (by omega) (by first | omega | exact bI_r _ | exact iI_r _) ?_
  refine s_aload_n 87 dX6_sceneLine_86 rfl rfl ?_
  refine s_getR 90 dX6_sceneLine_87 rfl fl_X6_31 (fun _ _ _ _ => rfl) (by assumption) sh_75 (Nat.le_of_ble_eq_true rfl) ?_
  refine s_dup 91 dX6_sceneLine_90 rfl rfl ?_
  refine s_getI 94 dX6_sceneLine_91 rfl fl_X6_74 (fun _ _ _ _ => rfl) (isP_sh (by assumption)) (isP_lt (by assumption)) (fun r_91 => ?_)
  rw [up_ne (by omega), p4]
  refine s_iconst 95 dX6_sceneLine_94 rfl ?_
  refine s_iadd 96 dX6_sceneLine_95 rfl ?_
  refine s_putI 99 dX6_sceneLine_96 rfl fl_X6_74 (fun _ => rfl) (fun _ => rfl) (fun _ _ _ _ => rfl) (isP_sh (by assumption)) (isP_lt (by assumption)) (by first | omega | exact bI_r _ | exact iI_r _) ?_
  refine s_iload_n 100 dX6_sceneLine_99 rfl rfl ?_
  refine s_zret dX6_sceneLine_100 rfl (by first | omega | exact bI_b _) rfl ?_
  have h9 := h (up (up I4 (P + 32) (r 5) (nuV bt n 1 500 (scA bt n r o0))) P 4 (r 5 + 1)) (up L4 77 (r 5) (pkW (wdE bt n b0))) ⟨(f4.fp ((FrP.rf.st (by omega)).st (by omega))).1, fun c z1 z2 z3 => by rw [up_ne z2]; exact f4.2 c z1 z2 z3⟩
  rw [e9, isE_r] at h9
  refine h9 ⟨by rw [up_ne (by omega), up_ne (by omega)]; exact k9.1, PR_sc (x := nuV bt n 1 500 (scA bt n r o0)) hP hW h6 k9.2.1 (fun c z1 z2 z3 z4 z5 => by rw [up_ne z1, up_ne z2]) (fun k hk => by rw [upn hk, up_ne (by omega)]) ups (fun k => by rw [up_ne (by omega), upd9]) c2 c3 (fun j j0 j1 j2 => by rw [c1 j j1 j2, setN_n (by omega) (by omega)]), NmC_s hW h6 k9.2.2.1 cn.2.1 (fun j j1 j2 => c1 j (by omega) (by omega)) ?_ c2, ?_, k9.2.2.2.2.c (by rw [up_ne (by omega), up_ne (by omega)]) (up_ne (by decide))⟩
  · rw [c1 4 (by omega) (by omega), setN_n (by omega) (by omega)]
  · rw [up_ne (by omega), up_ne (by omega)]; exact k9.2.2.2.1
