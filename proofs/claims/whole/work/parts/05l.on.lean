/-! the class's LINES: on; any LINE -/
theorem onR_at {bt r : F1} {n : Int} {o : PO} (h7 : 0 ≤ r 7) : OnX r (onR bt n r o) (fun j => if j = 0 then naV bt n r True o else if j = 1 then onS bt n r o else if j = 2 then onF9 bt n r o else if j = 3 then onT bt n r o else if j = 4 then siV bt n (onE bt n r o) else siV bt n (onG bt n r o)) (onQ bt n r o) := by
  refine ⟨sr_e, ⟨?_, ?_, ?_, ?_, ?_, ?_, ?_⟩, fun j _ j1 j2 => ?_⟩
  · unfold onR; rw [sr_n (by omega), sr_n (by omega), sr_n (by omega), sr_n (by omega), sr_n (by omega), sr_n (by omega), sr_n (by omega), sr_e]; rfl
  · unfold onR; rw [sr_n (by omega), sr_n (by omega), sr_n (by omega), sr_n (by omega), sr_n (by omega), sr_n (by omega), sr_e]; rfl
  · unfold onR; rw [sr_n (by omega), sr_n (by omega), sr_n (by omega), sr_n (by omega), sr_n (by omega), sr_e]; rfl
  · unfold onR; rw [sr_n (by omega), sr_n (by omega), sr_n (by omega), sr_n (by omega), sr_e]; rfl
  · unfold onR; rw [sr_n (by omega), sr_n (by omega), sr_n (by omega), sr_e]; rfl
  · unfold onR; rw [sr_n (by omega), sr_n (by omega), sr_e]; rfl
  · unfold onR; rw [sr_n (by omega), sr_e]
  · unfold onR; rw [sr_n j1, sr_n (by omega), sr_n (by omega), sr_n (by omega), sr_n (by omega), sr_n (by omega), sr_n (by omega), sr_n (by omega)]
theorem OnX.v {r r' v v' : F1} {q : Int} (h : OnX r r' v q) (e : ∀ j, 0 ≤ j → j < 6 → v' j = v j) : OnX r r' v' q := by
  obtain ⟨h1, ⟨a0, a1, a2, a3, a4, a5, a6⟩, h3⟩ := h
  exact ⟨h1, ⟨by rw [e 0 (by decide) (by decide)]; exact a0, by rw [e 1 (by decide) (by decide)]; exact a1, by rw [e 2 (by decide) (by decide)]; exact a2, by rw [e 3 (by decide) (by decide)]; exact a3, by rw [e 4 (by decide) (by decide)]; exact a4, by rw [e 5 (by decide) (by decide)]; exact a5, a6⟩, h3⟩
set_option maxHeartbeats 4000000 in
theorem c_X6_onLine {E : ET} {I : MI} {L : ML} {R : MR} {Q : Option AV → MI → ML → MR → Prop} {bt r : F1} {n a : Int} {v : F1} {P : Nat} (hT : Topo R) (hP : isP P) (hRP : R 75 5 = some P) (hn : 0 ≤ n ∧ n ≤ 900) (hb : ∀ k, 0 ≤ bt k ∧ bt k ≤ 255) (hW : WFp r) (h6 : r 7 ≤ 13) (hS : RdK I L bt n P r a) (hV : VC I 0 v) (h : ∀ I' L', RdF P I L I' L' → RdO I' L' bt n P (onR bt n r (.inr (nxE bt n a))) (onO bt n r (.inr (nxE bt n a))) → Q (some (vi (bI (¬ isE (onO bt n r (.inr (nxE bt n a))))))) I' L' R) : CT E M_X6_onLine 161 yX6_onLine [(vr (75))] I L R Q := by
  refine CT_of rfl rfl (fun h => by cases h) (Nat.le_of_ble_eq_true rfl) (fun X => ?_)
  show V X _ z0 0 [some (vr (75)), none, none, none] [] I L R _
  obtain ⟨u0, u1, u2, u3, u4, u12, u13, u14, u15, u16, u17, u18, u19, u20, u21, u22, u23, u24, u25, u26, u27⟩ := wR_eq
  have hp : P = 3 ∨ P = 39 := hP
  have hd := hW.1
  unfold wHd at hd
  obtain ⟨o0, ho⟩ : ∃ o0 : PO, o0 = .inr (nxE bt n a) := ⟨_, rfl⟩
  rw [← ho] at h
  have hL := onL_b (bt := bt) (n := n) (o := o0) hW
  have b3 : 0 ≤ onF9 bt n r o0 ∧ onF9 bt n r o0 ≤ onL bt n r o0 - 1 := nuV_b bt n (by omega) (onB bt n r o0)
  have bad : ∀ (I1 : MI) (L1 : ML) (o : PO), isE o → onO bt n r o0 = o → RdF P I L I1 L1 → RdO I1 L1 bt n P r o → ∀ w1 w2 w3, V X M_X6_onLine z0 114 [some (vr 75), some (vi w1), w2, w3] [] I1 L1 R (RT X M_X6_onLine Q) := by
    intro I1 L1 o z e f s w1 w2 w3
    obtain ⟨s2, s3⟩ := s.e (r' := onR bt n r o0) z e
    have h9 := h I1 L1 f s2
    rw [s3] at h9
    refine s_iconst 115 dX6_onLine_114 rfl ?_
    refine s_istore_n (ls' := [_, _, _, _]) 116 dX6_onLine_115 rfl (Nat.le_of_ble_eq_true rfl) rfl rfl ?_
    refine s_iload_n 117 dX6_onLine_116 rfl rfl ?_
    refine s_if_eq 153 120 dX6_onLine_117 rfl rfl (by first | omega | exact bI_r _ | exact iI_r _) (fun h_117 => ?_) (fun h_117 => by exfalso; omega)
    refine s_iload_n 154 dX6_onLine_153 rfl rfl ?_
    refine s_zret dX6_onLine_154 rfl (by first | omega | exact bI_b _) rfl ?_
    exact h9
  have bad2 : ∀ (I1 : MI) (L1 : ML) (o : PO), isE o → onO bt n r o0 = o → RdF P I L I1 L1 → RdO I1 L1 bt n P r o → Q (some (vi 0)) I1 L1 R := by
    intro I1 L1 o z e f s
    obtain ⟨s2, s3⟩ := s.e (r' := onR bt n r o0) z e
    have h9 := h I1 L1 f s2
    rw [s3] at h9
    exact h9
  have tail : ∀ (I8 I9 : MI) (L8 L9 : ML) (a8 a9 : Int), RdF P I L I8 L8 → onH bt n r o0 = .inr a8 → (∀ j, 0 ≤ j → j < 6 → I9 78 j = (fun j => if j = 0 then naV bt n r True o0 else if j = 1 then onS bt n r o0 else if j = 2 then onF9 bt n r o0 else if j = 3 then onT bt n r o0 else if j = 4 then siV bt n (onE bt n r o0) else siV bt n (onG bt n r o0)) j) → RdF P I L I9 L9 → RdK I9 L9 bt n P r a9 → onO bt n r o0 = .inr a9 → ∀ w1, V X M_X6_onLine z0 141 [some (vr 75), some (vi w1), some (vi 1), some (vi (onQ bt n r o0))] [] I9 L9 R (RT X M_X6_onLine Q) := by
    intro I8 I9 L8 L9 a8 a9 f8 e8 v9 f9 k9 e9 w1
    have hO : ¬ isE (onO bt n r o0) := by rw [e9]; exact id
    have hx := onO_s (bt := bt) (n := n) (r := r) (o := o0) hW.2.2.2.2.2.2.2.1 hO
    have hX : OnX r (onR bt n r o0) (I9 78) (bI (isW bt n (wS 37) (onH bt n r o0))) := (onR_at (bt := bt) (n := n) (o := o0) hd.2.2.2.2.2.2.1).v v9
    have h9 := fun I' m => h I' L9 (f9.fp m)
    rw [e9, isE_r] at h9
    have e0 : onQ bt n r o0 = bI (isW bt n (wS 37) (onH bt n r o0)) := rfl
    rw [e0]
    refine s_aload_n 142 dX6_onLine_141 rfl rfl ?_
    refine s_getR 145 dX6_onLine_142 rfl fl_X6_31 (fun _ _ _ _ => rfl) (by assumption) sh_75 (Nat.le_of_ble_eq_true rfl) ?_
    refine s_aload_n 146 dX6_onLine_145 rfl rfl ?_
    refine s_getR 149 dX6_onLine_146 rfl fl_X6_18 (fun _ _ _ _ => rfl) (T_X6_values hT) sh_75 (Nat.le_of_ble_eq_true rfl) ?_
    refine s_iload_n 150 dX6_onLine_149 rfl rfl ?_
    refine s_callV0 (M' := M_X5_addOn) (as := [_, _]) 153 dX6_onLine_150 rfl cw_X6_204 rfl rfl (isP_sh (by assumption)) rfl (by decide) (isP_lt (by assumption)) (Nat.le_of_ble_eq_true rfl) (Nat.le_of_ble_eq_true rfl) (Nat.le_of_ble_eq_true rfl) ⟨rfl, rfl, rfl⟩ ?_
    refine c_X5_addOn (r' := onR bt n r o0) hT hP hW h6 k9.2.1 rfl (by rw [v9 0 (by decide) (by decide)]; exact hx.1) hX (fun I10 m1 m2 => ?_)
    refine s_iload_n 154 dX6_onLine_153 rfl rfl ?_
    refine s_zret dX6_onLine_154 rfl (by first | omega | exact bI_b _) rfl ?_
    refine h9 I10 m1 ⟨by rw [m1 2 (by omega)]; exact k9.1, m2, NmC_c hW k9.2.2.1 (fun j j1 j2 => ?_) ?_ ?_, by rw [m1 75 (by omega)]; exact k9.2.2.2.1, k9.2.2.2.2.c (m1 79 (by omega)) rfl⟩
    · unfold onR; rw [sr_n (by omega), sr_n (by omega), sr_n (by omega), sr_n (by omega), sr_n (by omega), sr_n (by omega), sr_n (by omega), sr_n (by omega)]
    · unfold onR; rw [sr_n (by omega), sr_n (by omega), sr_n (by omega), sr_n (by omega), sr_n (by omega), sr_n (by omega), sr_n (by omega), sr_n (by omega)]
    · unfold onR; rw [sr_n (by omega), sr_n (by omega), sr_n (by omega), sr_n (by omega), sr_n (by omega), sr_n (by omega), sr_n (by omega), sr_n (by omega)]
  refine s_aload_n 1 dX6_onLine_0 rfl rfl ?_
  refine s_getR 4 dX6_onLine_1 rfl fl_X6_27 (fun _ _ _ _ => rfl) (T_X6_tokens hT) sh_75 (Nat.le_of_ble_eq_true rfl) ?_
  refine s_callV0 (M' := M_X10_move) (as := []) 7 dX6_onLine_4 rfl cw_X6_58 rfl rfl sh_79 rfl (by decide) (Nat.le_of_ble_eq_true rfl) (Nat.le_of_ble_eq_true rfl) (Nat.le_of_ble_eq_true rfl) (Nat.le_of_ble_eq_true rfl) ⟨rfl, rfl, rfl⟩ ?_
  refine c_X10_move2 hT hS.1 hn hb hS.2.2.2.2 (fun I1 L1 g1 g2 => ?_)
  have f1 : RdF P I L I1 L1 := RdF.tm g1
  have k1 := hS.mv hP hW g1 g2
  have v1 : VC I1 0 v := hV.c (by rw [g1.1 75 (by decide)]) (g1.1 78 (by decide))
  refine s_aload_n 8 dX6_onLine_7 rfl rfl ?_
  refine s_aload_n 9 dX6_onLine_8 rfl rfl ?_
  refine s_getR 12 dX6_onLine_9 rfl fl_X6_9 (fun _ _ _ _ => rfl) (T_X6_partNames hT) sh_75 (Nat.le_of_ble_eq_true rfl) ?_
  refine s_aload_n 13 dX6_onLine_12 rfl rfl ?_
  refine s_getR 16 dX6_onLine_13 rfl fl_X6_31 (fun _ _ _ _ => rfl) (by assumption) sh_75 (Nat.le_of_ble_eq_true rfl) ?_
  refine s_getI 19 dX6_onLine_16 rfl fl_X6_71 (fun _ _ _ _ => rfl) (isP_sh (by assumption)) (isP_lt (by assumption)) (fun r_16 => ?_)
  rw [k1.2.1.1.2.2.2.1]
  refine s_callV0 (M' := M_X6_oldName) (as := [_, _]) 22 dX6_onLine_19 rfl cw_X6_176 rfl rfl sh_75 rfl (by decide) (Nat.le_of_ble_eq_true rfl) (Nat.le_of_ble_eq_true rfl) (Nat.le_of_ble_eq_true rfl) (Nat.le_of_ble_eq_true rfl) ⟨rfl, rfl, rfl⟩ ?_
  refine c_X6_oldName (B := True) (N := 7) (o := onA bt n r o0) (x := naV bt n r True o0) hT hP hn hb (Or.inl ⟨trivial, rfl, rfl, rfl⟩) (by decide) hW k1 v1 (by unfold onA; rw [ho]) (by rw [ho]) (fun I2 L2 g3 g4 g5 => ?_)
  have f2 := f1.tr g3
  refine s_ifb_eq 43 25 dX6_onLine_22 rfl rfl (fun h_22 => ?_) (fun h_22 => ?_)
  · skip
    refine s_iconst 44 dX6_onLine_43 rfl ?_
    refine s_zret dX6_onLine_44 rfl (by first | omega | exact bI_b _) rfl ?_
    first | exact bad2 _ _ _ (nn_n h_22) (by have z := nn_n h_22; unfold onO onH onG onE onD onB; rw [pa_e z, nu_e z, mu_e z, nu_e z, si_e z, si_e z, tk_e z]) f2 g4 | exact bad2 _ _ _ (nn_n h_40) (by have z := nn_n h_40; unfold onO onH onG onE onD; rw [nu_e z, mu_e z, nu_e z, si_e z, si_e z, tk_e z]) f3 g7
  obtain ⟨a2, e2, k2⟩ := g4.k h_22
  refine s_aload_n 26 dX6_onLine_25 rfl rfl ?_
  refine s_aload_n 27 dX6_onLine_26 rfl rfl ?_
  refine s_getR 30 dX6_onLine_27 rfl fl_X6_15 (fun _ _ _ _ => rfl) (T_X6_sceneNames hT) sh_75 (Nat.le_of_ble_eq_true rfl) ?_
  refine s_aload_n 31 dX6_onLine_30 rfl rfl ?_
  refine s_getR 34 dX6_onLine_31 rfl fl_X6_31 (fun _ _ _ _ => rfl) (by assumption) sh_75 (Nat.le_of_ble_eq_true rfl) ?_
  refine s_getI 37 dX6_onLine_34 rfl fl_X6_74 (fun _ _ _ _ => rfl) (isP_sh (by assumption)) (isP_lt (by assumption)) (fun r_34 => ?_)
  rw [k2.2.1.1.2.2.2.2.1]
  refine s_callV0 (M' := M_X6_oldName) (as := [_, _]) 40 dX6_onLine_37 rfl cw_X6_176 rfl rfl sh_75 rfl (by decide) (Nat.le_of_ble_eq_true rfl) (Nat.le_of_ble_eq_true rfl) (Nat.le_of_ble_eq_true rfl) (Nat.le_of_ble_eq_true rfl) ⟨rfl, rfl, rfl⟩ ?_
  refine c_X6_oldName (B := False) (N := 5) (o := onB bt n r o0) (x := onS bt n r o0) hT hP hn hb (Or.inr ⟨id, rfl, rfl, rfl⟩) (by decide) hW k2 (g5 h_22) (by unfold onB; rw [e2]) (by unfold onS; rw [e2]) (fun I3 L3 g6 g7 g8 => ?_)
  have f3 := f2.tr g6
  refine s_ifb_ne 45 43 dX6_onLine_40 rfl rfl (fun h_40 => ?_) (fun h_40 => ?_)
  · skip
    obtain ⟨a3, e3, k3⟩ := g7.k h_40
    have v3 := g8 h_40
    have s1 : I3 78 1 = onS bt n r o0 := v3.2 1 (by decide) (by decide)
    have s0 : ¬ isE (naO bt n r False (onA bt n r o0)) := fun z => h_40 (isE_pn.mpr z)
    obtain ⟨_, _, _, _, _, sV⟩ := naV_s (B := False) hW.2.2.2.2.2.2.2.1 s0
    have bS : 0 ≤ onS bt n r o0 ∧ onS bt n r o0 < r 5 := ⟨(naV_b bt n r False _).1, (sV id).1⟩
    have eL : onL bt n r o0 = r (44 + onS bt n r o0) := pick_f h_40
    refine s_aload_n 46 dX6_onLine_45 rfl rfl ?_
    refine s_getR 49 dX6_onLine_46 rfl fl_X6_31 (fun _ _ _ _ => rfl) (by assumption) sh_75 (Nat.le_of_ble_eq_true rfl) ?_
    refine s_getR 52 dX6_onLine_49 rfl fl_X6_174 (fun _ _ _ _ => rfl) (T_X5_lasts hT (by assumption)) (isP_sh (by assumption)) (isP_lt (by assumption)) ?_
    refine s_aload_n 53 dX6_onLine_52 rfl rfl ?_
    refine s_getR 56 dX6_onLine_53 rfl fl_X6_18 (fun _ _ _ _ => rfl) (T_X6_values hT) sh_75 (Nat.le_of_ble_eq_true rfl) ?_
    refine s_iconst 57 dX6_onLine_56 rfl ?_
    refine s_iald 58 dX6_onLine_57 rfl sh_78 (Nat.le_of_ble_eq_true rfl) (by omega) (by omega) (fun r_57 => ?_)
    rw [s1] at r_57 ⊢
    refine s_iald 59 dX6_onLine_58 rfl (shP_lasts (by assumption)) (ltP_lasts (by assumption)) (by omega) (by omega) (fun r_58 => ?_)
    rw [k3.2.1.2.2.2.2.2.1 _ bS.1 bS.2, ← eL] at r_58 ⊢
    refine s_istore_n (ls' := [_, _, _, _]) 60 dX6_onLine_59 rfl (Nat.le_of_ble_eq_true rfl) rfl rfl ?_
    refine s_aload_n 61 dX6_onLine_60 rfl rfl ?_
    refine s_iconst 62 dX6_onLine_61 rfl ?_
    refine s_iload_n 63 dX6_onLine_62 rfl rfl ?_
    refine s_iconst 64 dX6_onLine_63 rfl ?_
    refine s_isub 65 dX6_onLine_64 rfl ?_
    refine s_callV0 (M' := M_X6_whole) (as := [_, _]) 68 dX6_onLine_65 rfl cw_X6_128 rfl rfl sh_75 rfl (by decide) (Nat.le_of_ble_eq_true rfl) (Nat.le_of_ble_eq_true rfl) (Nat.le_of_ble_eq_true rfl) (Nat.le_of_ble_eq_true rfl) ⟨rfl, rfl, rfl⟩ ?_
    refine c_X6_whole (o := nuO bt n 0 (onL bt n r o0 - 1) (onB bt n r o0)) (x := onF9 bt n r o0) hT hP hn hb (by decide) ⟨by omega, by omega⟩ (by decide) hW k3 v3 (by rw [e3]) (by unfold onF9; rw [e3]) (fun I4 L4 g9 g10 g11 => ?_)
    have f4 := f3.tr g9
    refine s_ifb_eq 114 71 dX6_onLine_68 rfl rfl (fun h_68 => ?_) (fun h_68 => ?_)
    · skip
      first | exact bad _ _ _ (nn_n h_68) (by have z := nn_n h_68; unfold onO onH onG onE onD; rw [mu_e z, nu_e z, si_e z, si_e z, tk_e z]) f4 g10 _ _ _ | exact bad _ _ _ (nn_n h_77) (by have z := nn_n h_77; unfold onO onH onG onE; rw [nu_e z, si_e z, si_e z, tk_e z]) f5 g13 _ _ _ | exact bad _ _ _ (nn_n h_93) (by have z := nn_n h_93; unfold onO onH onG; rw [si_e z, si_e z, tk_e z]) f6 g16 _ _ _ | exact bad _ _ _ (nn_n h_100) (by have z := nn_n h_100; unfold onO onH; rw [si_e z, tk_e z]) f7 g19 _ _ _ | exact bad _ _ _ (nn_n h_107) (by have z := nn_n h_107; unfold onO; rw [tk_e z]) f8 g22 _ _ _
    obtain ⟨a4, e4, k4⟩ := g10.k h_68
    refine s_aload_n 72 dX6_onLine_71 rfl rfl ?_
    refine s_ldcS 74 dX6_onLine_72 rfl (ks_X6_197) ?_
    refine s_callV0 (M' := M_X6_word) (as := [_]) 77 dX6_onLine_74 rfl cw_X6_125 rfl rfl sh_75 rfl (by decide) (Nat.le_of_ble_eq_true rfl) (Nat.le_of_ble_eq_true rfl) (Nat.le_of_ble_eq_true rfl) (Nat.le_of_ble_eq_true rfl) ⟨rfl, rfl, rfl⟩ ?_
    refine c_X6_word (o := onD bt n r o0) hT hP hn hb rfl u23 hW k4 (g11 h_68) (by unfold onD; rw [e4]) (fun I5 L5 g12 g13 g14 => ?_)
    have f5 := f4.tr g12
    refine s_ifb_eq 114 80 dX6_onLine_77 rfl rfl (fun h_77 => ?_) (fun h_77 => ?_)
    · skip
      first | exact bad _ _ _ (nn_n h_68) (by have z := nn_n h_68; unfold onO onH onG onE onD; rw [mu_e z, nu_e z, si_e z, si_e z, tk_e z]) f4 g10 _ _ _ | exact bad _ _ _ (nn_n h_77) (by have z := nn_n h_77; unfold onO onH onG onE; rw [nu_e z, si_e z, si_e z, tk_e z]) f5 g13 _ _ _ | exact bad _ _ _ (nn_n h_93) (by have z := nn_n h_93; unfold onO onH onG; rw [si_e z, si_e z, tk_e z]) f6 g16 _ _ _ | exact bad _ _ _ (nn_n h_100) (by have z := nn_n h_100; unfold onO onH; rw [si_e z, tk_e z]) f7 g19 _ _ _ | exact bad _ _ _ (nn_n h_107) (by have z := nn_n h_107; unfold onO; rw [tk_e z]) f8 g22 _ _ _
    obtain ⟨a5, e5, k5⟩ := g13.k h_77
    have v5 := g14 h_77
    have s2 : I5 78 2 = onF9 bt n r o0 := v5.2 2 (by decide) (by decide)
    refine s_aload_n 81 dX6_onLine_80 rfl rfl ?_
    refine s_aload_n 82 dX6_onLine_81 rfl rfl ?_
    refine s_getR 85 dX6_onLine_82 rfl fl_X6_18 (fun _ _ _ _ => rfl) (T_X6_values hT) sh_75 (Nat.le_of_ble_eq_true rfl) ?_
    refine s_iconst 86 dX6_onLine_85 rfl ?_
    refine s_iald 87 dX6_onLine_86 rfl sh_78 (Nat.le_of_ble_eq_true rfl) (by omega) (by omega) (fun r_86 => ?_)
    rw [s2]
    refine s_iconst 88 dX6_onLine_87 rfl ?_
    refine s_iadd 89 dX6_onLine_88 rfl ?_
    refine s_iload_n 90 dX6_onLine_89 rfl rfl ?_
    refine s_callV0 (M' := M_X6_whole) (as := [_, _]) 93 dX6_onLine_90 rfl cw_X6_128 rfl rfl sh_75 rfl (by decide) (Nat.le_of_ble_eq_true rfl) (Nat.le_of_ble_eq_true rfl) (Nat.le_of_ble_eq_true rfl) (Nat.le_of_ble_eq_true rfl) ⟨rfl, rfl, rfl⟩ ?_
    refine c_X6_whole (o := onE bt n r o0) (x := onT bt n r o0) hT hP hn hb ⟨by omega, by omega⟩ ⟨by omega, by omega⟩ (by decide) hW k5 v5 (by unfold onE; rw [e5]) (by unfold onT; rw [e5]) (fun I6 L6 g15 g16 g17 => ?_)
    have f6 := f5.tr g15
    refine s_ifb_eq 114 96 dX6_onLine_93 rfl rfl (fun h_93 => ?_) (fun h_93 => ?_)
    · skip
      first | exact bad _ _ _ (nn_n h_68) (by have z := nn_n h_68; unfold onO onH onG onE onD; rw [mu_e z, nu_e z, si_e z, si_e z, tk_e z]) f4 g10 _ _ _ | exact bad _ _ _ (nn_n h_77) (by have z := nn_n h_77; unfold onO onH onG onE; rw [nu_e z, si_e z, si_e z, tk_e z]) f5 g13 _ _ _ | exact bad _ _ _ (nn_n h_93) (by have z := nn_n h_93; unfold onO onH onG; rw [si_e z, si_e z, tk_e z]) f6 g16 _ _ _ | exact bad _ _ _ (nn_n h_100) (by have z := nn_n h_100; unfold onO onH; rw [si_e z, tk_e z]) f7 g19 _ _ _ | exact bad _ _ _ (nn_n h_107) (by have z := nn_n h_107; unfold onO; rw [tk_e z]) f8 g22 _ _ _
    obtain ⟨a6, e6, k6⟩ := g16.k h_93
    refine s_aload_n 97 dX6_onLine_96 rfl rfl ?_
    refine s_callV0 (M' := M_X6_side) (as := []) 100 dX6_onLine_97 rfl cw_X6_199 rfl rfl sh_75 rfl (by decide) (Nat.le_of_ble_eq_true rfl) (Nat.le_of_ble_eq_true rfl) (Nat.le_of_ble_eq_true rfl) (Nat.le_of_ble_eq_true rfl) ⟨rfl, rfl, rfl⟩ ?_
    refine c_X6_side (o := onG bt n r o0) (x := siV bt n (onE bt n r o0)) hT hP hn hb (by decide) hW k6 (g17 h_93) (by unfold onG; rw [e6]) (by rw [e6]) (fun I7 L7 g18 g19 g20 => ?_)
    have f7 := f6.tr g18
    refine s_ifb_eq 114 103 dX6_onLine_100 rfl rfl (fun h_100 => ?_) (fun h_100 => ?_)
    · skip
      first | exact bad _ _ _ (nn_n h_68) (by have z := nn_n h_68; unfold onO onH onG onE onD; rw [mu_e z, nu_e z, si_e z, si_e z, tk_e z]) f4 g10 _ _ _ | exact bad _ _ _ (nn_n h_77) (by have z := nn_n h_77; unfold onO onH onG onE; rw [nu_e z, si_e z, si_e z, tk_e z]) f5 g13 _ _ _ | exact bad _ _ _ (nn_n h_93) (by have z := nn_n h_93; unfold onO onH onG; rw [si_e z, si_e z, tk_e z]) f6 g16 _ _ _ | exact bad _ _ _ (nn_n h_100) (by have z := nn_n h_100; unfold onO onH; rw [si_e z, tk_e z]) f7 g19 _ _ _ | exact bad _ _ _ (nn_n h_107) (by have z := nn_n h_107; unfold onO; rw [tk_e z]) f8 g22 _ _ _
    obtain ⟨a7, e7, k7⟩ := g19.k h_100
    refine s_aload_n 104 dX6_onLine_103 rfl rfl ?_
    refine s_callV0 (M' := M_X6_side) (as := []) 107 dX6_onLine_104 rfl cw_X6_199 rfl rfl sh_75 rfl (by decide) (Nat.le_of_ble_eq_true rfl) (Nat.le_of_ble_eq_true rfl) (Nat.le_of_ble_eq_true rfl) (Nat.le_of_ble_eq_true rfl) ⟨rfl, rfl, rfl⟩ ?_
    refine c_X6_side (o := onH bt n r o0) (x := siV bt n (onG bt n r o0)) hT hP hn hb (by decide) hW k7 (g20 h_100) (by unfold onH; rw [e7]) (by rw [e7]) (fun I8 L8 g21 g22 g23 => ?_)
    have f8 := f7.tr g21
    refine s_ifb_eq 114 110 dX6_onLine_107 rfl rfl (fun h_107 => ?_) (fun h_107 => ?_)
    · skip
      first | exact bad _ _ _ (nn_n h_68) (by have z := nn_n h_68; unfold onO onH onG onE onD; rw [mu_e z, nu_e z, si_e z, si_e z, tk_e z]) f4 g10 _ _ _ | exact bad _ _ _ (nn_n h_77) (by have z := nn_n h_77; unfold onO onH onG onE; rw [nu_e z, si_e z, si_e z, tk_e z]) f5 g13 _ _ _ | exact bad _ _ _ (nn_n h_93) (by have z := nn_n h_93; unfold onO onH onG; rw [si_e z, si_e z, tk_e z]) f6 g16 _ _ _ | exact bad _ _ _ (nn_n h_100) (by have z := nn_n h_100; unfold onO onH; rw [si_e z, tk_e z]) f7 g19 _ _ _ | exact bad _ _ _ (nn_n h_107) (by have z := nn_n h_107; unfold onO; rw [tk_e z]) f8 g22 _ _ _
    obtain ⟨a8, e8, k8⟩ := g22.k h_107
    have v8 := g23 h_107
    have v8b : ∀ j, 0 ≤ j → j < 6 → I8 78 j = (fun j => if j = 0 then naV bt n r True o0 else if j = 1 then onS bt n r o0 else if j = 2 then onF9 bt n r o0 else if j = 3 then onT bt n r o0 else if j = 4 then siV bt n (onE bt n r o0) else siV bt n (onG bt n r o0)) j := fun j j1 j2 => by
      rw [v8.2 j j1 (by omega)]
      have hc : j = 0 ∨ j = 1 ∨ j = 2 ∨ j = 3 ∨ j = 4 ∨ j = 5 := by omega
      rcases hc with rfl | rfl | rfl | rfl | rfl | rfl <;> rfl
    refine s_iconst 111 dX6_onLine_110 rfl ?_
    refine s_goto 115 dX6_onLine_111 rfl ?_
    refine s_istore_n (ls' := [_, _, _, _]) 116 dX6_onLine_115 rfl (Nat.le_of_ble_eq_true rfl) rfl rfl ?_
    refine s_iload_n 117 dX6_onLine_116 rfl rfl ?_
    refine s_if_eq 153 120 dX6_onLine_117 rfl rfl (by first | omega | exact bI_r _ | exact iI_r _) (fun h_117 => by exfalso; omega) (fun h_117 => ?_)
    refine s_aload_n 121 dX6_onLine_120 rfl rfl ?_
    refine s_getR 124 dX6_onLine_121 rfl fl_X6_27 (fun _ _ _ _ => rfl) (T_X6_tokens hT) sh_75 (Nat.le_of_ble_eq_true rfl) ?_
    refine s_ldcS 126 dX6_onLine_124 rfl (ks_X6_202) ?_
    refine s_callV0 (M' := M_X10_isWord) (as := [_]) 129 dX6_onLine_126 rfl cw_X6_82 rfl rfl sh_79 rfl (by decide) (Nat.le_of_ble_eq_true rfl) (Nat.le_of_ble_eq_true rfl) (Nat.le_of_ble_eq_true rfl) (Nat.le_of_ble_eq_true rfl) ⟨rfl, rfl, rfl⟩ ?_
    refine c_X10_isWord2 hT rfl u26 k8.2.2.2.2 ?_
    refine s_istore_n (ls' := [_, _, _, _]) 130 dX6_onLine_129 rfl (Nat.le_of_ble_eq_true rfl) rfl rfl ?_
    refine s_iload_n 131 dX6_onLine_130 rfl rfl ?_
    refine s_ifb_eq 141 134 dX6_onLine_131 rfl rfl (fun h_131 => ?_) (fun h_131 => ?_)
    · skip
      first | (have z : ¬ isW bt n (wS 37) (.inr a8) := h_131; have eQ : onQ bt n r o0 = 0 := (by unfold onQ; rw [e8]; exact bI_f z); have eO : onO bt n r o0 = .inr a8 := (by unfold onO; rw [e8]; exact tkW_f z); have t9 := tail I8 I8 L8 L8 a8 a8 f8 e8 v8b f8 k8 eO; rw [eQ] at t9; rw [bI_f z]; exact t9 _) | (have z : isW bt n (wS 37) (.inr a8) := h_131; have eQ : onQ bt n r o0 = 1 := (by unfold onQ; rw [e8]; exact bI_t z); have eO : onO bt n r o0 = .inr (nxE bt n a8) := (by unfold onO; rw [e8]; exact tkW_t z); have t9 := tail I8 I9 L8 L9 a8 _ f8 e8 (fun j j1 j2 => by rw [g24.1 78 (by decide)]; exact v8b j j1 j2) (f8.tr (RdF.tm g24)) (k8.mv hP hW g24 g25) eO; rw [eQ] at t9; rw [bI_t z]; exact t9 _)
    refine s_aload_n 135 dX6_onLine_134 rfl rfl ?_
    refine s_getR 138 dX6_onLine_135 rfl fl_X6_27 (fun _ _ _ _ => rfl) (T_X6_tokens hT) sh_75 (Nat.le_of_ble_eq_true rfl) ?_
    refine s_callV0 (M' := M_X10_move) (as := []) 141 dX6_onLine_138 rfl cw_X6_58 rfl rfl sh_79 rfl (by decide) (Nat.le_of_ble_eq_true rfl) (Nat.le_of_ble_eq_true rfl) (Nat.le_of_ble_eq_true rfl) (Nat.le_of_ble_eq_true rfl) ⟨rfl, rfl, rfl⟩ ?_
    refine c_X10_move2 hT k8.1 hn hb k8.2.2.2.2 (fun I9 L9 g24 g25 => ?_)
    first | (have z : ¬ isW bt n (wS 37) (.inr a8) := h_131; have eQ : onQ bt n r o0 = 0 := (by unfold onQ; rw [e8]; exact bI_f z); have eO : onO bt n r o0 = .inr a8 := (by unfold onO; rw [e8]; exact tkW_f z); have t9 := tail I8 I8 L8 L8 a8 a8 f8 e8 v8b f8 k8 eO; rw [eQ] at t9; rw [bI_f z]; exact t9 _) | (have z : isW bt n (wS 37) (.inr a8) := h_131; have eQ : onQ bt n r o0 = 1 := (by unfold onQ; rw [e8]; exact bI_t z); have eO : onO bt n r o0 = .inr (nxE bt n a8) := (by unfold onO; rw [e8]; exact tkW_t z); have t9 := tail I8 I9 L8 L9 a8 _ f8 e8 (fun j j1 j2 => by rw [g24.1 78 (by decide)]; exact v8b j j1 j2) (f8.tr (RdF.tm g24)) (k8.mv hP hW g24 g25) eO; rw [eQ] at t9; rw [bI_t z]; exact t9 _)
  refine s_iconst 44 dX6_onLine_43 rfl ?_
  refine s_zret dX6_onLine_44 rfl (by first | omega | exact bI_b _) rfl ?_
  first | exact bad2 _ _ _ (nn_n h_22) (by have z := nn_n h_22; unfold onO onH onG onE onD onB; rw [pa_e z, nu_e z, mu_e z, nu_e z, si_e z, si_e z, tk_e z]) f2 g4 | exact bad2 _ _ _ (nn_n h_40) (by have z := nn_n h_40; unfold onO onH onG onE onD; rw [nu_e z, mu_e z, nu_e z, si_e z, si_e z, tk_e z]) f3 g7
