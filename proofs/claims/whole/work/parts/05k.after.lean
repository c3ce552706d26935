/-! the class's LINES: after, on, saw -/
theorem AcyN_iff {r : F1} {n : Int} (hn : 0 ≤ n ∧ n ≤ 5) (h0 : ∀ s, n ≤ s → s < 5 → r (49 + s) = 0) : AcyN (fun s => r (49 + s)) n ↔ Acy r := by
  constructor
  · rintro ⟨ρ, hρ⟩
    refine ⟨ρ, fun s s1 s2 u u1 u2 u3 => ?_⟩
    by_cases z : s < n
    · exact hρ s s1 z u u1 u2 u3
    · rw [h0 s (by omega) s2] at u3
      exact absurd u3 (has_0 ⟨u1, u2⟩)
  · rintro ⟨ρ, hρ⟩
    exact ⟨ρ, fun s s1 s2 u u1 u2 u3 => hρ s s1 (by omega) u u1 u2 u3⟩
set_option maxHeartbeats 4000000 in
theorem c_X6_secondScene {E : ET} {I : MI} {L : ML} {R : MR} {Q : Option AV → MI → ML → MR → Prop} {bt r : F1} {n a : Int} {v : F1} {P : Nat} {o0 : PO} (hT : Topo R) (hP : isP P) (hRP : R 75 5 = some P) (hn : 0 ≤ n ∧ n ≤ 900) (hb : ∀ k, 0 ≤ bt k ∧ bt k ≤ 255) (hW : WFp r) (h6 : r 6 ≤ 5) (hA : afA bt n r o0 = .inr a) (hS : RdK I L bt n P r a) (hV : VC I 1 v) (hv : v 0 = afV bt n r o0) (h : ∀ I' L', RdF P I L I' L' → RdO I' L' bt n P (afR bt n r o0) (afO bt n r o0) → Q (some (vi (bI (¬ isE (afO bt n r o0))))) I' L' R) : CT E M_X6_secondScene 161 yX6_secondScene [(vr (75))] I L R Q := by
  refine CT_of rfl rfl (fun h => by cases h) (Nat.le_of_ble_eq_true rfl) (fun X => ?_)
  show V X _ z0 0 [some (vr (75)), none, none] [] I L R _
  have hp : P = 3 ∨ P = 39 := hP
  have hd := hW.1
  unfold wHd at hd
  have e4 := hS.2.1.1.2.2.2.2.1
  have eT := hS.2.2.2.2.2.2.1
  have w0 : I 78 0 = afV bt n r o0 := (hV.2 0 (by decide) (by decide)).trans hv
  have hAn : ¬ isE (naO bt n r False o0) := fun z => by
    have y : isE (afA bt n r o0) := isE_pn.mpr z
    rw [hA] at y; exact y
  obtain ⟨_, _, _, _, _, sV⟩ := naV_s (B := False) hW.2.2.2.2.2.2.2.1 hAn
  have bV : 0 ≤ afV bt n r o0 ∧ afV bt n r o0 < r 5 := ⟨(naV_b bt n r False o0).1, (sV id).1⟩
  have eB : afB bt n r o0 = naO bt n r False (.inr a) := by unfold afB; rw [hA]
  have eW : afW bt n r o0 = naV bt n r False (.inr a) := by unfold afW; rw [hA]
  by_cases hm : nmP bt n a
  · have hw := wdE_w hm.1
    have hL := hS.2.2.2.2.2.2.2.2.2.1 hm.1
    have hK2 := hS.2.2.1.2
    have fb := fiF_v r (wdE bt n a)
    by_cases hf : 0 ≤ fiF r (wdE bt n a) ∧ (False ↔ fiF r (wdE bt n a) < 7)
    · have e1 : naO bt n r False (.inr a) = .inr a := (pick_t hm).trans (pick_t hf)
      have e2 : naV bt n r False (.inr a) = fiF r (wdE bt n a) - 7 := (pick_t ⟨hm, hf⟩).trans (pick_f id)
      have f7 : ¬ fiF r (wdE bt n a) < 7 := fun z => hf.2.mpr z
      have hin : hasN r (wdE bt n a) (fiF r (wdE bt n a)) ∧ fiF r (wdE bt n a) < 12 := by
        rcases fb with ⟨z, -⟩ | ⟨z1, z2, z3, -⟩
        · omega
        · exact ⟨z3, z2⟩
      have hix := hasN_ix hW ⟨hf.1, hin.2⟩ hin.1
      unfold nIx at hix
      have bW : 0 ≤ afW bt n r o0 ∧ afW bt n r o0 < r 5 := by rw [eW, e2]; omega
      have eo : afO bt n r o0 = pick (afV bt n r o0 = afW bt n r o0) (.inl (3, a)) (pick (AncP r (afV bt n r o0) (afW bt n r o0)) (.inl (7, a)) (.inr (nxE bt n a))) := by unfold afO; rw [eB, e1]
      have found : ∀ x : Int, ((x = -1 ∧ ∀ i, 0 ≤ i → i < r 5 → ¬ hasN r (wdE bt n a) (7 + i)) ∨ (0 ≤ x ∧ x < r 5 ∧ hasN r (wdE bt n a) (7 + x))) → x = afW bt n r o0 := fun x hx => by
        rw [eW, e2]
        exact hx.elim (fun z => absurd hin.1 (by have := z.2 (fiF r (wdE bt n a) - 7) (by omega) (by omega); rw [show 7 + (fiF r (wdE bt n a) - 7) = fiF r (wdE bt n a) by omega] at this; exact this)) (fun z => by have := fi_at hW ⟨by omega, by omega⟩ z.2.2; omega)
      by_cases k1 : afV bt n r o0 = afW bt n r o0
      · rw [eo, pick_t k1, isE_l] at h
        refine s_aload_n 1 dX6_secondScene_0 rfl rfl ?_
        refine s_getR 4 dX6_secondScene_1 rfl fl_X6_27 (fun _ _ _ _ => rfl) (T_X6_tokens hT) sh_75 (Nat.le_of_ble_eq_true rfl) ?_
        refine s_callV0 (M' := M_X10_isName) (as := []) 7 dX6_secondScene_4 rfl cw_X6_183 rfl rfl sh_79 rfl (by decide) (Nat.le_of_ble_eq_true rfl) (Nat.le_of_ble_eq_true rfl) (Nat.le_of_ble_eq_true rfl) (Nat.le_of_ble_eq_true rfl) ⟨rfl, rfl, rfl⟩ ?_
        refine c_X10_isName hT hS.2.2.2.2 ?_
        refine s_ifb_ne 16 10 dX6_secondScene_7 rfl rfl (fun h_7 => ?_) (fun h_7 => by exfalso; exact absurd hm h_7)
        refine s_aload_n 17 dX6_secondScene_16 rfl rfl ?_
        refine s_getR 20 dX6_secondScene_17 rfl fl_X6_18 (fun _ _ _ _ => rfl) (T_X6_values hT) sh_75 (Nat.le_of_ble_eq_true rfl) ?_
        refine s_iconst 21 dX6_secondScene_20 rfl ?_
        refine s_iald 22 dX6_secondScene_21 rfl sh_78 (Nat.le_of_ble_eq_true rfl) (by omega) (by omega) (fun r_21 => ?_)
        rw [w0]
        refine s_istore_n (ls' := [_, _, _]) 23 dX6_secondScene_22 rfl (Nat.le_of_ble_eq_true rfl) rfl rfl ?_
        refine s_aload_n 24 dX6_secondScene_23 rfl rfl ?_
        refine s_aload_n 25 dX6_secondScene_24 rfl rfl ?_
        refine s_getR 28 dX6_secondScene_25 rfl fl_X6_15 (fun _ _ _ _ => rfl) (T_X6_sceneNames hT) sh_75 (Nat.le_of_ble_eq_true rfl) ?_
        refine s_aload_n 29 dX6_secondScene_28 rfl rfl ?_
        refine s_getR 32 dX6_secondScene_29 rfl fl_X6_31 (fun _ _ _ _ => rfl) (by assumption) sh_75 (Nat.le_of_ble_eq_true rfl) ?_
        refine s_getI 35 dX6_secondScene_32 rfl fl_X6_74 (fun _ _ _ _ => rfl) (isP_sh (by assumption)) (isP_lt (by assumption)) (fun r_32 => ?_)
        rw [e4]
        refine s_callV0 (M' := M_X6_find) (as := [_, _]) 38 dX6_secondScene_35 rfl cw_X6_186 rfl rfl sh_75 rfl (by decide) (Nat.le_of_ble_eq_true rfl) (Nat.le_of_ble_eq_true rfl) (Nat.le_of_ble_eq_true rfl) (Nat.le_of_ble_eq_true rfl) ⟨rfl, rfl, rfl⟩ ?_
        refine c_X6_find (r := r) (w := wdE bt n a) hT sh_77 (by decide) ⟨by omega, by omega⟩ (by decide) (off := 7) ⟨by omega, by omega⟩ hW hL hw hK2 (fun x hx => ?_)
        have hx9 := found x hx
        refine s_istore_n (ls' := [_, _, _]) 39 dX6_secondScene_38 rfl (Nat.le_of_ble_eq_true rfl) rfl rfl ?_
        refine s_iload_n 40 dX6_secondScene_39 rfl rfl ?_
        refine s_iconst 41 dX6_secondScene_40 rfl ?_
        refine s_icmp_ne 50 44 dX6_secondScene_41 rfl rfl (by first | omega | exact bI_r _ | exact iI_r _) (by first | omega | exact bI_r _ | exact iI_r _) (fun h_41 => ?_) (fun h_41 => by exfalso; omega)
        refine s_iload_n 51 dX6_secondScene_50 rfl rfl ?_
        refine s_iload_n 52 dX6_secondScene_51 rfl rfl ?_
        refine s_icmp_ne 61 55 dX6_secondScene_52 rfl rfl (by first | omega | exact bI_r _ | exact iI_r _) (by first | omega | exact bI_r _ | exact iI_r _) (fun h_52 => by exfalso; omega) (fun h_52 => ?_)
        refine s_aload_n 56 dX6_secondScene_55 rfl rfl ?_
        refine s_iconst 57 dX6_secondScene_56 rfl ?_
        refine s_callV0 (M' := M_X6_fail) (as := [_]) 60 dX6_secondScene_57 rfl cw_X6_64 rfl rfl sh_75 rfl (by decide) (Nat.le_of_ble_eq_true rfl) (Nat.le_of_ble_eq_true rfl) (Nat.le_of_ble_eq_true rfl) (Nat.le_of_ble_eq_true rfl) ⟨rfl, rfl, rfl⟩ ?_
        refine c_X6_fail hT eT (by decide) ?_
        refine s_zret dX6_secondScene_60 rfl (by first | omega | exact bI_b _) rfl ?_
        exact h _ _ ((RdF.rf.fs (by decide)).fs (by decide)) (RdO.fl hS.1)
      · rw [eo, pick_f k1] at h
        have hX : AfX r (afR bt n r o0) (afV bt n r o0) (afW bt n r o0) := ⟨sr_e, by unfold afR; rw [sr_n (by omega), sr_e], fun j _ j1 j2 => by unfold afR; rw [sr_n j1, sr_n j2]⟩
        have hAc : AcyN (fun s => afR bt n r o0 (49 + s)) (r 5) ↔ ¬ AncP r (afV bt n r o0) (afW bt n r o0) := by
          rw [AcyN_iff (by omega) (fun s s1 s2 => by rw [hX.2.2 _ (by omega) (by omega) (by omega)]; exact hW.2.2.2.2.2.2.1.2 s s1 s2)]
          exact acy_new (by omega) (by omega) hW.2.2.2.2.2.2.2.2.2.2.2 hX.2.1 (fun s s1 s2 s3 => hX.2.2 _ (by omega) (by omega) (by omega))
        have a5 : afR bt n r o0 5 = r 5 := hX.2.2 5 (by omega) (by omega) (by omega)
        have hBe : ∀ s, 0 ≤ s → s < r 5 → ∀ u, 0 ≤ u → u < 32 → hasI (afR bt n r o0 (49 + s)) u → u < r 5 := fun s s1 s2 u u1 u2 u3 => by
          by_cases z : s = afW bt n r o0
          · rw [z, hX.2.1] at u3
            rcases (has_or ⟨u1, u2⟩).mp u3 with y | y
            · exact hW.2.2.2.2.2.1 _ bW.1 bW.2 u u1 u2 y
            · rw [(has_shl (by omega) ⟨u1, u2⟩).mp y]; omega
          · rw [hX.2.2 _ (by omega) (by omega) (by omega)] at u3
            exact hW.2.2.2.2.2.1 s s1 s2 u u1 u2 u3
        by_cases k2 : AncP r (afV bt n r o0) (afW bt n r o0)
        · rw [pick_t k2, isE_l] at h
          refine s_aload_n 1 dX6_secondScene_0 rfl rfl ?_
          refine s_getR 4 dX6_secondScene_1 rfl fl_X6_27 (fun _ _ _ _ => rfl) (T_X6_tokens hT) sh_75 (Nat.le_of_ble_eq_true rfl) ?_
          refine s_callV0 (M' := M_X10_isName) (as := []) 7 dX6_secondScene_4 rfl cw_X6_183 rfl rfl sh_79 rfl (by decide) (Nat.le_of_ble_eq_true rfl) (Nat.le_of_ble_eq_true rfl) (Nat.le_of_ble_eq_true rfl) (Nat.le_of_ble_eq_true rfl) ⟨rfl, rfl, rfl⟩ ?_
          refine c_X10_isName hT hS.2.2.2.2 ?_
          refine s_ifb_ne 16 10 dX6_secondScene_7 rfl rfl (fun h_7 => ?_) (fun h_7 => by exfalso; exact absurd hm h_7)
          refine s_aload_n 17 dX6_secondScene_16 rfl rfl ?_
          refine s_getR 20 dX6_secondScene_17 rfl fl_X6_18 (fun _ _ _ _ => rfl) (T_X6_values hT) sh_75 (Nat.le_of_ble_eq_true rfl) ?_
          refine s_iconst 21 dX6_secondScene_20 rfl ?_
          refine s_iald 22 dX6_secondScene_21 rfl sh_78 (Nat.le_of_ble_eq_true rfl) (by omega) (by omega) (fun r_21 => ?_)
          rw [w0]
          refine s_istore_n (ls' := [_, _, _]) 23 dX6_secondScene_22 rfl (Nat.le_of_ble_eq_true rfl) rfl rfl ?_
          refine s_aload_n 24 dX6_secondScene_23 rfl rfl ?_
          refine s_aload_n 25 dX6_secondScene_24 rfl rfl ?_
          refine s_getR 28 dX6_secondScene_25 rfl fl_X6_15 (fun _ _ _ _ => rfl) (T_X6_sceneNames hT) sh_75 (Nat.le_of_ble_eq_true rfl) ?_
          refine s_aload_n 29 dX6_secondScene_28 rfl rfl ?_
          refine s_getR 32 dX6_secondScene_29 rfl fl_X6_31 (fun _ _ _ _ => rfl) (by assumption) sh_75 (Nat.le_of_ble_eq_true rfl) ?_
          refine s_getI 35 dX6_secondScene_32 rfl fl_X6_74 (fun _ _ _ _ => rfl) (isP_sh (by assumption)) (isP_lt (by assumption)) (fun r_32 => ?_)
          rw [e4]
          refine s_callV0 (M' := M_X6_find) (as := [_, _]) 38 dX6_secondScene_35 rfl cw_X6_186 rfl rfl sh_75 rfl (by decide) (Nat.le_of_ble_eq_true rfl) (Nat.le_of_ble_eq_true rfl) (Nat.le_of_ble_eq_true rfl) (Nat.le_of_ble_eq_true rfl) ⟨rfl, rfl, rfl⟩ ?_
          refine c_X6_find (r := r) (w := wdE bt n a) hT sh_77 (by decide) ⟨by omega, by omega⟩ (by decide) (off := 7) ⟨by omega, by omega⟩ hW hL hw hK2 (fun x hx => ?_)
          have hx9 := found x hx
          subst hx9
          refine s_istore_n (ls' := [_, _, _]) 39 dX6_secondScene_38 rfl (Nat.le_of_ble_eq_true rfl) rfl rfl ?_
          refine s_iload_n 40 dX6_secondScene_39 rfl rfl ?_
          refine s_iconst 41 dX6_secondScene_40 rfl ?_
          refine s_icmp_ne 50 44 dX6_secondScene_41 rfl rfl (by first | omega | exact bI_r _ | exact iI_r _) (by first | omega | exact bI_r _ | exact iI_r _) (fun h_41 => ?_) (fun h_41 => by exfalso; omega)
          refine s_iload_n 51 dX6_secondScene_50 rfl rfl ?_
          refine s_iload_n 52 dX6_secondScene_51 rfl rfl ?_
          refine s_icmp_ne 61 55 dX6_secondScene_52 rfl rfl (by first | omega | exact bI_r _ | exact iI_r _) (by first | omega | exact bI_r _ | exact iI_r _) (fun h_52 => ?_) (fun h_52 => by exfalso; omega)
          refine s_aload_n 62 dX6_secondScene_61 rfl rfl ?_
          refine s_getR 65 dX6_secondScene_62 rfl fl_X6_31 (fun _ _ _ _ => rfl) (by assumption) sh_75 (Nat.le_of_ble_eq_true rfl) ?_
          refine s_iload_n 66 dX6_secondScene_65 rfl rfl ?_
          refine s_iload_n 67 dX6_secondScene_66 rfl rfl ?_
          refine s_callV0 (M' := M_X5_addAfter) (as := [_, _]) 70 dX6_secondScene_67 rfl cw_X6_190 rfl rfl (isP_sh (by assumption)) rfl (by decide) (isP_lt (by assumption)) (Nat.le_of_ble_eq_true rfl) (Nat.le_of_ble_eq_true rfl) (Nat.le_of_ble_eq_true rfl) ⟨rfl, rfl, rfl⟩ ?_
          refine c_X5_addAfter (r' := afR bt n r o0) hT hP hW (by omega) (by omega) hS.2.1 hX (fun I2 m1 m2 => ?_)
          refine s_aload_n 71 dX6_secondScene_70 rfl rfl ?_
          refine s_getR 74 dX6_secondScene_71 rfl fl_X6_31 (fun _ _ _ _ => rfl) (by assumption) sh_75 (Nat.le_of_ble_eq_true rfl) ?_
          refine s_callV0 (M' := M_X5_hasOrder) (as := []) 77 dX6_secondScene_74 rfl cw_X6_194 rfl rfl (isP_sh (by assumption)) rfl (by decide) (isP_lt (by assumption)) (Nat.le_of_ble_eq_true rfl) (Nat.le_of_ble_eq_true rfl) (Nat.le_of_ble_eq_true rfl) ⟨rfl, rfl, rfl⟩ ?_
          refine c_X5_hasOrder (A := fun s => afR bt n r o0 (49 + s)) (n := r 5) hT hP (m2.1.2.2.2.2.1.trans a5) (by omega) m2.2.2.2.2.2.2.1 hBe ?_
          refine s_ifb_ne 87 80 dX6_secondScene_77 rfl rfl (fun h_77 => by exfalso; exact absurd k2 (hAc.mp h_77)) (fun h_77 => ?_)
          refine s_aload_n 81 dX6_secondScene_80 rfl rfl ?_
          refine s_bipush 83 dX6_secondScene_81 rfl (by decide) ?_
          refine s_callV0 (M' := M_X6_fail) (as := [_]) 86 dX6_secondScene_83 rfl cw_X6_64 rfl rfl sh_75 rfl (by decide) (Nat.le_of_ble_eq_true rfl) (Nat.le_of_ble_eq_true rfl) (Nat.le_of_ble_eq_true rfl) (Nat.le_of_ble_eq_true rfl) ⟨rfl, rfl, rfl⟩ ?_
          refine c_X6_fail (a := a) hT (by rw [m1 79 (by omega)]; exact eT) (by decide) ?_
          refine s_zret dX6_secondScene_86 rfl (by first | omega | exact bI_b _) rfl ?_
          exact h _ _ (((RdF.rf.fp m1).fs (by decide)).fs (by decide)) (RdO.fl (by rw [m1 2 (by omega)]; exact hS.1))
        · rw [pick_f k2, isE_r] at h
          have oE : ¬ isE (afO bt n r o0) := fun z => by rw [eo, pick_f k1, pick_f k2] at z; exact z
          have hW2 := afR_w (bt := bt) (n := n) (o := o0) hW h6 oE
          refine s_aload_n 1 dX6_secondScene_0 rfl rfl ?_
          refine s_getR 4 dX6_secondScene_1 rfl fl_X6_27 (fun _ _ _ _ => rfl) (T_X6_tokens hT) sh_75 (Nat.le_of_ble_eq_true rfl) ?_
          refine s_callV0 (M' := M_X10_isName) (as := []) 7 dX6_secondScene_4 rfl cw_X6_183 rfl rfl sh_79 rfl (by decide) (Nat.le_of_ble_eq_true rfl) (Nat.le_of_ble_eq_true rfl) (Nat.le_of_ble_eq_true rfl) (Nat.le_of_ble_eq_true rfl) ⟨rfl, rfl, rfl⟩ ?_
          refine c_X10_isName hT hS.2.2.2.2 ?_
          refine s_ifb_ne 16 10 dX6_secondScene_7 rfl rfl (fun h_7 => ?_) (fun h_7 => by exfalso; exact absurd hm h_7)
          refine s_aload_n 17 dX6_secondScene_16 rfl rfl ?_
          refine s_getR 20 dX6_secondScene_17 rfl fl_X6_18 (fun _ _ _ _ => rfl) (T_X6_values hT) sh_75 (Nat.le_of_ble_eq_true rfl) ?_
          refine s_iconst 21 dX6_secondScene_20 rfl ?_
          refine s_iald 22 dX6_secondScene_21 rfl sh_78 (Nat.le_of_ble_eq_true rfl) (by omega) (by omega) (fun r_21 => ?_)
          rw [w0]
          refine s_istore_n (ls' := [_, _, _]) 23 dX6_secondScene_22 rfl (Nat.le_of_ble_eq_true rfl) rfl rfl ?_
          refine s_aload_n 24 dX6_secondScene_23 rfl rfl ?_
          refine s_aload_n 25 dX6_secondScene_24 rfl rfl ?_
          refine s_getR 28 dX6_secondScene_25 rfl fl_X6_15 (fun _ _ _ _ => rfl) (T_X6_sceneNames hT) sh_75 (Nat.le_of_ble_eq_true rfl) ?_
          refine s_aload_n 29 dX6_secondScene_28 rfl rfl ?_
          refine s_getR 32 dX6_secondScene_29 rfl fl_X6_31 (fun _ _ _ _ => rfl) (by assumption) sh_75 (Nat.le_of_ble_eq_true rfl) ?_
          refine s_getI 35 dX6_secondScene_32 rfl fl_X6_74 (fun _ _ _ _ => rfl) (isP_sh (by assumption)) (isP_lt (by assumption)) (fun r_32 => ?_)
          rw [e4]
          refine s_callV0 (M' := M_X6_find) (as := [_, _]) 38 dX6_secondScene_35 rfl cw_X6_186 rfl rfl sh_75 rfl (by decide) (Nat.le_of_ble_eq_true rfl) (Nat.le_of_ble_eq_true rfl) (Nat.le_of_ble_eq_true rfl) (Nat.le_of_ble_eq_true rfl) ⟨rfl, rfl, rfl⟩ ?_
          refine c_X6_find (r := r) (w := wdE bt n a) hT sh_77 (by decide) ⟨by omega, by omega⟩ (by decide) (off := 7) ⟨by omega, by omega⟩ hW hL hw hK2 (fun x hx => ?_)
          have hx9 := found x hx
          subst hx9
          refine s_istore_n (ls' := [_, _, _]) 39 dX6_secondScene_38 rfl (Nat.le_of_ble_eq_true rfl) rfl rfl ?_
          refine s_iload_n 40 dX6_secondScene_39 rfl rfl ?_
          refine s_iconst 41 dX6_secondScene_40 rfl ?_
          refine s_icmp_ne 50 44 dX6_secondScene_41 rfl rfl (by first | omega | exact bI_r _ | exact iI_r _) (by first | omega | exact bI_r _ | exact iI_r _) (fun h_41 => ?_) (fun h_41 => by exfalso; omega)
          refine s_iload_n 51 dX6_secondScene_50 rfl rfl ?_
          refine s_iload_n 52 dX6_secondScene_51 rfl rfl ?_
          refine s_icmp_ne 61 55 dX6_secondScene_52 rfl rfl (by first | omega | exact bI_r _ | exact iI_r _) (by first | omega | exact bI_r _ | exact iI_r _) (fun h_52 => ?_) (fun h_52 => by exfalso; omega)
          refine s_aload_n 62 dX6_secondScene_61 rfl rfl ?_
          refine s_getR 65 dX6_secondScene_62 rfl fl_X6_31 (fun _ _ _ _ => rfl) (by assumption) sh_75 (Nat.le_of_ble_eq_true rfl) ?_
          refine s_iload_n 66 dX6_secondScene_65 rfl rfl ?_
          refine s_iload_n 67 dX6_secondScene_66 rfl rfl ?_
          refine s_callV0 (M' := M_X5_addAfter) (as := [_, _]) 70 dX6_secondScene_67 rfl cw_X6_190 rfl rfl (isP_sh (by assumption)) rfl (by decide) (isP_lt (by assumption)) (Nat.le_of_ble_eq_true rfl) (Nat.le_of_ble_eq_true rfl) (Nat.le_of_ble_eq_true rfl) ⟨rfl, rfl, rfl⟩ ?_
          refine c_X5_addAfter (r' := afR bt n r o0) hT hP hW (by omega) (by omega) hS.2.1 hX (fun I2 m1 m2 => ?_)
          refine s_aload_n 71 dX6_secondScene_70 rfl rfl ?_
          refine s_getR 74 dX6_secondScene_71 rfl fl_X6_31 (fun _ _ _ _ => rfl) (by assumption) sh_75 (Nat.le_of_ble_eq_true rfl) ?_
          refine s_callV0 (M' := M_X5_hasOrder) (as := []) 77 dX6_secondScene_74 rfl cw_X6_194 rfl rfl (isP_sh (by assumption)) rfl (by decide) (isP_lt (by assumption)) (Nat.le_of_ble_eq_true rfl) (Nat.le_of_ble_eq_true rfl) (Nat.le_of_ble_eq_true rfl) ⟨rfl, rfl, rfl⟩ ?_
          refine c_X5_hasOrder (A := fun s => afR bt n r o0 (49 + s)) (n := r 5) hT hP (m2.1.2.2.2.2.1.trans a5) (by omega) m2.2.2.2.2.2.2.1 hBe ?_
          refine s_ifb_ne 87 80 dX6_secondScene_77 rfl rfl (fun h_77 => ?_) (fun h_77 => by exfalso; exact absurd (hAc.mpr k2) h_77)
          refine s_aload_n 88 dX6_secondScene_87 rfl rfl ?_
          refine s_getR 91 dX6_secondScene_88 rfl fl_X6_27 (fun _ _ _ _ => rfl) (T_X6_tokens hT) sh_75 (Nat.le_of_ble_eq_true rfl) ?_
          refine s_callV0 (M' := M_X10_move) (as := []) 94 dX6_secondScene_91 rfl cw_X6_58 rfl rfl sh_79 rfl (by decide) (Nat.le_of_ble_eq_true rfl) (Nat.le_of_ble_eq_true rfl) (Nat.le_of_ble_eq_true rfl) (Nat.le_of_ble_eq_true rfl) ⟨rfl, rfl, rfl⟩ ?_
          have kk : RdK I2 L bt n P (afR bt n r o0) a := ⟨by rw [m1 2 (by omega)]; exact hS.1, m2, NmC_c hW hS.2.2.1 (fun j j1 j2 => by unfold afR; rw [sr_n (by omega), sr_n (by omega)]) (by unfold afR; rw [sr_n (by omega), sr_n (by omega)]) a5, by rw [m1 75 (by omega)]; exact hS.2.2.2.1, hS.2.2.2.2.c (m1 79 (by omega)) rfl⟩
          refine c_X10_move2 hT kk.1 hn hb kk.2.2.2.2 (fun I3 L3 g1 g2 => ?_)
          refine s_iconst 95 dX6_secondScene_94 rfl ?_
          refine s_zret dX6_secondScene_95 rfl (by first | omega | exact bI_b _) rfl ?_
          exact h I3 L3 ((RdF.rf.fp m1).tr (RdF.tm g1)) (kk.mv hP hW2 g1 g2)
    · have e1 : naO bt n r False (.inr a) = .inl (2, a) := (pick_t hm).trans (pick_f hf)
      have eo : afO bt n r o0 = .inl (2, a) := by unfold afO; rw [eB, e1]
      rw [eo, isE_l] at h
      refine s_aload_n 1 dX6_secondScene_0 rfl rfl ?_
      refine s_getR 4 dX6_secondScene_1 rfl fl_X6_27 (fun _ _ _ _ => rfl) (T_X6_tokens hT) sh_75 (Nat.le_of_ble_eq_true rfl) ?_
      refine s_callV0 (M' := M_X10_isName) (as := []) 7 dX6_secondScene_4 rfl cw_X6_183 rfl rfl sh_79 rfl (by decide) (Nat.le_of_ble_eq_true rfl) (Nat.le_of_ble_eq_true rfl) (Nat.le_of_ble_eq_true rfl) (Nat.le_of_ble_eq_true rfl) ⟨rfl, rfl, rfl⟩ ?_
      refine c_X10_isName hT hS.2.2.2.2 ?_
      refine s_ifb_ne 16 10 dX6_secondScene_7 rfl rfl (fun h_7 => ?_) (fun h_7 => by exfalso; exact absurd hm h_7)
      refine s_aload_n 17 dX6_secondScene_16 rfl rfl ?_
      refine s_getR 20 dX6_secondScene_17 rfl fl_X6_18 (fun _ _ _ _ => rfl) (T_X6_values hT) sh_75 (Nat.le_of_ble_eq_true rfl) ?_
      refine s_iconst 21 dX6_secondScene_20 rfl ?_
      refine s_iald 22 dX6_secondScene_21 rfl sh_78 (Nat.le_of_ble_eq_true rfl) (by omega) (by omega) (fun r_21 => ?_)
      rw [w0]
      refine s_istore_n (ls' := [_, _, _]) 23 dX6_secondScene_22 rfl (Nat.le_of_ble_eq_true rfl) rfl rfl ?_
      refine s_aload_n 24 dX6_secondScene_23 rfl rfl ?_
      refine s_aload_n 25 dX6_secondScene_24 rfl rfl ?_
      refine s_getR 28 dX6_secondScene_25 rfl fl_X6_15 (fun _ _ _ _ => rfl) (T_X6_sceneNames hT) sh_75 (Nat.le_of_ble_eq_true rfl) ?_
      refine s_aload_n 29 dX6_secondScene_28 rfl rfl ?_
      refine s_getR 32 dX6_secondScene_29 rfl fl_X6_31 (fun _ _ _ _ => rfl) (by assumption) sh_75 (Nat.le_of_ble_eq_true rfl) ?_
      refine s_getI 35 dX6_secondScene_32 rfl fl_X6_74 (fun _ _ _ _ => rfl) (isP_sh (by assumption)) (isP_lt (by assumption)) (fun r_32 => ?_)
      rw [e4]
      refine s_callV0 (M' := M_X6_find) (as := [_, _]) 38 dX6_secondScene_35 rfl cw_X6_186 rfl rfl sh_75 rfl (by decide) (Nat.le_of_ble_eq_true rfl) (Nat.le_of_ble_eq_true rfl) (Nat.le_of_ble_eq_true rfl) (Nat.le_of_ble_eq_true rfl) ⟨rfl, rfl, rfl⟩ ?_
      refine c_X6_find (r := r) (w := wdE bt n a) hT sh_77 (by decide) ⟨by omega, by omega⟩ (by decide) (off := 7) ⟨by omega, by omega⟩ hW hL hw hK2 (fun x hx => ?_)
      have hx9 : x = -1 := hx.elim (fun z => z.1) (fun z => by have g := fi_at hW ⟨by omega, by omega⟩ z.2.2; exact absurd ⟨by omega, ⟨fun y => y.elim, fun y => by omega⟩⟩ hf)
      refine s_istore_n (ls' := [_, _, _]) 39 dX6_secondScene_38 rfl (Nat.le_of_ble_eq_true rfl) rfl rfl ?_
      refine s_iload_n 40 dX6_secondScene_39 rfl rfl ?_
      refine s_iconst 41 dX6_secondScene_40 rfl ?_
      refine s_icmp_ne 50 44 dX6_secondScene_41 rfl rfl (by first | omega | exact bI_r _ | exact iI_r _) (by first | omega | exact bI_r _ | exact iI_r _) (fun h_41 => by exfalso; omega) (fun h_41 => ?_)
      refine s_aload_n 45 dX6_secondScene_44 rfl rfl ?_
      refine s_iconst 46 dX6_secondScene_45 rfl ?_
      refine s_callV0 (M' := M_X6_fail) (as := [_]) 49 dX6_secondScene_46 rfl cw_X6_64 rfl rfl sh_75 rfl (by decide) (Nat.le_of_ble_eq_true rfl) (Nat.le_of_ble_eq_true rfl) (Nat.le_of_ble_eq_true rfl) (Nat.le_of_ble_eq_true rfl) ⟨rfl, rfl, rfl⟩ ?_
      refine c_X6_fail hT eT (by decide) ?_
      refine s_zret dX6_secondScene_49 rfl (by first | omega | exact bI_b _) rfl ?_
      exact h _ _ ((RdF.rf.fs (by decide)).fs (by decide)) (RdO.fl hS.1)
  · have e1 : naO bt n r False (.inr a) = .inl (1, a) := pick_f hm
    have eo : afO bt n r o0 = .inl (1, a) := by unfold afO; rw [eB, e1]
    rw [eo, isE_l] at h
    refine s_aload_n 1 dX6_secondScene_0 rfl rfl ?_
    refine s_getR 4 dX6_secondScene_1 rfl fl_X6_27 (fun _ _ _ _ => rfl) (T_X6_tokens hT) sh_75 (Nat.le_of_ble_eq_true rfl) ?_
    refine s_callV0 (M' := M_X10_isName) (as := []) 7 dX6_secondScene_4 rfl cw_X6_183 rfl rfl sh_79 rfl (by decide) (Nat.le_of_ble_eq_true rfl) (Nat.le_of_ble_eq_true rfl) (Nat.le_of_ble_eq_true rfl) (Nat.le_of_ble_eq_true rfl) ⟨rfl, rfl, rfl⟩ ?_
    refine c_X10_isName hT hS.2.2.2.2 ?_
    refine s_ifb_ne 16 10 dX6_secondScene_7 rfl rfl (fun h_7 => by exfalso; exact absurd h_7 hm) (fun h_7 => ?_)
    refine s_aload_n 11 dX6_secondScene_10 rfl rfl ?_
    refine s_iconst 12 dX6_secondScene_11 rfl ?_
    refine s_callV0 (M' := M_X6_fail) (as := [_]) 15 dX6_secondScene_12 rfl cw_X6_64 rfl rfl sh_75 rfl (by decide) (Nat.le_of_ble_eq_true rfl) (Nat.le_of_ble_eq_true rfl) (Nat.le_of_ble_eq_true rfl) (Nat.le_of_ble_eq_true rfl) ⟨rfl, rfl, rfl⟩ ?_
    refine c_X6_fail hT eT (by decide) ?_
    refine s_zret dX6_secondScene_15 rfl (by first | omega | exact bI_b _) rfl ?_
    exact h _ _ ((RdF.rf.fs (by decide)).fs (by decide)) (RdO.fl hS.1)
set_option maxHeartbeats 4000000 in
theorem c_X6_afterLine {E : ET} {I : MI} {L : ML} {R : MR} {Q : Option AV → MI → ML → MR → Prop} {bt r : F1} {n a : Int} {v : F1} {P : Nat} (hT : Topo R) (hP : isP P) (hRP : R 75 5 = some P) (hn : 0 ≤ n ∧ n ≤ 900) (hb : ∀ k, 0 ≤ bt k ∧ bt k ≤ 255) (hW : WFp r) (h6 : r 6 ≤ 5) (hS : RdK I L bt n P r a) (hV : VC I 0 v) (h : ∀ I' L', RdF P I L I' L' → RdO I' L' bt n P (afR bt n r (.inr (nxE bt n a))) (afO bt n r (.inr (nxE bt n a))) → Q (some (vi (bI (¬ isE (afO bt n r (.inr (nxE bt n a))))))) I' L' R) : CT E M_X6_afterLine 161 yX6_afterLine [(vr (75))] I L R Q := by
  refine CT_of rfl rfl (fun h => by cases h) (Nat.le_of_ble_eq_true rfl) (fun X => ?_)
  show V X _ z0 0 [some (vr (75))] [] I L R _
  obtain ⟨o0, ho⟩ : ∃ o0 : PO, o0 = .inr (nxE bt n a) := ⟨_, rfl⟩
  rw [← ho] at h
  refine s_aload_n 1 dX6_afterLine_0 rfl rfl ?_
  refine s_getR 4 dX6_afterLine_1 rfl fl_X6_27 (fun _ _ _ _ => rfl) (T_X6_tokens hT) sh_75 (Nat.le_of_ble_eq_true rfl) ?_
  refine s_callV0 (M' := M_X10_move) (as := []) 7 dX6_afterLine_4 rfl cw_X6_58 rfl rfl sh_79 rfl (by decide) (Nat.le_of_ble_eq_true rfl) (Nat.le_of_ble_eq_true rfl) (Nat.le_of_ble_eq_true rfl) (Nat.le_of_ble_eq_true rfl) ⟨rfl, rfl, rfl⟩ ?_
  refine c_X10_move2 hT hS.1 hn hb hS.2.2.2.2 (fun I1 L1 g1 g2 => ?_)
  have f1 : RdF P I L I1 L1 := RdF.tm g1
  have k1 := hS.mv hP hW g1 g2
  have v1 : VC I1 0 v := hV.c (by rw [g1.1 75 (by decide)]) (g1.1 78 (by decide))
  refine s_aload_n 8 dX6_afterLine_7 rfl rfl ?_
  refine s_aload_n 9 dX6_afterLine_8 rfl rfl ?_
  refine s_getR 12 dX6_afterLine_9 rfl fl_X6_15 (fun _ _ _ _ => rfl) (T_X6_sceneNames hT) sh_75 (Nat.le_of_ble_eq_true rfl) ?_
  refine s_aload_n 13 dX6_afterLine_12 rfl rfl ?_
  refine s_getR 16 dX6_afterLine_13 rfl fl_X6_31 (fun _ _ _ _ => rfl) (by assumption) sh_75 (Nat.le_of_ble_eq_true rfl) ?_
  refine s_getI 19 dX6_afterLine_16 rfl fl_X6_74 (fun _ _ _ _ => rfl) (isP_sh (by assumption)) (isP_lt (by assumption)) (fun r_16 => ?_)
  rw [k1.2.1.1.2.2.2.2.1]
  refine s_callV0 (M' := M_X6_oldName) (as := [_, _]) 22 dX6_afterLine_19 rfl cw_X6_176 rfl rfl sh_75 rfl (by decide) (Nat.le_of_ble_eq_true rfl) (Nat.le_of_ble_eq_true rfl) (Nat.le_of_ble_eq_true rfl) (Nat.le_of_ble_eq_true rfl) ⟨rfl, rfl, rfl⟩ ?_
  refine c_X6_oldName (B := False) (N := 5) (o := afA bt n r o0) (x := afV bt n r o0) hT hP hn hb (Or.inr ⟨id, rfl, rfl, rfl⟩) (by decide) hW k1 v1 (by unfold afA; rw [ho]) (by unfold afV; rw [ho]) (fun I2 L2 g3 g4 g5 => ?_)
  have f2 := f1.tr g3
  refine s_ifb_eq 36 25 dX6_afterLine_22 rfl rfl (fun h_22 => ?_) (fun h_22 => ?_)
  · skip
    refine s_iconst 37 dX6_afterLine_36 rfl ?_
    refine s_zret dX6_afterLine_37 rfl (by first | omega | exact bI_b _) rfl ?_
    first | (rw [bI_t (by assumption)] at h9; exact h9) | (rw [bI_f (by assumption)] at h9; exact h9) | (obtain ⟨s2, s3⟩ := g4.e (r' := afR bt n r o0) (o' := afO bt n r o0) (nn_n h_22) (by have z := nn_n h_22; unfold afO afB; rw [na_e z]; obtain ⟨q, hq⟩ := isE_t z; rw [hq]); have h9 := h I2 L2 f2 s2; rw [s3] at h9; exact h9)
  obtain ⟨a2, e2, k2⟩ := g4.k h_22
  refine s_aload_n 26 dX6_afterLine_25 rfl rfl ?_
  refine s_callV0 (M' := M_X6_secondScene) (as := []) 29 dX6_afterLine_26 rfl cw_X6_180 rfl rfl sh_75 rfl (by decide) (Nat.le_of_ble_eq_true rfl) (Nat.le_of_ble_eq_true rfl) (Nat.le_of_ble_eq_true rfl) (Nat.le_of_ble_eq_true rfl) ⟨rfl, rfl, rfl⟩ ?_
  refine c_X6_secondScene (o0 := o0) hT hP hRP hn hb hW h6 e2 k2 (g5 h_22) rfl (fun I3 L3 g6 g7 => ?_)
  have h9 := h I3 L3 (f2.tr g6) g7
  refine s_ifb_eq 36 32 dX6_afterLine_29 rfl rfl (fun h_29 => ?_) (fun h_29 => ?_)
  · skip
    refine s_iconst 37 dX6_afterLine_36 rfl ?_
    refine s_zret dX6_afterLine_37 rfl (by first | omega | exact bI_b _) rfl ?_
    first | (rw [bI_t (by assumption)] at h9; exact h9) | (rw [bI_f (by assumption)] at h9; exact h9) | (obtain ⟨s2, s3⟩ := g4.e (r' := afR bt n r o0) (o' := afO bt n r o0) (nn_n h_22) (by have z := nn_n h_22; unfold afO afB; rw [na_e z]; obtain ⟨q, hq⟩ := isE_t z; rw [hq]); have h9 := h I2 L2 f2 s2; rw [s3] at h9; exact h9)
  refine s_iconst 33 dX6_afterLine_32 rfl ?_
  refine s_goto 37 dX6_afterLine_33 rfl ?_
  refine s_zret dX6_afterLine_37 rfl (by first | omega | exact bI_b _) rfl ?_
  first | (rw [bI_t (by assumption)] at h9; exact h9) | (rw [bI_f (by assumption)] at h9; exact h9) | (obtain ⟨s2, s3⟩ := g4.e (r' := afR bt n r o0) (o' := afO bt n r o0) (nn_n h_22) (by have z := nn_n h_22; unfold afO afB; rw [na_e z]; obtain ⟨q, hq⟩ := isE_t z; rw [hq]); have h9 := h I2 L2 f2 s2; rw [s3] at h9; exact h9)
set_option maxHeartbeats 4000000 in
theorem c_X6_sawLine {E : ET} {I : MI} {L : ML} {R : MR} {Q : Option AV → MI → ML → MR → Prop} {bt r : F1} {n a : Int} {v : F1} {P : Nat} (hT : Topo R) (hP : isP P) (hRP : R 75 5 = some P) (hn : 0 ≤ n ∧ n ≤ 900) (hb : ∀ k, 0 ≤ bt k ∧ bt k ≤ 255) (hW : WFp r) (h6 : r 8 ≤ 6) (hS : RdK I L bt n P r a) (hV : VC I 0 v) (h : ∀ I' L', RdF P I L I' L' → RdO I' L' bt n P (swR bt n r (.inr (nxE bt n a))) (swO bt n r (.inr (nxE bt n a))) → Q (some (vi (bI (¬ isE (swO bt n r (.inr (nxE bt n a))))))) I' L' R) : CT E M_X6_sawLine 161 yX6_sawLine [(vr (75))] I L R Q := by
  refine CT_of rfl rfl (fun h => by cases h) (Nat.le_of_ble_eq_true rfl) (fun X => ?_)
  show V X _ z0 0 [some (vr (75)), none] [] I L R _
  have hp : P = 3 ∨ P = 39 := hP
  have hd := hW.1
  unfold wHd at hd
  obtain ⟨o0, ho⟩ : ∃ o0 : PO, o0 = .inr (nxE bt n a) := ⟨_, rfl⟩
  rw [← ho] at h
  have bad : ∀ (I1 : MI) (L1 : ML) (o : PO), isE o → swO bt n r o0 = o → RdF P I L I1 L1 → RdO I1 L1 bt n P r o → ∀ w1, V X M_X6_sawLine z0 47 [some (vr 75), w1] [] I1 L1 R (RT X M_X6_sawLine Q) := by
    intro I1 L1 o z e f s w1
    obtain ⟨s2, s3⟩ := s.e (r' := swR bt n r o0) z e
    have h9 := h I1 L1 f s2
    rw [s3] at h9
    refine s_iconst 48 dX6_sawLine_47 rfl ?_
    refine s_istore_n (ls' := [_, _]) 49 dX6_sawLine_48 rfl (Nat.le_of_ble_eq_true rfl) rfl rfl ?_
    refine s_iload_n 50 dX6_sawLine_49 rfl rfl ?_
    refine s_if_eq 64 53 dX6_sawLine_50 rfl rfl (by first | omega | exact bI_r _ | exact iI_r _) (fun h_50 => ?_) (fun h_50 => by exfalso; omega)
    refine s_iload_n 65 dX6_sawLine_64 rfl rfl ?_
    refine s_zret dX6_sawLine_65 rfl (by first | omega | exact bI_b _) rfl ?_
    exact h9
  refine s_aload_n 1 dX6_sawLine_0 rfl rfl ?_
  refine s_getR 4 dX6_sawLine_1 rfl fl_X6_27 (fun _ _ _ _ => rfl) (T_X6_tokens hT) sh_75 (Nat.le_of_ble_eq_true rfl) ?_
  refine s_callV0 (M' := M_X10_move) (as := []) 7 dX6_sawLine_4 rfl cw_X6_58 rfl rfl sh_79 rfl (by decide) (Nat.le_of_ble_eq_true rfl) (Nat.le_of_ble_eq_true rfl) (Nat.le_of_ble_eq_true rfl) (Nat.le_of_ble_eq_true rfl) ⟨rfl, rfl, rfl⟩ ?_
  refine c_X10_move2 hT hS.1 hn hb hS.2.2.2.2 (fun I1 L1 g1 g2 => ?_)
  have f1 : RdF P I L I1 L1 := RdF.tm g1
  have k1 := hS.mv hP hW g1 g2
  have v1 : VC I1 0 v := hV.c (by rw [g1.1 75 (by decide)]) (g1.1 78 (by decide))
  refine s_aload_n 8 dX6_sawLine_7 rfl rfl ?_
  refine s_aload_n 9 dX6_sawLine_8 rfl rfl ?_
  refine s_getR 12 dX6_sawLine_9 rfl fl_X6_9 (fun _ _ _ _ => rfl) (T_X6_partNames hT) sh_75 (Nat.le_of_ble_eq_true rfl) ?_
  refine s_aload_n 13 dX6_sawLine_12 rfl rfl ?_
  refine s_getR 16 dX6_sawLine_13 rfl fl_X6_31 (fun _ _ _ _ => rfl) (by assumption) sh_75 (Nat.le_of_ble_eq_true rfl) ?_
  refine s_getI 19 dX6_sawLine_16 rfl fl_X6_71 (fun _ _ _ _ => rfl) (isP_sh (by assumption)) (isP_lt (by assumption)) (fun r_16 => ?_)
  rw [k1.2.1.1.2.2.2.1]
  refine s_callV0 (M' := M_X6_oldName) (as := [_, _]) 22 dX6_sawLine_19 rfl cw_X6_176 rfl rfl sh_75 rfl (by decide) (Nat.le_of_ble_eq_true rfl) (Nat.le_of_ble_eq_true rfl) (Nat.le_of_ble_eq_true rfl) (Nat.le_of_ble_eq_true rfl) ⟨rfl, rfl, rfl⟩ ?_
  refine c_X6_oldName (B := True) (N := 7) (o := swA bt n r o0) (x := naV bt n r True o0) hT hP hn hb (Or.inl ⟨trivial, rfl, rfl, rfl⟩) (by decide) hW k1 v1 (by unfold swA; rw [ho]) (by rw [ho]) (fun I2 L2 g3 g4 g5 => ?_)
  have f2 := f1.tr g3
  refine s_ifb_eq 47 25 dX6_sawLine_22 rfl rfl (fun h_22 => ?_) (fun h_22 => ?_)
  · skip
    first | exact bad _ _ _ (nn_n h_22) (by unfold swO swB; rw [nu_e (nn_n h_22), si_e (nn_n h_22)]) f2 g4 _ | exact bad _ _ _ (nn_n h_33) (by unfold swO; rw [si_e (nn_n h_33)]) f3 g7 _ | exact bad _ _ _ (nn_n h_40) rfl f4 g10 _
  obtain ⟨a2, e2, k2⟩ := g4.k h_22
  refine s_aload_n 26 dX6_sawLine_25 rfl rfl ?_
  refine s_iconst 27 dX6_sawLine_26 rfl ?_
  refine s_sipush 30 dX6_sawLine_27 rfl (by decide) ?_
  refine s_callV0 (M' := M_X6_whole) (as := [_, _]) 33 dX6_sawLine_30 rfl cw_X6_128 rfl rfl sh_75 rfl (by decide) (Nat.le_of_ble_eq_true rfl) (Nat.le_of_ble_eq_true rfl) (Nat.le_of_ble_eq_true rfl) (Nat.le_of_ble_eq_true rfl) ⟨rfl, rfl, rfl⟩ ?_
  refine c_X6_whole (o := swB bt n r o0) (x := nuV bt n 0 999 (swA bt n r o0)) hT hP hn hb (by decide) (by decide) (by decide) hW k2 (g5 h_22) (by unfold swB; rw [e2]) (by rw [e2]) (fun I3 L3 g6 g7 g8 => ?_)
  have f3 := f2.tr g6
  refine s_ifb_eq 47 36 dX6_sawLine_33 rfl rfl (fun h_33 => ?_) (fun h_33 => ?_)
  · skip
    first | exact bad _ _ _ (nn_n h_22) (by unfold swO swB; rw [nu_e (nn_n h_22), si_e (nn_n h_22)]) f2 g4 _ | exact bad _ _ _ (nn_n h_33) (by unfold swO; rw [si_e (nn_n h_33)]) f3 g7 _ | exact bad _ _ _ (nn_n h_40) rfl f4 g10 _
  obtain ⟨a3, e3, k3⟩ := g7.k h_33
  refine s_aload_n 37 dX6_sawLine_36 rfl rfl ?_
  refine s_callV0 (M' := M_X6_side) (as := []) 40 dX6_sawLine_37 rfl cw_X6_199 rfl rfl sh_75 rfl (by decide) (Nat.le_of_ble_eq_true rfl) (Nat.le_of_ble_eq_true rfl) (Nat.le_of_ble_eq_true rfl) (Nat.le_of_ble_eq_true rfl) ⟨rfl, rfl, rfl⟩ ?_
  refine c_X6_side (o := swO bt n r o0) (x := siV bt n (swB bt n r o0)) hT hP hn hb (by decide) hW k3 (g8 h_33) (by unfold swO; rw [e3]) (by rw [e3]) (fun I4 L4 g9 g10 g11 => ?_)
  have f4 := f3.tr g9
  refine s_ifb_eq 47 43 dX6_sawLine_40 rfl rfl (fun h_40 => ?_) (fun h_40 => ?_)
  · skip
    first | exact bad _ _ _ (nn_n h_22) (by unfold swO swB; rw [nu_e (nn_n h_22), si_e (nn_n h_22)]) f2 g4 _ | exact bad _ _ _ (nn_n h_33) (by unfold swO; rw [si_e (nn_n h_33)]) f3 g7 _ | exact bad _ _ _ (nn_n h_40) rfl f4 g10 _
  obtain ⟨a9, e9, k9⟩ := g10.k h_40
  have v9 := g11 h_40
  have x1 := swO_s (bt := bt) (n := n) (r := r) (o := o0) hW.2.2.2.2.2.2.2.1 h_40
  refine s_iconst 44 dX6_sawLine_43 rfl ?_
  refine s_goto 48 dX6_sawLine_44 rfl ?_
  refine s_istore_n (ls' := [_, _]) 49 dX6_sawLine_48 rfl (Nat.le_of_ble_eq_true rfl) rfl rfl ?_
  refine s_iload_n 50 dX6_sawLine_49 rfl rfl ?_
  refine s_if_eq 64 53 dX6_sawLine_50 rfl rfl (by first | omega | exact bI_r _ | exact iI_r _) (fun h_50 => by exfalso; omega) (fun h_50 => ?_)
  refine s_aload_n 54 dX6_sawLine_53 rfl rfl ?_
  refine s_getR 57 dX6_sawLine_54 rfl fl_X6_31 (fun _ _ _ _ => rfl) (by assumption) sh_75 (Nat.le_of_ble_eq_true rfl) ?_
  refine s_aload_n 58 dX6_sawLine_57 rfl rfl ?_
  refine s_getR 61 dX6_sawLine_58 rfl fl_X6_18 (fun _ _ _ _ => rfl) (T_X6_values hT) sh_75 (Nat.le_of_ble_eq_true rfl) ?_
  refine s_callV0 (M' := M_X5_addSaw) (as := [_]) 64 dX6_sawLine_61 rfl cw_X6_208 rfl rfl (isP_sh (by assumption)) rfl (by decide) (isP_lt (by assumption)) (Nat.le_of_ble_eq_true rfl) (Nat.le_of_ble_eq_true rfl) (Nat.le_of_ble_eq_true rfl) ⟨rfl, rfl, rfl⟩ ?_
  have y0 : swR bt n r o0 (152 + 3 * r 8 + 0) = naV bt n r True o0 := (by unfold swR; rw [sr_n (by omega), sr_n (by omega), sr_n (by omega), show 152 + 3 * r 8 + 0 = 152 + 3 * r 8 by omega, sr_e])
  have y1 : swR bt n r o0 (152 + 3 * r 8 + 1) = nuV bt n 0 999 (swA bt n r o0) := (by unfold swR; rw [sr_n (by omega), sr_n (by omega), sr_e])
  have y2 : swR bt n r o0 (152 + 3 * r 8 + 2) = siV bt n (swB bt n r o0) := (by unfold swR; rw [sr_n (by omega), sr_e])
  have hX : SwX r (swR bt n r o0) (I4 78) := ⟨sr_e, ⟨y0.trans (v9.2 0 (by decide) (by decide)).symm, y1.trans (v9.2 1 (by decide) (by decide)).symm, y2.trans (v9.2 2 (by decide) (by decide)).symm⟩, fun j _ j1 j2 => by unfold swR; rw [sr_n j1, sr_n (by omega), sr_n (by omega), sr_n (by omega)]⟩
  refine c_X5_addSaw (r' := swR bt n r o0) hT hP hW h6 k9.2.1 rfl hX (fun I5 m1 m2 => ?_)
  refine s_iload_n 65 dX6_sawLine_64 rfl rfl ?_
  refine s_zret dX6_sawLine_65 rfl (by first | omega | exact bI_b _) rfl ?_
  have h9 := h I5 L4 (f4.fp m1)
  rw [e9, isE_r] at h9
  refine h9 ⟨by rw [m1 2 (by omega)]; exact k9.1, m2, NmC_c hW k9.2.2.1 (fun j j1 j2 => by unfold swR; rw [sr_n (by omega), sr_n (by omega), sr_n (by omega), sr_n (by omega)]) (by unfold swR; rw [sr_n (by omega), sr_n (by omega), sr_n (by omega), sr_n (by omega)]) (by unfold swR; rw [sr_n (by omega), sr_n (by omega), sr_n (by omega), sr_n (by omega)]), by rw [m1 75 (by omega)]; exact k9.2.2.2.1, k9.2.2.2.2.c (m1 79 (by omega)) rfl⟩
