/-! SEARCH: another night -/
def TrW (P : Nat) (r : F1) (I : MI) : Prop := PR I P r ∧ NtI I 113 r (-1) ∧ OLs I P r (ordL r)
theorem up_same {α : Type} {M : Nat → Int → α} {c : Nat} {k : Int} {v : α} (h : M c k = v) : up M c k v = M := by
  funext a j
  unfold up
  by_cases e : a = c
  · subst e
    rw [if_pos rfl]
    by_cases e2 : j = k
    · subst e2; rw [if_pos rfl]; exact h.symm
    · rw [if_neg e2]
  · rw [if_neg e]
theorem OLs.c {I I' : MI} {P : Nat} {r : F1} {l : List (List Int)} (h : OLs I P r l) (e1 : I' P = I P) (e2 : I' (P + 35) = I (P + 35)) : OLs I' P r l := ⟨by rw [e1]; exact h.1, fun j hj => by rw [e2]; exact h.2 j hj⟩
theorem OLs.nt {N P : Nat} {I I' : MI} {r : F1} {l : List (List Int)} (hN : isN N) (hP : isP P) (h : OLs I P r l) (hf : NtF N I I') : OLs I' P r l := by
  have hn : N = 85 ∨ N = 113 := hN
  have hp : P = 3 ∨ P = 39 := hP
  exact h.c (hf P (by omega)) (hf (P + 35) (by omega))
/-- set for an order, a gap, a cut; what follows keeps it -/
theorem SetN.gw {N P : Nat} {I : MI} {r : F1} {rd o g : Int} {sc : F1} {cut : Int} (h : SetN I N r rd o g sc cut) (hR : PR I P r) : GW3 N P r rd g sc cut I := ⟨hR, h.2.2.2.1, h.2.2.2.2⟩
theorem SetN.of {N P : Nat} {I I' : MI} {r : F1} {rd o g : Int} {sc : F1} {cut : Int} (h : SetN I N r rd o g sc cut) (e : Eqo [N + 1] I I') (w : GW3 N P r rd g sc cut I') : SetN I' N r rd o g sc cut := by
  have en : I' N = I N := e N (by simp)
  exact ⟨by rw [en]; exact h.1, by rw [en]; exact h.2.1, by rw [en]; exact h.2.2.1, w.2.1, w.2.2⟩
theorem SetN.nt {N : Nat} {I : MI} {r : F1} {rd o g : Int} {sc : F1} {cut : Int} (h : SetN I N r rd o g sc cut) (ho : EnO o sc (r 5)) (hsc : Perm (r 5) sc) (hg : 0 ≤ g ∧ g ≤ 99) : NtI I N r rd := ⟨h.2.2.2.1.1, Or.inr ⟨o, g, sc, cut, ho, hsc, hg, h⟩⟩
theorem Spl_mo {G G' : Int → Prop} (hG : ∀ s, 0 ≤ s → s ≤ 127 → G s → G' s) : ∀ {m : Nat} {s : Int}, Spl G m s → Spl G' m s
  | 0, s, h => h
  | m + 1, s, h => by
    rcases h with h | ⟨o, o1, o2, o3, o4, o5, o6⟩
    · exact Or.inl h
    · exact Or.inr ⟨o, o1, o2, o3, o4, hG o (by omega) o2 o5, Spl_mo hG o6⟩
set_option maxHeartbeats 4000000 in
theorem c_X7_goes {E : ET} {I : MI} {L : ML} {R : MR} {Q : Option AV → MI → ML → MR → Prop} {P : Nat} {r sc : F1} {o g cut : Int} (hT : Topo R) (hP : isP P) (h7 : R 111 0 = some P) (h13 : R 113 1 = some P) (hr : WFr r) (hW : TrW P r I) (ho : EnO o sc (r 5)) (hsc : Perm (r 5) sc) (hg : 0 ≤ g ∧ g ≤ 99) (hcut : 0 ≤ cut ∧ cut < 16384) (h : ∀ I', NtF 113 I I' → TrW P r I' → Q (some (vi (bI (TP r (-1) g sc cut)))) I' L R) : CT E M_X7_goes 161 yX7_goes [(vr (111)), (vi (o)), (vi (g)), (vi (cut))] I L R Q := by
  refine CT_of rfl rfl (fun h => by cases h) (Nat.le_of_ble_eq_true rfl) (fun X => ?_)
  show V X _ z0 0 [some (vr (111)), some (vi (o)), some (vi (g)), some (vi (cut))] [] I L R _
  have e0 := hr.1
  have hp : P = 3 ∨ P = 39 := hP
  have a7 := allF_7 (n := r 4) ⟨by omega, by omega⟩
  rw [bI_c (tp_spl (rd := -1) (g := g) (sc := sc) (cut := cut) hr)] at h
  refine s_aload_n 1 dX7_goes_0 rfl rfl ?_
  refine s_getR 4 dX7_goes_1 rfl fl_X7_34 (fun _ _ _ _ => rfl) (T_X7_trial hT) sh_111 (Nat.le_of_ble_eq_true rfl) ?_
  refine s_iload_n 5 dX7_goes_4 rfl rfl ?_
  refine s_iload_n 6 dX7_goes_5 rfl rfl ?_
  refine s_iload_n 7 dX7_goes_6 rfl rfl ?_
  refine s_callV0 (M' := M_X4_set) (as := [_, _, _]) 10 dX7_goes_7 rfl cw_X7_53 rfl rfl (isN_sh isN_113) rfl (by decide) (isN_lt isN_113) (Nat.le_of_ble_eq_true rfl) (Nat.le_of_ble_eq_true rfl) (Nat.le_of_ble_eq_true rfl) ⟨rfl, rfl, rfl⟩ ?_
  refine c_X4_set hT isN_113 hP h13 hr hW.1 hW.2.1 ho hsc hg hcut (fun I2 g1 g2 g3 => ?_)
  have R2 := hW.1.nt isN_113 hP (by omega) g1
  refine s_aload_n 11 dX7_goes_10 rfl rfl ?_
  refine s_getR 14 dX7_goes_11 rfl fl_X7_34 (fun _ _ _ _ => rfl) (T_X7_trial hT) sh_111 (Nat.le_of_ble_eq_true rfl) ?_
  refine s_aload_n 15 dX7_goes_14 rfl rfl ?_
  refine s_getR 18 dX7_goes_15 rfl fl_X7_25 (fun _ _ _ _ => rfl) (by assumption) sh_111 (Nat.le_of_ble_eq_true rfl) ?_
  refine s_callV0 (M' := M_X5_allParts) (as := []) 21 dX7_goes_18 rfl cw_X7_57 rfl rfl (isP_sh (by assumption)) rfl (by decide) (isP_lt (by assumption)) (Nat.le_of_ble_eq_true rfl) (Nat.le_of_ble_eq_true rfl) (Nat.le_of_ble_eq_true rfl) ⟨rfl, rfl, rfl⟩ ?_
  refine c_X5_allParts hP R2 ?_
  refine s_aload_n 22 dX7_goes_21 rfl rfl ?_
  refine s_getR 25 dX7_goes_22 rfl fl_X7_25 (fun _ _ _ _ => rfl) (by assumption) sh_111 (Nat.le_of_ble_eq_true rfl) ?_
  refine s_getI 28 dX7_goes_25 rfl fl_X7_71 (fun _ _ _ _ => rfl) (isP_sh (by assumption)) (isP_lt (by assumption)) (fun r_25 => ?_)
  rw [show I2 P 2 = r 3 from R2.1.2.2.1]
  refine s_callSN0 (M' := (M_X3_splits 8)) (as := [_, _, _]) 31 dX7_goes_28 rfl cw_X7_61 rfl rfl (by first | exact Nat.le_of_ble_eq_true rfl | (simp only [mrk]; omega)) (Nat.le_of_ble_eq_true rfl) (Nat.le_of_ble_eq_true rfl) ⟨rfl, rfl, rfl⟩ ?_
  refine c_X3_splits3 8 hT isN_113 hP h13 hr hsc hg (g2.gw R2) a7 ⟨by omega, by omega⟩ (by omega) (fun I3 k1 k2 => ?_)
  refine s_zret dX7_goes_31 rfl (by first | omega | exact bI_b _) rfl ?_
  have n3 : NtF 113 I I3 := g1.tr (fun c hc => k1 c (by simp; omega))
  have hh := h I3 n3 ⟨k2.1, (g2.of k1 k2).nt ho hsc hg, hW.2.2.nt isN_113 hP n3⟩
  exact hh
set_option maxHeartbeats 4000000 in
theorem c_X7_fewestIfReady {E : ET} {I : MI} {L : ML} {R : MR} {Q : Option AV → MI → ML → MR → Prop} {P : Nat} {r sc : F1} {rd o cut : Int} (hT : Topo R) (hP : isP P) (h7 : R 111 0 = some P) (h13 : R 113 1 = some P) (hr : WFr r) (hh9 : wHr r) (hW : TrW P r I) (ho : EnO o sc (r 5)) (hsc : Perm (r 5) sc) (hrd : 0 ≤ rd ∧ rd < 7) (hcut : 0 ≤ cut ∧ cut < 16384) (h : ∀ I', NtF 113 I I' → TrW P r I' → Q (some (vi (fewV (MayP r rd (r 2) sc cut) (r 4).toNat))) I' L R) : CT E M_X7_fewestIfReady 161 yX7_fewestIfReady [(vr (111)), (vi (rd)), (vi (o)), (vi (cut))] I L R Q := by
  refine CT_of rfl rfl (fun h => by cases h) (Nat.le_of_ble_eq_true rfl) (fun X => ?_)
  show V X _ z0 0 [some (vr (111)), some (vi (rd)), some (vi (o)), some (vi (cut)), none] [] I L R _
  have e0 := hr.1
  have hp : P = 3 ∨ P = 39 := hP
  have a7 := allF_7 (n := r 4) ⟨by omega, by omega⟩
  have eR := up_same h13
  have hfs := few_spl (G := MayP r rd (r 2) sc cut) (n := (r 4).toNat) ⟨by omega, by omega⟩
  rw [show (((r 4).toNat : Nat) : Int) = r 4 by omega] at hfs
  rw [← hfs] at h
  refine s_aload_n 1 dX7_fewestIfReady_0 rfl rfl ?_
  refine s_getR 4 dX7_fewestIfReady_1 rfl fl_X7_34 (fun _ _ _ _ => rfl) (T_X7_trial hT) sh_111 (Nat.le_of_ble_eq_true rfl) ?_
  refine s_aload_n 5 dX7_fewestIfReady_4 rfl rfl ?_
  refine s_getR 8 dX7_fewestIfReady_5 rfl fl_X7_25 (fun _ _ _ _ => rfl) (by assumption) sh_111 (Nat.le_of_ble_eq_true rfl) ?_
  refine s_iload_n 9 dX7_fewestIfReady_8 rfl rfl ?_
  refine s_callV0 (M' := M_X4_take) (as := [_, _]) 12 dX7_fewestIfReady_9 rfl cw_X7_38 rfl rfl (isN_sh isN_113) rfl (by decide) (isN_lt isN_113) (Nat.le_of_ble_eq_true rfl) (Nat.le_of_ble_eq_true rfl) (Nat.le_of_ble_eq_true rfl) ⟨rfl, rfl, rfl⟩ ?_
  refine c_X4_take hT isN_113 hP hr hh9 hW.1 (by omega) (fun I1 a1 a2 a3 a4 => ?_)
  rw [eR]
  have R1 := hW.1.nt isN_113 hP (by omega) a1
  refine s_aload_n 13 dX7_fewestIfReady_12 rfl rfl ?_
  refine s_getR 16 dX7_fewestIfReady_13 rfl fl_X7_34 (fun _ _ _ _ => rfl) (T_X7_trial hT) sh_111 (Nat.le_of_ble_eq_true rfl) ?_
  refine s_iload_n 17 dX7_fewestIfReady_16 rfl rfl ?_
  refine s_aload_n 18 dX7_fewestIfReady_17 rfl rfl ?_
  refine s_getR 21 dX7_fewestIfReady_18 rfl fl_X7_25 (fun _ _ _ _ => rfl) (by assumption) sh_111 (Nat.le_of_ble_eq_true rfl) ?_
  refine s_getI 24 dX7_fewestIfReady_21 rfl fl_X7_50 (fun _ _ _ _ => rfl) (isP_sh (by assumption)) (isP_lt (by assumption)) (fun r_21 => ?_)
  rw [show I1 P 1 = r 2 from R1.1.2.1]
  refine s_iload_n 25 dX7_fewestIfReady_24 rfl rfl ?_
  refine s_callV0 (M' := M_X4_set) (as := [_, _, _]) 28 dX7_fewestIfReady_25 rfl cw_X7_53 rfl rfl (isN_sh isN_113) rfl (by decide) (isN_lt isN_113) (Nat.le_of_ble_eq_true rfl) (Nat.le_of_ble_eq_true rfl) (Nat.le_of_ble_eq_true rfl) ⟨rfl, rfl, rfl⟩ ?_
  refine c_X4_set hT isN_113 hP h13 hr R1 ⟨a4, Or.inl a2⟩ ho hsc (by omega) hcut (fun I2 g1 g2 g3 => ?_)
  have n2 := a1.tr g1
  have R2 := hW.1.nt isN_113 hP (by omega) n2
  refine s_aload_n 29 dX7_fewestIfReady_28 rfl rfl ?_
  refine s_getR 32 dX7_fewestIfReady_29 rfl fl_X7_34 (fun _ _ _ _ => rfl) (T_X7_trial hT) sh_111 (Nat.le_of_ble_eq_true rfl) ?_
  refine s_aload_n 33 dX7_fewestIfReady_32 rfl rfl ?_
  refine s_getR 36 dX7_fewestIfReady_33 rfl fl_X7_25 (fun _ _ _ _ => rfl) (by assumption) sh_111 (Nat.le_of_ble_eq_true rfl) ?_
  refine s_callV0 (M' := M_X5_allParts) (as := []) 39 dX7_fewestIfReady_36 rfl cw_X7_57 rfl rfl (isP_sh (by assumption)) rfl (by decide) (isP_lt (by assumption)) (Nat.le_of_ble_eq_true rfl) (Nat.le_of_ble_eq_true rfl) (Nat.le_of_ble_eq_true rfl) ⟨rfl, rfl, rfl⟩ ?_
  refine c_X5_allParts hP R2 ?_
  refine s_callU0 (M' := M_X3_fewestFor) (as := [_]) 42 dX7_fewestIfReady_39 rfl cw_X7_67_3 rfl rfl (isN_sh isN_113) rfl (by decide) (isN_lt isN_113) (Nat.le_of_ble_eq_true rfl) (Nat.le_of_ble_eq_true rfl) (Nat.le_of_ble_eq_true rfl) ⟨rfl, rfl, rfl⟩ ?_
  refine c_X3_fewestFor3 hT isN_113 hP h13 hr hsc (by omega) (g2.gw R2) a7 (fun I3 k1 k2 => ?_)
  refine s_istore (ls' := [_, _, _, _, _]) 44 dX7_fewestIfReady_42 rfl (Nat.le_of_ble_eq_true rfl) rfl rfl ?_
  refine s_aload_n 45 dX7_fewestIfReady_44 rfl rfl ?_
  refine s_getR 48 dX7_fewestIfReady_45 rfl fl_X7_34 (fun _ _ _ _ => rfl) (T_X7_trial hT) sh_111 (Nat.le_of_ble_eq_true rfl) ?_
  refine s_aload_n 49 dX7_fewestIfReady_48 rfl rfl ?_
  refine s_getR 52 dX7_fewestIfReady_49 rfl fl_X7_25 (fun _ _ _ _ => rfl) (by assumption) sh_111 (Nat.le_of_ble_eq_true rfl) ?_
  refine s_iconst 53 dX7_fewestIfReady_52 rfl ?_
  refine s_callV0 (M' := M_X4_take) (as := [_, _]) 56 dX7_fewestIfReady_53 rfl cw_X7_38 rfl rfl (isN_sh isN_113) rfl (by decide) (isN_lt isN_113) (Nat.le_of_ble_eq_true rfl) (Nat.le_of_ble_eq_true rfl) (Nat.le_of_ble_eq_true rfl) ⟨rfl, rfl, rfl⟩ ?_
  refine c_X4_take hT isN_113 hP hr hh9 k2.1 (by omega) (fun I4 b1 b2 b3 b4 => ?_)
  rw [eR]
  refine s_iload 58 dX7_fewestIfReady_56 rfl rfl ?_
  refine s_iret dX7_fewestIfReady_58 rfl rfl ?_
  have n4 : NtF 113 I I4 := (n2.tr (fun c hc => k1 c (by simp; omega))).tr b1
  exact h I4 n4 ⟨hW.1.nt isN_113 hP (by omega) n4, ⟨b4, Or.inl b2⟩, hW.2.2.nt isN_113 hP n4⟩
theorem Topo_7 {R : MR} {v : Option Nat} (hT : Topo R) : Topo (up R 111 0 v) := Topo_up hT (fun b hb => absurd (List.mem_map_of_mem (f := fun t : Nat × Int × Nat => (t.1, t.2.1)) hb) (show ¬ ((111, 0) : Nat × Int) ∈ TOPO.map (fun t : Nat × Int × Nat => (t.1, t.2.1)) by decide +kernel))
set_option maxHeartbeats 4000000 in
theorem c_X7_take {E : ET} {I : MI} {L : ML} {R : MR} {Q : Option AV → MI → ML → MR → Prop} {P : Nat} {r : F1} (hT : Topo R) (hP : isP P) (hr : WFr r) (hh9 : wHr r) (hR : PR I P r) (h : ∀ I', (∀ c, c ≠ 111 → (c < 113 ∨ 134 < c) → I' c = I c) → I' 111 3 = -1 → NtI I' 113 r (-1) → Q none I' L (up (up R 111 0 (some P)) 113 1 (some P))) : CT E M_X7_take 161 yX7_take [(vr (111)), (vr (P))] I L R Q := by
  refine CT_of rfl rfl (fun h => by cases h) (Nat.le_of_ble_eq_true rfl) (fun X => ?_)
  show V X _ z0 0 [some (vr (111)), some (vr (P))] [] I L R _
  have e0 := hr.1
  have hp : P = 3 ∨ P = 39 := hP
  have body : ∀ R1 : MR, R1 = up R 111 0 (some P) → Topo R1 → R1 111 0 = some P → V X M_X7_take z0 5 [some (vr (111)), some (vr (P))] [] (I) L R1 (RT X M_X7_take Q) := by
    intro R1 eR hT h7
    rw [← eR] at h
    have R1' : PR (up I 111 3 (-1)) P r := hR.c (by omega) (fun c a b => up_ne (by omega))
    refine s_aload_n 6 dX7_take_5 rfl rfl ?_
    refine s_iconst 7 dX7_take_6 rfl ?_
    refine s_putI 10 dX7_take_7 rfl fl_X7_15 (fun _ => rfl) (fun _ => rfl) (fun _ _ _ _ => rfl) sh_111 (Nat.le_of_ble_eq_true rfl) (by first | omega | exact bI_r _ | exact iI_r _) ?_
    refine s_aload_n 11 dX7_take_10 rfl rfl ?_
    refine s_getR 14 dX7_take_11 rfl fl_X7_34 (fun _ _ _ _ => rfl) (T_X7_trial hT) sh_111 (Nat.le_of_ble_eq_true rfl) ?_
    refine s_aload_n 15 dX7_take_14 rfl rfl ?_
    refine s_getR 18 dX7_take_15 rfl fl_X7_25 (fun _ _ _ _ => rfl) (by assumption) sh_111 (Nat.le_of_ble_eq_true rfl) ?_
    refine s_iconst 19 dX7_take_18 rfl ?_
    refine s_callV0 (M' := M_X4_take) (as := [_, _]) 22 dX7_take_19 rfl cw_X7_38 rfl rfl (isN_sh isN_113) rfl (by decide) (isN_lt isN_113) (Nat.le_of_ble_eq_true rfl) (Nat.le_of_ble_eq_true rfl) (Nat.le_of_ble_eq_true rfl) ⟨rfl, rfl, rfl⟩ ?_
    refine c_X4_take hT isN_113 hP hr hh9 R1' (by omega) (fun I1 a1 a2 a3 a4 => ?_)
    refine s_vret dX7_take_22 rfl rfl ?_
    refine h I1 (fun c c1 c2 => ?_) ?_ ⟨a4, Or.inl a2⟩
    · rw [a1 c (by omega), up_ne c1]
    · rw [a1 111 (by omega), ups]
  refine s_aload_n 1 dX7_take_0 rfl rfl ?_
  refine s_aload_n 2 dX7_take_1 rfl rfl ?_
  refine s_putR 5 dX7_take_2 rfl fl_X7_25 (fun _ => rfl) (fun _ => rfl) (fun _ _ _ _ => rfl) sh_111 (Nat.le_of_ble_eq_true rfl) ?_
  exact body _ rfl (Topo_7 hT) upsR
