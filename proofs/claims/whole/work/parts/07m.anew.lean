/-! a PIECE anew -/
def StG (I I' : MI) (P : Nat) (r : F1) (c : List Int) : Prop := PR I' P r ∧ OLs I' P r (ordL r) ∧ EnO (I' 80 0) (vL c) (r 5) ∧ I' 80 1 = 0 ∧ I' 80 2 = 0 ∧ I' 81 1 = 0 ∧ I' 81 3 = 0 ∧ I' 81 5 = 0 ∧ ∀ x, x ≠ P → x ≠ P + 35 → x ≠ 80 → x ≠ 81 → (x < 85 ∨ 137 < x ∨ (107 ≤ x ∧ x ≤ 110)) → I' x = I x
theorem StG.nx {I I1 I' : MI} {P : Nat} {r : F1} {c : List Int} (hP : isP P) (hr : WFr r) (h : StG I I1 P r c) (e : ∀ x, (x < 85 ∨ 137 < x ∨ (107 ≤ x ∧ x ≤ 110)) → I' x = I1 x) : StG I I' P r c := by
  have hp : P = 3 ∨ P = 39 := hP
  have e0 := hr.1
  obtain ⟨h1, h2, h3, h4, h5, h6, h7, h8, h9⟩ := h
  exact ⟨h1.c (by omega) (fun c a b => e c (by omega)), h2.c (e P (by omega)) (e (P + 35) (by omega)), by rw [e 80 (by decide)]; exact h3, by rw [e 80 (by decide)]; exact h4, by rw [e 80 (by decide)]; exact h5, by rw [e 81 (by decide)]; exact h6, by rw [e 81 (by decide)]; exact h7, by rw [e 81 (by decide)]; exact h8, fun x a b d f g => (e x g).trans (h9 x a b d f g)⟩
set_option maxHeartbeats 4000000 in
theorem c_X11_startAnew {E : ET} {I : MI} {L : ML} {R : MR} {Q : Option AV → MI → ML → MR → Prop} {P : Nat} {r : F1} {c : List Int} {B : List (List Int)} (hT : Topo R) (hP : isP P) (t2 : R 0 2 = some P) (hr : WFr r) (hh : wHr r) (hR : PR I P r) (hc : ordL r = c :: B) (h : ∀ I' R', R' = up (up (up (up R 85 1 (some P)) 111 0 (some P)) 113 1 (some P)) 135 1 (some P) → Topo R' → StG I I' P r c → I' 85 8 = 0 → I' 85 12 = I 85 12 → NtI I' 85 r (-1) → NtI I' 113 r (-1) → I' 111 3 = -1 → SrV I' r → KnG I' 136 (SeenP r) → Q none I' L R') : CT E M_X11_startAnew 161 yX11_startAnew [(vr (0))] I L R Q := by
  refine CT_of rfl rfl (fun h => by cases h) (Nat.le_of_ble_eq_true rfl) (fun X => ?_)
  show V X _ z0 0 [some (vr (0))] [] I L R _
  have hp : P = 3 ∨ P = 39 := hP
  have e0 := hr.1
  have stC : ∀ (R3 : MR), R3 = up (up (up R 85 1 (some P)) 111 0 (some P)) 113 1 (some P) → Topo R3 → R3 0 2 = some P → ∀ I3 : MI, StG I I3 P r c → I3 85 8 = 0 → I3 85 12 = I 85 12 → NtI I3 85 r (-1) → NtI I3 113 r (-1) → I3 111 3 = -1 → V X M_X11_startAnew z0 53 [some (vr (0))] [] (I3) L R3 (RT X M_X11_startAnew Q) := by
    intro R3 eR hT t2 I3 g1 g2 g3 g4 g5 g6
    refine s_aload_n 54 dX11_startAnew_53 rfl rfl ?_
    refine s_getR 57 dX11_startAnew_54 rfl fl_X11_77 (fun _ _ _ _ => rfl) (T_X11_sightings hT) sh_0 (Nat.le_of_ble_eq_true rfl) ?_
    refine s_aload_n 58 dX11_startAnew_57 rfl rfl ?_
    refine s_getR 61 dX11_startAnew_58 rfl fl_X11_19 (fun _ _ _ _ => rfl) (by assumption) sh_0 (Nat.le_of_ble_eq_true rfl) ?_
    refine s_callV0 (M' := M_X8_take) (as := [_]) 64 dX11_startAnew_61 rfl cw_X11_141 rfl rfl sh_135 rfl (by decide) (Nat.le_of_ble_eq_true rfl) (Nat.le_of_ble_eq_true rfl) (Nat.le_of_ble_eq_true rfl) (Nat.le_of_ble_eq_true rfl) ⟨rfl, rfl, rfl⟩ ?_
    refine c_X8_take hT hP hr g1.1 (fun I4 k1 k2 k3 => ?_)
    refine s_vret dX11_startAnew_64 rfl rfl ?_
    have oth : ∀ x, x ≠ 136 → x ≠ 137 → I4 x = I3 x := fun x a b => k1 x (by simp [a, b])
    refine h I4 _ (by rw [eR]) (Topo_8 hT) (g1.nx hP hr (fun x hx => oth x (by omega) (by omega))) (by rw [oth 85 (by decide) (by decide)]; exact g2) (by rw [oth 85 (by decide) (by decide)]; exact g3) (g4.eq (by omega) (fun c a b => oth c (by omega) (by omega))) (g5.eq (by omega) (fun c a b => oth c (by omega) (by omega))) (by rw [oth 111 (by decide) (by decide)]; exact g6) k2 k3
  have stB : ∀ (R2 : MR), R2 = up R 85 1 (some P) → Topo R2 → R2 0 2 = some P → ∀ I3 : MI, StG I I3 P r c → I3 85 8 = 0 → I3 85 12 = I 85 12 → NtI I3 85 r (-1) → V X M_X11_startAnew z0 42 [some (vr (0))] [] (I3) L R2 (RT X M_X11_startAnew Q) := by
    intro R2 eR hT t2 I3 g1 g2 g3 g4
    refine s_aload_n 43 dX11_startAnew_42 rfl rfl ?_
    refine s_getR 46 dX11_startAnew_43 rfl fl_X11_70 (fun _ _ _ _ => rfl) (T_X11_search hT) sh_0 (Nat.le_of_ble_eq_true rfl) ?_
    refine s_aload_n 47 dX11_startAnew_46 rfl rfl ?_
    refine s_getR 50 dX11_startAnew_47 rfl fl_X11_19 (fun _ _ _ _ => rfl) (by assumption) sh_0 (Nat.le_of_ble_eq_true rfl) ?_
    refine s_callV0 (M' := M_X7_take) (as := [_]) 53 dX11_startAnew_50 rfl cw_X11_139 rfl rfl sh_111 rfl (by decide) (Nat.le_of_ble_eq_true rfl) (Nat.le_of_ble_eq_true rfl) (Nat.le_of_ble_eq_true rfl) (Nat.le_of_ble_eq_true rfl) ⟨rfl, rfl, rfl⟩ ?_
    refine c_X7_take hT hP hr hh g1.1 (fun I4 k1 k2 k3 => ?_)
    refine stC _ (by rw [eR]) (Topo_N (Topo_7 hT) isN_113) (by rw [up_ne (by decide), up_ne (by decide)]; exact t2) I4 (g1.nx hP hr (fun x hx => k1 x (by omega) (by omega))) (by rw [k1 85 (by decide) (by decide)]; exact g2) (by rw [k1 85 (by decide) (by decide)]; exact g3) (g4.eq (by omega) (fun c a b => k1 c (by omega) (by omega))) k3 k2
  refine s_aload_n 1 dX11_startAnew_0 rfl rfl ?_
  refine s_getR 4 dX11_startAnew_1 rfl fl_X11_19 (fun _ _ _ _ => rfl) (by assumption) sh_0 (Nat.le_of_ble_eq_true rfl) ?_
  refine s_callV0 (M' := M_X5_listOrders) (as := []) 7 dX11_startAnew_4 rfl cw_X11_122 rfl rfl (isP_sh (by assumption)) rfl (by decide) (isP_lt (by assumption)) (Nat.le_of_ble_eq_true rfl) (Nat.le_of_ble_eq_true rfl) (Nat.le_of_ble_eq_true rfl) ⟨rfl, rfl, rfl⟩ ?_
  refine c_X5_listOrders hT hP hr hR (fun I1 g1 g2 => ?_)
  have R1 := hR.lo (by omega) g1
  have o0 := g2.2 0 (by rw [hc]; simp)
  rw [hc] at o0
  have o0 : EnO (I1 (P + 35) 0) (vL c) (r 5) := o0
  have ob := o0.1
  refine s_aload_n 8 dX11_startAnew_7 rfl rfl ?_
  refine s_getR 11 dX11_startAnew_8 rfl fl_X11_38 (fun _ _ _ _ => rfl) (T_X11_evening hT) sh_0 (Nat.le_of_ble_eq_true rfl) ?_
  refine s_aload_n 12 dX11_startAnew_11 rfl rfl ?_
  refine s_getR 15 dX11_startAnew_12 rfl fl_X11_19 (fun _ _ _ _ => rfl) (by assumption) sh_0 (Nat.le_of_ble_eq_true rfl) ?_
  refine s_getR 18 dX11_startAnew_15 rfl fl_X11_125 (fun _ _ _ _ => rfl) (T_X5_orderList hT (by assumption)) (isP_sh (by assumption)) (isP_lt (by assumption)) ?_
  refine s_iconst 19 dX11_startAnew_18 rfl ?_
  refine s_iald 20 dX11_startAnew_19 rfl (shP_orderList (by assumption)) (ltP_orderList (by assumption)) (by omega) (by omega) (fun r_19 => ?_)
  refine s_callV0 (M' := M_X2_start) (as := [_]) 23 dX11_startAnew_20 rfl cw_X11_129 rfl rfl sh_80 rfl (by decide) (Nat.le_of_ble_eq_true rfl) (Nat.le_of_ble_eq_true rfl) (Nat.le_of_ble_eq_true rfl) (Nat.le_of_ble_eq_true rfl) ⟨rfl, rfl, rfl⟩ ?_
  refine c_X2_start (by omega) ?_
  refine s_aload_n 24 dX11_startAnew_23 rfl rfl ?_
  refine s_getR 27 dX11_startAnew_24 rfl fl_X11_45 (fun _ _ _ _ => rfl) (T_X11_acts hT) sh_0 (Nat.le_of_ble_eq_true rfl) ?_
  refine s_callV0 (M' := M_X0_clear) (as := []) 30 dX11_startAnew_27 rfl cw_X11_132 rfl rfl sh_81 rfl (by decide) (Nat.le_of_ble_eq_true rfl) (Nat.le_of_ble_eq_true rfl) (Nat.le_of_ble_eq_true rfl) (Nat.le_of_ble_eq_true rfl) ⟨rfl, rfl, rfl⟩ ?_
  refine c_X0_clear ?_
  refine s_aload_n 31 dX11_startAnew_30 rfl rfl ?_
  refine s_getR 34 dX11_startAnew_31 rfl fl_X11_54 (fun _ _ _ _ => rfl) (T_X11_night hT) sh_0 (Nat.le_of_ble_eq_true rfl) ?_
  refine s_aload_n 35 dX11_startAnew_34 rfl rfl ?_
  refine s_getR 38 dX11_startAnew_35 rfl fl_X11_19 (fun _ _ _ _ => rfl) (by assumption) sh_0 (Nat.le_of_ble_eq_true rfl) ?_
  refine s_iconst 39 dX11_startAnew_38 rfl ?_
  refine s_callV0 (M' := M_X4_take) (as := [_, _]) 42 dX11_startAnew_39 rfl cw_X11_135 rfl rfl (isN_sh isN_85) rfl (by decide) (isN_lt isN_85) (Nat.le_of_ble_eq_true rfl) (Nat.le_of_ble_eq_true rfl) (Nat.le_of_ble_eq_true rfl) ⟨rfl, rfl, rfl⟩ ?_
  have R2 : PR (up (up (up (up (up (up I1 80 0 (I1 (P + 35) 0)) 80 1 0) 80 2 0) 81 1 0) 81 3 0) 81 5 0) P r := R1.c (by omega) (fun c a b => by rw [up_ne (by omega), up_ne (by omega), up_ne (by omega), up_ne (by omega), up_ne (by omega), up_ne (by omega)])
  refine c_X4_take hT isN_85 hP hr hh R2 (by decide) (fun I4 k1 k2 k3 k4 => ?_)
  have low : ∀ x, x ≠ 80 → x ≠ 81 → (x < 85 ∨ 106 < x) → I4 x = I1 x := fun x a b d => by rw [k1 x (by omega), up_ne b, up_ne b, up_ne b, up_ne a, up_ne a, up_ne a]
  refine stB _ rfl (Topo_N hT isN_85) (by rw [up_ne (by decide)]; exact t2) I4 ⟨R1.c (by omega) (fun c a b => low c (by omega) (by omega) (by omega)), g2.c (low P (by omega) (by omega) (by omega)) (low (P + 35) (by omega) (by omega) (by omega)), ?_, ?_, ?_, ?_, ?_, ?_, fun x a b d f g => ?_⟩ k2 ?_ ⟨k4, Or.inl k2⟩
  · rw [k1 80 (by decide), up_ne (by decide), up_ne (by decide), up_ne (by decide), upn (by decide), upn (by decide), ups]; exact o0
  · rw [k1 80 (by decide), up_ne (by decide), up_ne (by decide), up_ne (by decide), upn (by decide), ups]
  · rw [k1 80 (by decide), up_ne (by decide), up_ne (by decide), up_ne (by decide), ups]
  · rw [k1 81 (by decide), upn (by decide), upn (by decide), ups]
  · rw [k1 81 (by decide), upn (by decide), ups]
  · rw [k1 81 (by decide), ups]
  · rw [low x d f (by omega)]; exact g1.1 x a b
  · rw [k3 12 (by decide), up_ne (by decide), up_ne (by decide), up_ne (by decide), up_ne (by decide), up_ne (by decide), up_ne (by decide)]; exact congrFun (g1.1 85 (by omega) (by omega)) 12
