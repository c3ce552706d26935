/-! led: the class's own, which throws; the law's, which catches -/
set_option maxHeartbeats 4000000 in
theorem c_X11_led {E : ET} {I : MI} {L : ML} {R : MR} {Q : Option AV → MI → ML → MR → Prop} {QX : MI → ML → MR → Prop} {m : Int} {bt : F1} {n ft pl w : Int} {HP : Prop} {r s : F1} {a : List Int} {U D K : List (List Int)} {P P' : Nat} {p i : Int} (hfl : E.1.stackTraces = false) (hT : Topo R) (hC : CV I L R m bt n ft pl w HP r s a U D K P P') (hm : 0 ≤ m ∧ m ≤ 900000) (hp : -2147483648 ≤ p ∧ p ≤ 2147483647) (hi : -2147483648 ≤ i ∧ i ≤ 2147483647)
    (h : ∀ x t I', Hi I I' → CV I' L R (m + 8) bt n ft pl w HP r s a U D K P P' → ((HP ∧ 0 ≤ p ∧ p < 7) → LedV r (sqF r (r 2) s) (Ons r s p) i x t) → (¬ (HP ∧ 0 ≤ p ∧ p < 7) → x = 0 ∧ t = 1) → (t = 0 → Q (some (vi x)) I' L R) ∧ (t = 1 → QX I' L R)) : CTX E M_X11_ledX 161 yX11_led [(vr (0)), (vi (p)), (vi (i))] I L R Q QX := by
  refine CTX_of rfl rfl (fun h => by cases h) (Nat.le_of_ble_eq_true rfl) (fun X ht hKT hE => ?_)
  show V X _ z0 0 [some (vr 0), some (vi p), some (vi i), none] [] I L R _
  have hfl9 : (xl X).stackTraces = false := by rw [hE]; exact hfl
  have bd := hC.bd
  have hP := hC.1.1
  by_cases hY : HP ∧ 0 ≤ p ∧ p < 7
  · have hh := hY.1
    obtain ⟨hs, hw9, hN⟩ := hC.2.2.2.2.2.2.1 hh
    have hr9 := hs.1
    have e09 := hr9.1
    have hsq := sq_in (r := r) (g := r 2) (sc := s) hr9
    have hO : ∀ k, 0 ≤ k → k < r 7 → ((fun k => hasI (plS r s p) k) k ↔ Ons r s p k) := fun k a b => plS_b hr9 ⟨a, b⟩
    by_cases hi0 : 0 ≤ i
    · skip
      refine s_iconst 1 dX11_led_0 rfl ?_
      refine s_istore_n (ls' := [_, _, _, _]) 2 dX11_led_1 rfl (Nat.le_of_ble_eq_true rfl) rfl rfl ?_
      refine s_aload_n 3 dX11_led_2 rfl rfl ?_
      refine s_iload_n 4 dX11_led_3 rfl rfl ?_
      refine s_callV0 (M' := M_X11_isPlayer) (as := [_]) 7 dX11_led_4 rfl cw_X11_228 rfl rfl sh_0 rfl (by decide) (Nat.le_of_ble_eq_true rfl) (Nat.le_of_ble_eq_true rfl) (Nat.le_of_ble_eq_true rfl) (Nat.le_of_ble_eq_true rfl) ⟨rfl, rfl, rfl⟩ ?_
      refine c_X11_isPlayer hC hp ?_
      refine s_ifb_eq 28 10 dX11_led_7 rfl rfl (fun h_7 => by exfalso; exact h_7 hY) (fun h_7 => ?_)
      refine s_iload_n 11 dX11_led_10 rfl rfl ?_
      refine s_if_lt 28 14 dX11_led_11 rfl rfl (by first | omega | exact bI_r _ | exact iI_r _) (fun h_11 => by exfalso; omega) (fun h_11 => ?_)
      refine s_aload_n 15 dX11_led_14 rfl rfl ?_
      refine s_callV0 (M' := M_X11_tonight) (as := []) 18 dX11_led_15 rfl cw_X11_184 rfl rfl sh_0 rfl (by decide) (Nat.le_of_ble_eq_true rfl) (Nat.le_of_ble_eq_true rfl) (Nat.le_of_ble_eq_true rfl) (Nat.le_of_ble_eq_true rfl) ⟨rfl, rfl, rfl⟩ ?_
      refine c_X11_tonight hT hC hh (by omega) (fun I1 g1 g2 g3 => ?_)
      have hV := g2.2.2.2.1
      have hR1 := g3.2.2.1
      have h85 := hC.1.2.2.2.2.2.1
      refine s_aload_n 19 dX11_led_18 rfl rfl ?_
      refine s_iload_n 20 dX11_led_19 rfl rfl ?_
      refine s_callV0 (M' := M_X11_onsOf) (as := [_]) 23 dX11_led_20 rfl cw_X11_231 rfl rfl sh_0 rfl (by decide) (Nat.le_of_ble_eq_true rfl) (Nat.le_of_ble_eq_true rfl) (Nat.le_of_ble_eq_true rfl) (Nat.le_of_ble_eq_true rfl) ⟨rfl, rfl, rfl⟩ ?_
      refine c_X11_onsOf hT g3 hh hY.2 ?_
      refine s_iload_n 24 dX11_led_23 rfl rfl ?_
      refine s_callV0 (M' := M_X4_inRow) (as := [_, _]) 27 dX11_led_24 rfl cw_X11_367 rfl rfl (isN_sh isN_85) rfl (by decide) (isN_lt isN_85) (Nat.le_of_ble_eq_true rfl) (Nat.le_of_ble_eq_true rfl) (Nat.le_of_ble_eq_true rfl) ⟨rfl, rfl, rfl⟩ ?_
      refine c_X4_inRow hT isN_85 hP h85 hr9 hR1 hV ⟨hi0, hi.2⟩ (fun x hx => ?_)
      have hxb : -1 ≤ x ∧ x < 14 := by
        rcases hx with ⟨b1, -⟩ | ⟨j, b1, b2, -, -, b3⟩
        · omega
        · have := hsq j b1 b2
          omega
      refine s_istore_n (ls' := [_, _, _, _]) 28 dX11_led_27 rfl (Nat.le_of_ble_eq_true rfl) rfl rfl ?_
      refine s_iload_n 29 dX11_led_28 rfl rfl ?_
      refine s_iconst 30 dX11_led_29 rfl ?_
      refine s_icmp_ne 41 33 dX11_led_30 rfl rfl (by first | omega | exact bI_r _ | exact iI_r _) (by first | omega | exact bI_r _ | exact iI_r _) (fun h_30 => ?_) (fun h_30 => ?_)
      · skip
        refine s_iload_n 42 dX11_led_41 rfl rfl ?_
        refine V.rtx ?_
        refine s_iret dX11_led_42 rfl rfl ?_
        refine (h x 0 I1 (Hi.nt isN_85 g1) (g3.mo (by omega)) (fun _ => LedV_c hsq (fun _ _ _ => rfl) hO (Or.inr ⟨rfl, ?_⟩)) (fun z => absurd hY z)).1 rfl
        rcases hx with ⟨b1, -⟩ | b1
        · exact absurd b1 h_30
        · exact b1
      refine s_thr ht hKT hfl9 ((h 0 1 I1 (Hi.nt isN_85 g1) (g3.mo (by omega)) (fun _ => LedV_c hsq (fun _ _ _ => rfl) hO (Or.inl ⟨rfl, rfl, ?_⟩)) (fun z => absurd hY z)).2 rfl)
      rcases hx with ⟨-, b2⟩ | ⟨j, b1, b2, -, -, b3⟩
      · exact b2
      · exfalso; have := hsq j b1 b2; omega
    · skip
      refine s_iconst 1 dX11_led_0 rfl ?_
      refine s_istore_n (ls' := [_, _, _, _]) 2 dX11_led_1 rfl (Nat.le_of_ble_eq_true rfl) rfl rfl ?_
      refine s_aload_n 3 dX11_led_2 rfl rfl ?_
      refine s_iload_n 4 dX11_led_3 rfl rfl ?_
      refine s_callV0 (M' := M_X11_isPlayer) (as := [_]) 7 dX11_led_4 rfl cw_X11_228 rfl rfl sh_0 rfl (by decide) (Nat.le_of_ble_eq_true rfl) (Nat.le_of_ble_eq_true rfl) (Nat.le_of_ble_eq_true rfl) (Nat.le_of_ble_eq_true rfl) ⟨rfl, rfl, rfl⟩ ?_
      refine c_X11_isPlayer hC hp ?_
      refine s_ifb_eq 28 10 dX11_led_7 rfl rfl (fun h_7 => by exfalso; exact h_7 hY) (fun h_7 => ?_)
      refine s_iload_n 11 dX11_led_10 rfl rfl ?_
      refine s_if_lt 28 14 dX11_led_11 rfl rfl (by first | omega | exact bI_r _ | exact iI_r _) (fun h_11 => ?_) (fun h_11 => by exfalso; omega)
      refine s_iload_n 29 dX11_led_28 rfl rfl ?_
      refine s_iconst 30 dX11_led_29 rfl ?_
      refine s_icmp_ne 41 33 dX11_led_30 rfl rfl (by first | omega | exact bI_r _ | exact iI_r _) (by first | omega | exact bI_r _ | exact iI_r _) (fun h_30 => by exfalso; omega) (fun h_30 => ?_)
      refine s_thr ht hKT hfl9 ((h 0 1 I Hi.rf (hC.mo (by omega)) (fun _ => Or.inl ⟨rfl, rfl, fun j z1 z2 z3 => ?_⟩) (fun z => absurd hY z)).2 rfl)
      have cb := cnF_b (S := Ons r s p) (q := sqF r (r 2) s) j.toNat
      omega
  · skip
    refine s_iconst 1 dX11_led_0 rfl ?_
    refine s_istore_n (ls' := [_, _, _, _]) 2 dX11_led_1 rfl (Nat.le_of_ble_eq_true rfl) rfl rfl ?_
    refine s_aload_n 3 dX11_led_2 rfl rfl ?_
    refine s_iload_n 4 dX11_led_3 rfl rfl ?_
    refine s_callV0 (M' := M_X11_isPlayer) (as := [_]) 7 dX11_led_4 rfl cw_X11_228 rfl rfl sh_0 rfl (by decide) (Nat.le_of_ble_eq_true rfl) (Nat.le_of_ble_eq_true rfl) (Nat.le_of_ble_eq_true rfl) (Nat.le_of_ble_eq_true rfl) ⟨rfl, rfl, rfl⟩ ?_
    refine c_X11_isPlayer hC hp ?_
    refine s_ifb_eq 28 10 dX11_led_7 rfl rfl (fun h_7 => ?_) (fun h_7 => by exfalso; exact hY h_7)
    refine s_iload_n 29 dX11_led_28 rfl rfl ?_
    refine s_iconst 30 dX11_led_29 rfl ?_
    refine s_icmp_ne 41 33 dX11_led_30 rfl rfl (by first | omega | exact bI_r _ | exact iI_r _) (by first | omega | exact bI_r _ | exact iI_r _) (fun h_30 => by exfalso; omega) (fun h_30 => ?_)
    exact s_thr ht hKT hfl9 ((h 0 1 I Hi.rf (hC.mo (by omega)) (fun z => absurd z hY) (fun _ => ⟨rfl, rfl⟩)).2 rfl)
theorem CV.l160 {I : MI} {L : ML} {R : MR} {m : Int} {bt : F1} {n ft pl w : Int} {HP : Prop} {r s : F1} {a : List Int} {U D K : List (List Int)} {P P' : Nat} {v : Int64} (h : CV I L R m bt n ft pl w HP r s a U D K P P') : CV I (up L 160 0 v) R m bt n ft pl w HP r s a U D K P P' := by
  obtain ⟨x1, x2, x3, x4, ⟨⟨b1, b2⟩, ⟨b3, b4⟩, ⟨b5, b6⟩, b7⟩, x5⟩ := h
  refine ⟨x1, x2, x3, x4, ⟨⟨b1, ?_⟩, ⟨b3, ?_⟩, ⟨b5, ?_⟩, b7⟩, x5⟩
  · unfold AcR; rw [up_ne (by decide)]; exact b2
  · unfold AcR; rw [up_ne (by decide)]; exact b4
  · unfold AcR; rw [up_ne (by decide)]; exact b6
set_option maxHeartbeats 4000000 in
theorem c_L_led {E : ET} {I : MI} {L : ML} {R : MR} {Q : Option AV → MI → ML → MR → Prop} {m : Int} {bt : F1} {n ft pl w : Int} {HP : Prop} {r s : F1} {a : List Int} {U D K : List (List Int)} {P P' : Nat} {p i : Int} (hfl : E.1.stackTraces = false) (hT : Topo R) (hC : CV I L R m bt n ft pl w HP r s a U D K P P') (hm : 0 ≤ m ∧ m ≤ 900000) (hp : -2147483648 ≤ p ∧ p ≤ 2147483647) (hi : -2147483648 ≤ i ∧ i ≤ 2147483647)
    (h : ∀ x t I', Hi I I' → CV I' L R (m + 8) bt n ft pl w HP r s a U D K P P' → ((HP ∧ 0 ≤ p ∧ p < 7) → LedV r (sqF r (r 2) s) (Ons r s p) i x t) → (¬ (HP ∧ 0 ≤ p ∧ p < 7) → x = 0 ∧ t = 1) → (t = 0 → Q (some (vi 0)) I' (up L 160 0 (iI x).toInt64) R) ∧ (t = 1 → Q (some (vi 1)) I' L R)) : CTL E [(vr (0)), (vi (p)), (vi (i)), (vr 160)] I L R Q := by
  refine CTL_of (Nat.le_of_ble_eq_true rfl) (fun X ht hKT hE => ?_)
  show V X _ z0 0 [some (vr 0), some (vi p), some (vi i), some (vr 160), none] [] I L R _
  refine s_aload_n 1 dL_led_0 rfl rfl ?_
  refine s_iconst 2 dL_led_1 rfl ?_
  refine s_aload_n 3 dL_led_2 rfl rfl ?_
  refine s_iload_n 4 dL_led_3 rfl rfl ?_
  refine s_iload_n 5 dL_led_4 rfl rfl ?_
  refine s_callVX (M' := M_X11_ledX) (as := [_, _]) hKT 8 dL_led_5 rfl cw_L_7 rfl rfl sh_0 rfl (by decide) (Nat.le_of_ble_eq_true rfl) (Nat.le_of_ble_eq_true rfl) (Nat.le_of_ble_eq_true rfl) (Nat.le_of_ble_eq_true rfl) (Nat.le_of_ble_eq_true rfl) (Nat.le_of_ble_eq_true rfl) ?_
  refine c_X11_led (by rw [hE]; exact hfl) hT hC hm hp hi (fun x t I1 a1 a2 a3 a4 => ⟨fun e => ?_, fun e => ?_⟩)
  · show V X M_L_led (1, 6, 161) 8 [some (vr 0), some (vi p), some (vi i), some (vr 160), none] [vi x, vi 0, vr 160] I1 L R _
    refine s_i2l 9 dL_led_8 rfl ?_
    refine s_last 10 dL_led_9 rfl sh_160 (Nat.le_of_ble_eq_true rfl) (by omega) (by omega) ?_
    refine s_goto 17 dL_led_10 rfl ?_
    refine s_iconst 18 dL_led_17 rfl ?_
    refine s_iret dL_led_18 rfl rfl ?_
    exact (h x t I1 a1 a2 a3 a4).1 e
  · refine s_cat ht hKT (by decide) ?_
    show V X M_L_led (1, 6, 161) 15 [none, none, none, none, none] [] I1 L R _
    refine s_iconst 16 dL_led_15 rfl ?_
    refine s_iret dL_led_16 rfl rfl ?_
    exact (h x t I1 a1 a2 a3 a4).2 e
