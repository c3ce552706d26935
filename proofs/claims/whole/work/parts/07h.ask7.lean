/-! what the class answers, 7 -/
theorem plS_b {r s : F1} {p k : Int} (hr : WFr r) (hk : 0 ≤ k ∧ k < r 7) : hasI (plS r s p) k ↔ Ons r s p k := by
  have e0 := hr.1
  rw [has_plS hr ⟨hk.1, by omega⟩]
  exact ⟨fun z => z.2, fun z => ⟨hk.2, z⟩⟩
set_option maxHeartbeats 4000000 in
theorem c_X11_sweat {E : ET} {I : MI} {L : ML} {R : MR} {Q : Option AV → MI → ML → MR → Prop} {m : Int} {bt : F1} {n ft pl w : Int} {HP : Prop} {r s : F1} {a : List Int} {U D K : List (List Int)} {P P' : Nat} {i j : Int} (hT : Topo R) (hC : CV I L R m bt n ft pl w HP r s a U D K P P') (hm : 0 ≤ m ∧ m ≤ 900000) (hi : -2147483648 ≤ i ∧ i ≤ 2147483647) (hj : -2147483648 ≤ j ∧ j ≤ 2147483647) (h : ∀ I', Hi I I' → CV I' L R (m + 8) bt n ft pl (pick ((HP ∧ 0 ≤ i ∧ i < 7) ∧ 0 ≤ j ∧ j ≤ 5) 0 1) HP r s a U D K P P' → Q (some (vi (pick ((HP ∧ 0 ≤ i ∧ i < 7) ∧ 0 ≤ j ∧ j ≤ 5) (swtF r (bgF r (r 2) s) (clF r (r 2) s) (sqF r (r 2) s) (Ons r s i) j) (-1)))) I' L R) : CT E M_X11_sweat 161 yX11_sweat [(vr (0)), (vi (i)), (vi (j))] I L R Q := by
  refine CT_of rfl rfl (fun h => by cases h) (Nat.le_of_ble_eq_true rfl) (fun X => ?_)
  show V X _ z0 0 [some (vr (0)), some (vi (i)), some (vi (j)), none, none] [] I L R _
  obtain ⟨hn, hy⟩ := c_spl hC h
  have bd := hC.bd
  have hP := hC.1.1
  have t2 := hC.1.2.2.2.1
  have hR := hC.2.2.1
  have hE := hC.2.2.2.1
  refine s_aload_n 1 dX11_sweat_0 rfl rfl ?_
  refine s_iload_n 2 dX11_sweat_1 rfl rfl ?_
  refine s_callV0 (M' := M_X11_isPlayer) (as := [_]) 5 dX11_sweat_2 rfl cw_X11_228 rfl rfl sh_0 rfl (by decide) (Nat.le_of_ble_eq_true rfl) (Nat.le_of_ble_eq_true rfl) (Nat.le_of_ble_eq_true rfl) (Nat.le_of_ble_eq_true rfl) ⟨rfl, rfl, rfl⟩ ?_
  refine c_X11_isPlayer hC hi ?_
  refine s_ifb_eq 17 8 dX11_sweat_5 rfl rfl (fun h_5 => ?_) (fun h_5 => ?_)
  · skip
    refine s_aload_n 18 dX11_sweat_17 rfl rfl ?_
    refine s_iconst 19 dX11_sweat_18 rfl ?_
    refine s_callV0 (M' := M_X11_refuse) (as := [_]) 22 dX11_sweat_19 rfl cw_X11_102 rfl rfl sh_0 rfl (by decide) (Nat.le_of_ble_eq_true rfl) (Nat.le_of_ble_eq_true rfl) (Nat.le_of_ble_eq_true rfl) (Nat.le_of_ble_eq_true rfl) ⟨rfl, rfl, rfl⟩ ?_
    refine c_X11_refuse (by decide) ?_
    refine s_iret dX11_sweat_22 rfl rfl ?_
    first | exact hn (fun z => h_5 z.1) | exact hn (fun z => by omega)
  refine s_iload_n 9 dX11_sweat_8 rfl rfl ?_
  refine s_if_lt 17 12 dX11_sweat_9 rfl rfl (by first | omega | exact bI_r _ | exact iI_r _) (fun h_9 => ?_) (fun h_9 => ?_)
  · skip
    refine s_aload_n 18 dX11_sweat_17 rfl rfl ?_
    refine s_iconst 19 dX11_sweat_18 rfl ?_
    refine s_callV0 (M' := M_X11_refuse) (as := [_]) 22 dX11_sweat_19 rfl cw_X11_102 rfl rfl sh_0 rfl (by decide) (Nat.le_of_ble_eq_true rfl) (Nat.le_of_ble_eq_true rfl) (Nat.le_of_ble_eq_true rfl) (Nat.le_of_ble_eq_true rfl) ⟨rfl, rfl, rfl⟩ ?_
    refine c_X11_refuse (by decide) ?_
    refine s_iret dX11_sweat_22 rfl rfl ?_
    first | exact hn (fun z => h_5 z.1) | exact hn (fun z => by omega)
  refine s_iload_n 13 dX11_sweat_12 rfl rfl ?_
  refine s_iconst 14 dX11_sweat_13 rfl ?_
  refine s_icmp_le 23 17 dX11_sweat_14 rfl rfl (by first | omega | exact bI_r _ | exact iI_r _) (by first | omega | exact bI_r _ | exact iI_r _) (fun h_14 => ?_) (fun h_14 => ?_)
  · skip
    refine s_aload_n 24 dX11_sweat_23 rfl rfl ?_
    refine s_iload_n 25 dX11_sweat_24 rfl rfl ?_
    refine s_callV0 (M' := M_X11_onsOf) (as := [_]) 28 dX11_sweat_25 rfl cw_X11_231 rfl rfl sh_0 rfl (by decide) (Nat.le_of_ble_eq_true rfl) (Nat.le_of_ble_eq_true rfl) (Nat.le_of_ble_eq_true rfl) (Nat.le_of_ble_eq_true rfl) ⟨rfl, rfl, rfl⟩ ?_
    have hh := h_5.1
    obtain ⟨hs, hw9, hN⟩ := hC.2.2.2.2.2.2.1 hh
    have hr9 := hs.1
    have e09 := hr9.1
    have hO : ∀ k, 0 ≤ k → k < r 7 → (hasI (plS r s i) k ↔ Ons r s i k) := fun k a b => plS_b hr9 ⟨a, b⟩
    have hBb : ∀ k, 0 ≤ k → k < r 7 → (Bod r (sqF r (r 2) s) (fun k => hasI (plS r s i) k) k ↔ Bod r (sqF r (r 2) s) (Ons r s i) k) := fun k _ _ => Bod_c hr9 (sq_P hr9) (fun _ _ _ => rfl) (fun x a b => (hO x a b).symm)
    refine c_X11_onsOf hT hC hh h_5.2 ?_
    refine s_istore_n (ls' := [_, _, _, _, _]) 29 dX11_sweat_28 rfl (Nat.le_of_ble_eq_true rfl) rfl rfl ?_
    refine s_aload_n 30 dX11_sweat_29 rfl rfl ?_
    refine s_callV0 (M' := M_X11_tonight) (as := []) 33 dX11_sweat_30 rfl cw_X11_184 rfl rfl sh_0 rfl (by decide) (Nat.le_of_ble_eq_true rfl) (Nat.le_of_ble_eq_true rfl) (Nat.le_of_ble_eq_true rfl) (Nat.le_of_ble_eq_true rfl) ⟨rfl, rfl, rfl⟩ ?_
    refine c_X11_tonight hT hC hh (by omega) (fun I1 g1 g2 g3 => ?_)
    have hq0 := hy ⟨h_5, by omega, by omega⟩ I1 (m + 1) (by omega) (Hi.nt isN_85 g1) g3
    have hV := g2.2.2.2.1
    have hR1 := g3.2.2.1
    have h85 := hC.1.2.2.2.2.2.1
    have n85 : isN 85 := isN_85
    unfold swtF at hq0
    refine s_astore (ls' := [_, _, _, _, _]) 35 dX11_sweat_33 rfl (Nat.le_of_ble_eq_true rfl) rfl rfl ?_
    refine s_iload_n 36 dX11_sweat_35 rfl rfl ?_
    rcases (show j = 0 ∨ j = 1 ∨ j = 2 ∨ j = 3 ∨ j = 4 ∨ j = 5 by omega) with h_36 | h_36 | h_36 | h_36 | h_36 | h_36
    · refine s_lks 72 dX11_sweat_36 (by omega) (by decide) (by rw [h_36]) (by decide) ?_
      refine s_aload_n 73 dX11_sweat_72 rfl rfl ?_
      refine s_aload 75 dX11_sweat_73 rfl rfl ?_
      refine s_aload 77 dX11_sweat_75 rfl rfl ?_
      refine s_iload_n 78 dX11_sweat_77 rfl rfl ?_
      refine s_callV0 (M' := M_X4_bodilyOf) (as := [_]) 81 dX11_sweat_78 rfl cw_X11_225 rfl rfl (isN_sh isN_85) rfl (by decide) (isN_lt isN_85) (Nat.le_of_ble_eq_true rfl) (Nat.le_of_ble_eq_true rfl) (Nat.le_of_ble_eq_true rfl) ⟨rfl, rfl, rfl⟩ ?_
      refine c_X4_bodilyOf hT isN_85 hP h85 hr9 hR1 hV.2.2.1 (sq_P hr9) (plS_hi hr9) (fun B hB => ?_)
      refine s_callV0 (M' := M_X4_seconds) (as := [_]) 84 dX11_sweat_81 rfl cw_X11_259 rfl rfl (isN_sh isN_85) rfl (by decide) (isN_lt isN_85) (Nat.le_of_ble_eq_true rfl) (Nat.le_of_ble_eq_true rfl) (Nat.le_of_ble_eq_true rfl) ⟨rfl, rfl, rfl⟩ ?_
      refine c_X4_seconds hT isN_85 hP h85 hr9 hR1 hV hs.p (by omega) ?_
      refine s_callV0 (M' := M_X11_fine) (as := [_]) 87 dX11_sweat_84 rfl cw_X11_119 rfl rfl sh_0 rfl (by decide) (Nat.le_of_ble_eq_true rfl) (Nat.le_of_ble_eq_true rfl) (Nat.le_of_ble_eq_true rfl) (Nat.le_of_ble_eq_true rfl) ⟨rfl, rfl, rfl⟩ ?_
      refine c_X11_fine ?_
      refine s_iret dX11_sweat_87 rfl rfl ?_
      rw [if_pos (by omega)] at hq0
      rw [secF_c (S := Bod r (sqF r (r 2) s) (Ons r s i)) (b := bgF r (r 2) s) (c := clF r (r 2) s) (fun k z1 z2 => ⟨(hB.2 k z1 (by omega)).trans (hBb k z1 (by omega)), rfl, rfl⟩)]
      exact hq0
    · refine s_lks 126 dX11_sweat_36 (by omega) (by decide) (by rw [h_36]) (by decide) ?_
      refine s_aload_n 127 dX11_sweat_126 rfl rfl ?_
      refine s_aload 129 dX11_sweat_127 rfl rfl ?_
      refine s_iload_n 130 dX11_sweat_129 rfl rfl ?_
      refine s_iload_n 131 dX11_sweat_130 rfl rfl ?_
      refine s_callV0 (M' := M_X4_changesOf) (as := [_, _]) 134 dX11_sweat_131 rfl cw_X11_268 rfl rfl (isN_sh isN_85) rfl (by decide) (isN_lt isN_85) (Nat.le_of_ble_eq_true rfl) (Nat.le_of_ble_eq_true rfl) (Nat.le_of_ble_eq_true rfl) ⟨rfl, rfl, rfl⟩ ?_
      refine c_X4_changesOf hT isN_85 hP h85 hr9 hw9 hR1 hV (plS_hi hr9) (by omega) ?_
      refine s_callV0 (M' := M_X11_fine) (as := [_]) 137 dX11_sweat_134 rfl cw_X11_119 rfl rfl sh_0 rfl (by decide) (Nat.le_of_ble_eq_true rfl) (Nat.le_of_ble_eq_true rfl) (Nat.le_of_ble_eq_true rfl) (Nat.le_of_ble_eq_true rfl) ⟨rfl, rfl, rfl⟩ ?_
      refine c_X11_fine ?_
      refine s_iret dX11_sweat_137 rfl rfl ?_
      rw [if_neg (by omega), if_neg (by omega), if_neg (by omega)] at hq0
      have hcs : chS r j (Bod r (sqF r (r 2) s) (fun k => hasI (plS r s i) k)) (sqF r (r 2) s) (r 7).toNat = chS r j (Bod r (sqF r (r 2) s) (Ons r s i)) (sqF r (r 2) s) (r 7).toNat := chS_c (fun x z1 z2 => ⟨rfl, hBb _ ((sq_P hr9).1 x z1 (by omega)).1 ((sq_P hr9).1 x z1 (by omega)).2⟩)
      rw [hcs]
      exact hq0
    · refine s_lks 126 dX11_sweat_36 (by omega) (by decide) (by rw [h_36]) (by decide) ?_
      refine s_aload_n 127 dX11_sweat_126 rfl rfl ?_
      refine s_aload 129 dX11_sweat_127 rfl rfl ?_
      refine s_iload_n 130 dX11_sweat_129 rfl rfl ?_
      refine s_iload_n 131 dX11_sweat_130 rfl rfl ?_
      refine s_callV0 (M' := M_X4_changesOf) (as := [_, _]) 134 dX11_sweat_131 rfl cw_X11_268 rfl rfl (isN_sh isN_85) rfl (by decide) (isN_lt isN_85) (Nat.le_of_ble_eq_true rfl) (Nat.le_of_ble_eq_true rfl) (Nat.le_of_ble_eq_true rfl) ⟨rfl, rfl, rfl⟩ ?_
      refine c_X4_changesOf hT isN_85 hP h85 hr9 hw9 hR1 hV (plS_hi hr9) (by omega) ?_
      refine s_callV0 (M' := M_X11_fine) (as := [_]) 137 dX11_sweat_134 rfl cw_X11_119 rfl rfl sh_0 rfl (by decide) (Nat.le_of_ble_eq_true rfl) (Nat.le_of_ble_eq_true rfl) (Nat.le_of_ble_eq_true rfl) (Nat.le_of_ble_eq_true rfl) ⟨rfl, rfl, rfl⟩ ?_
      refine c_X11_fine ?_
      refine s_iret dX11_sweat_137 rfl rfl ?_
      rw [if_neg (by omega), if_neg (by omega), if_neg (by omega)] at hq0
      have hcs : chS r j (Bod r (sqF r (r 2) s) (fun k => hasI (plS r s i) k)) (sqF r (r 2) s) (r 7).toNat = chS r j (Bod r (sqF r (r 2) s) (Ons r s i)) (sqF r (r 2) s) (r 7).toNat := chS_c (fun x z1 z2 => ⟨rfl, hBb _ ((sq_P hr9).1 x z1 (by omega)).1 ((sq_P hr9).1 x z1 (by omega)).2⟩)
      rw [hcs]
      exact hq0
    · refine s_lks 126 dX11_sweat_36 (by omega) (by decide) (by rw [h_36]) (by decide) ?_
      refine s_aload_n 127 dX11_sweat_126 rfl rfl ?_
      refine s_aload 129 dX11_sweat_127 rfl rfl ?_
      refine s_iload_n 130 dX11_sweat_129 rfl rfl ?_
      refine s_iload_n 131 dX11_sweat_130 rfl rfl ?_
      refine s_callV0 (M' := M_X4_changesOf) (as := [_, _]) 134 dX11_sweat_131 rfl cw_X11_268 rfl rfl (isN_sh isN_85) rfl (by decide) (isN_lt isN_85) (Nat.le_of_ble_eq_true rfl) (Nat.le_of_ble_eq_true rfl) (Nat.le_of_ble_eq_true rfl) ⟨rfl, rfl, rfl⟩ ?_
      refine c_X4_changesOf hT isN_85 hP h85 hr9 hw9 hR1 hV (plS_hi hr9) (by omega) ?_
      refine s_callV0 (M' := M_X11_fine) (as := [_]) 137 dX11_sweat_134 rfl cw_X11_119 rfl rfl sh_0 rfl (by decide) (Nat.le_of_ble_eq_true rfl) (Nat.le_of_ble_eq_true rfl) (Nat.le_of_ble_eq_true rfl) (Nat.le_of_ble_eq_true rfl) ⟨rfl, rfl, rfl⟩ ?_
      refine c_X11_fine ?_
      refine s_iret dX11_sweat_137 rfl rfl ?_
      rw [if_neg (by omega), if_neg (by omega), if_neg (by omega)] at hq0
      have hcs : chS r j (Bod r (sqF r (r 2) s) (fun k => hasI (plS r s i) k)) (sqF r (r 2) s) (r 7).toNat = chS r j (Bod r (sqF r (r 2) s) (Ons r s i)) (sqF r (r 2) s) (r 7).toNat := chS_c (fun x z1 z2 => ⟨rfl, hBb _ ((sq_P hr9).1 x z1 (by omega)).1 ((sq_P hr9).1 x z1 (by omega)).2⟩)
      rw [hcs]
      exact hq0
    · refine s_lks 88 dX11_sweat_36 (by omega) (by decide) (by rw [h_36]) (by decide) ?_
      refine s_aload_n 89 dX11_sweat_88 rfl rfl ?_
      refine s_aload 91 dX11_sweat_89 rfl rfl ?_
      refine s_iload_n 92 dX11_sweat_91 rfl rfl ?_
      refine s_aload_n 93 dX11_sweat_92 rfl rfl ?_
      refine s_getR 96 dX11_sweat_93 rfl fl_X11_19 (fun _ _ _ _ => rfl) (by assumption) sh_0 (Nat.le_of_ble_eq_true rfl) ?_
      refine s_getI 99 dX11_sweat_96 rfl fl_X11_262 (fun _ _ _ _ => rfl) (isP_sh (by assumption)) (isP_lt (by assumption)) (fun r_96 => ?_)
      rw [hR1.2.1.1]
      refine s_iand 100 dX11_sweat_99 rfl ?_
      refine s_callV0 (M' := M_X4_seconds) (as := [_]) 103 dX11_sweat_100 rfl cw_X11_259 rfl rfl (isN_sh isN_85) rfl (by decide) (isN_lt isN_85) (Nat.le_of_ble_eq_true rfl) (Nat.le_of_ble_eq_true rfl) (Nat.le_of_ble_eq_true rfl) ⟨rfl, rfl, rfl⟩ ?_
      refine c_X4_seconds hT isN_85 hP h85 hr9 hR1 hV hs.p (by omega) ?_
      refine s_callV0 (M' := M_X11_fine) (as := [_]) 106 dX11_sweat_103 rfl cw_X11_119 rfl rfl sh_0 rfl (by decide) (Nat.le_of_ble_eq_true rfl) (Nat.le_of_ble_eq_true rfl) (Nat.le_of_ble_eq_true rfl) (Nat.le_of_ble_eq_true rfl) ⟨rfl, rfl, rfl⟩ ?_
      refine c_X11_fine ?_
      refine s_iret dX11_sweat_106 rfl rfl ?_
      rw [if_neg (by omega), if_pos (by omega)] at hq0
      rw [secF_c (S := fun k => Ons r s i k ∧ behP r k) (b := bgF r (r 2) s) (c := clF r (r 2) s) (fun k z1 z2 => ⟨by rw [has_and ⟨z1, by omega⟩, has_setOf (by omega) ⟨z1, by omega⟩, hO k z1 (by omega)]; exact ⟨fun z => ⟨z.1, z.2.2⟩, fun z => ⟨z.1, by omega, z.2⟩⟩, rfl, rfl⟩)]
      exact hq0
    · refine s_lks 107 dX11_sweat_36 (by omega) (by decide) (by rw [h_36]) (by decide) ?_
      refine s_aload_n 108 dX11_sweat_107 rfl rfl ?_
      refine s_aload 110 dX11_sweat_108 rfl rfl ?_
      refine s_iload_n 111 dX11_sweat_110 rfl rfl ?_
      refine s_aload_n 112 dX11_sweat_111 rfl rfl ?_
      refine s_getR 115 dX11_sweat_112 rfl fl_X11_19 (fun _ _ _ _ => rfl) (by assumption) sh_0 (Nat.le_of_ble_eq_true rfl) ?_
      refine s_getI 118 dX11_sweat_115 rfl fl_X11_265 (fun _ _ _ _ => rfl) (isP_sh (by assumption)) (isP_lt (by assumption)) (fun r_115 => ?_)
      rw [hR1.2.1.2.1]
      refine s_iand 119 dX11_sweat_118 rfl ?_
      refine s_callV0 (M' := M_X4_seconds) (as := [_]) 122 dX11_sweat_119 rfl cw_X11_259 rfl rfl (isN_sh isN_85) rfl (by decide) (isN_lt isN_85) (Nat.le_of_ble_eq_true rfl) (Nat.le_of_ble_eq_true rfl) (Nat.le_of_ble_eq_true rfl) ⟨rfl, rfl, rfl⟩ ?_
      refine c_X4_seconds hT isN_85 hP h85 hr9 hR1 hV hs.p (by omega) ?_
      refine s_callV0 (M' := M_X11_fine) (as := [_]) 125 dX11_sweat_122 rfl cw_X11_119 rfl rfl sh_0 rfl (by decide) (Nat.le_of_ble_eq_true rfl) (Nat.le_of_ble_eq_true rfl) (Nat.le_of_ble_eq_true rfl) (Nat.le_of_ble_eq_true rfl) ⟨rfl, rfl, rfl⟩ ?_
      refine c_X11_fine ?_
      refine s_iret dX11_sweat_125 rfl rfl ?_
      rw [if_neg (by omega), if_neg (by omega), if_pos (by omega)] at hq0
      rw [secF_c (S := fun k => Ons r s i k ∧ pupP r k) (b := bgF r (r 2) s) (c := clF r (r 2) s) (fun k z1 z2 => ⟨by rw [has_and ⟨z1, by omega⟩, has_setOf (by omega) ⟨z1, by omega⟩, hO k z1 (by omega)]; exact ⟨fun z => ⟨z.1, z.2.2⟩, fun z => ⟨z.1, by omega, z.2⟩⟩, rfl, rfl⟩)]
      exact hq0
  refine s_aload_n 18 dX11_sweat_17 rfl rfl ?_
  refine s_iconst 19 dX11_sweat_18 rfl ?_
  refine s_callV0 (M' := M_X11_refuse) (as := [_]) 22 dX11_sweat_19 rfl cw_X11_102 rfl rfl sh_0 rfl (by decide) (Nat.le_of_ble_eq_true rfl) (Nat.le_of_ble_eq_true rfl) (Nat.le_of_ble_eq_true rfl) (Nat.le_of_ble_eq_true rfl) ⟨rfl, rfl, rfl⟩ ?_
  refine c_X11_refuse (by decide) ?_
  refine s_iret dX11_sweat_22 rfl rfl ?_
  first | exact hn (fun z => h_5 z.1) | exact hn (fun z => by omega)
