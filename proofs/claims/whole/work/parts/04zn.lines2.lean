/-! the reference's LINES, walked: after, on, saw -/
set_option maxHeartbeats 4000000 in
theorem c_X12_afterLine {E : ET} {I : MI} {L : ML} {R : MR} {Q : Option AV → MI → ML → MR → Prop} {bt r : F1} {n : Int} {o : PO} (hT : Topo R) (hn : 0 ≤ n ∧ n ≤ 900) (hb : ∀ k, 0 ≤ k → k < n → 0 ≤ bt k ∧ bt k ≤ 255) (hr : ∀ s, 0 ≤ s → s < 5 → 0 ≤ r (49 + s) ∧ r (49 + s) < 32) (h6 : 0 ≤ r 6 ∧ r 6 ≤ 6) (hS : RSt I bt n r o) (h : ∀ I' r', RFr I I' → RSt I' bt n r' (afO bt n r o) → (¬ isE (afO bt n r o) → r' = afR bt n r o) → Q none I' L R) : CT E M_X12_afterLine 161 yX12_afterLine [(vr (138))] I L R Q := by
  refine CT_of rfl rfl (fun h => by cases h) (Nat.le_of_ble_eq_true rfl) (fun X => ?_)
  show V X _ z0 0 [some (vr (138)), none, none] [] I L R _
  have b1 := naV_b bt n r False o
  have b2 := naV_b bt n r False (afA bt n r o)
  have b3 := b1.2.2 id
  have b4 := b2.2.2 id
  have b5 : 0 ≤ afV bt n r o ∧ afV bt n r o < 5 := by unfold afV; omega
  have b6 : 0 ≤ afW bt n r o ∧ afW bt n r o < 5 := by unfold afW; omega
  cases hB : afB bt n r o with
  | inl q =>
    have eO : afO bt n r o = .inl q := by unfold afO; rw [hB]
    rw [eO] at h
    refine s_aload_n 1 dX12_afterLine_0 rfl rfl ?_
    refine s_iconst 2 dX12_afterLine_1 rfl ?_
    refine s_callV0 (M' := M_X12_passed) (as := [_]) 5 dX12_afterLine_2 rfl cw_X12_271 rfl rfl sh_138 rfl (by decide) (Nat.le_of_ble_eq_true rfl) (Nat.le_of_ble_eq_true rfl) (Nat.le_of_ble_eq_true rfl) (Nat.le_of_ble_eq_true rfl) ⟨rfl, rfl, rfl⟩ ?_
    refine c_X12_passed2 (B := False) (o1 := afA bt n r o) (v := afV bt n r o) hT hn hb hS rfl rfl (bI_f id) (fun I1 q1 q2 => ?_)
    refine s_istore_n (ls' := [_, _, _]) 6 dX12_afterLine_5 rfl (Nat.le_of_ble_eq_true rfl) rfl rfl ?_
    refine s_aload_n 7 dX12_afterLine_6 rfl rfl ?_
    refine s_iconst 8 dX12_afterLine_7 rfl ?_
    refine s_callV0 (M' := M_X12_named) (as := [_]) 11 dX12_afterLine_8 rfl cw_X12_170 rfl rfl sh_138 rfl (by decide) (Nat.le_of_ble_eq_true rfl) (Nat.le_of_ble_eq_true rfl) (Nat.le_of_ble_eq_true rfl) (Nat.le_of_ble_eq_true rfl) ⟨rfl, rfl, rfl⟩ ?_
    refine c_X12_named2 (B := False) (v := afW bt n r o) hT q2 hB rfl (bI_f id) (fun I2 q3 q4 => ?_)
    refine s_istore_n (ls' := [_, _, _]) 12 dX12_afterLine_11 rfl (Nat.le_of_ble_eq_true rfl) rfl rfl ?_
    refine s_aload_n 13 dX12_afterLine_12 rfl rfl ?_
    refine s_getI 16 dX12_afterLine_13 rfl fl_X12_119 (fun _ _ _ _ => rfl) sh_138 (Nat.le_of_ble_eq_true rfl) (fun r_13 => ?_)
    rw [q4.no]
    refine s_if_eq 20 19 dX12_afterLine_16 rfl rfl (by first | omega | exact bI_r _ | exact iI_r _) (fun h_16 => by exfalso; omega) (fun h_16 => ?_)
    refine s_vret dX12_afterLine_19 rfl rfl ?_
    exact h I2 _ (q1.tr q3) q4 (fun z => absurd trivial z)
  | inr a =>
    have eO : afO bt n r o = pick (afV bt n r o = afW bt n r o) (.inl (3, a)) (pick (AncP r (afV bt n r o) (afW bt n r o)) (.inl (7, a)) (.inr (nxE bt n a))) := by unfold afO; rw [hB]
    by_cases k1 : afV bt n r o = afW bt n r o
    · rw [eO, pick_t k1] at h
      refine s_aload_n 1 dX12_afterLine_0 rfl rfl ?_
      refine s_iconst 2 dX12_afterLine_1 rfl ?_
      refine s_callV0 (M' := M_X12_passed) (as := [_]) 5 dX12_afterLine_2 rfl cw_X12_271 rfl rfl sh_138 rfl (by decide) (Nat.le_of_ble_eq_true rfl) (Nat.le_of_ble_eq_true rfl) (Nat.le_of_ble_eq_true rfl) (Nat.le_of_ble_eq_true rfl) ⟨rfl, rfl, rfl⟩ ?_
      refine c_X12_passed2 (B := False) (o1 := afA bt n r o) (v := afV bt n r o) hT hn hb hS rfl rfl (bI_f id) (fun I1 q1 q2 => ?_)
      refine s_istore_n (ls' := [_, _, _]) 6 dX12_afterLine_5 rfl (Nat.le_of_ble_eq_true rfl) rfl rfl ?_
      refine s_aload_n 7 dX12_afterLine_6 rfl rfl ?_
      refine s_iconst 8 dX12_afterLine_7 rfl ?_
      refine s_callV0 (M' := M_X12_named) (as := [_]) 11 dX12_afterLine_8 rfl cw_X12_170 rfl rfl sh_138 rfl (by decide) (Nat.le_of_ble_eq_true rfl) (Nat.le_of_ble_eq_true rfl) (Nat.le_of_ble_eq_true rfl) (Nat.le_of_ble_eq_true rfl) ⟨rfl, rfl, rfl⟩ ?_
      refine c_X12_named2 (B := False) (v := afW bt n r o) hT q2 hB rfl (bI_f id) (fun I2 q3 q4 => ?_)
      refine s_istore_n (ls' := [_, _, _]) 12 dX12_afterLine_11 rfl (Nat.le_of_ble_eq_true rfl) rfl rfl ?_
      refine s_aload_n 13 dX12_afterLine_12 rfl rfl ?_
      refine s_getI 16 dX12_afterLine_13 rfl fl_X12_119 (fun _ _ _ _ => rfl) sh_138 (Nat.le_of_ble_eq_true rfl) (fun r_13 => ?_)
      rw [q4.ok]
      refine s_if_eq 20 19 dX12_afterLine_16 rfl rfl (by first | omega | exact bI_r _ | exact iI_r _) (fun h_16 => ?_) (fun h_16 => by exfalso; omega)
      refine s_iload_n 21 dX12_afterLine_20 rfl rfl ?_
      refine s_iload_n 22 dX12_afterLine_21 rfl rfl ?_
      refine s_icmp_ne 34 25 dX12_afterLine_22 rfl rfl (by first | omega | exact bI_r _ | exact iI_r _) (by first | omega | exact bI_r _ | exact iI_r _) (fun h_22 => by exfalso; omega) (fun h_22 => ?_)
      refine s_aload_n 26 dX12_afterLine_25 rfl rfl ?_
      refine s_iconst 27 dX12_afterLine_26 rfl ?_
      refine s_aload_n 28 dX12_afterLine_27 rfl rfl ?_
      refine s_getI 31 dX12_afterLine_28 rfl fl_X12_100 (fun _ _ _ _ => rfl) sh_138 (Nat.le_of_ble_eq_true rfl) (fun r_28 => ?_)
      refine s_callV0 (M' := M_X12_wrong) (as := [_, _]) 34 dX12_afterLine_31 rfl cw_X12_146 rfl rfl sh_138 rfl (by decide) (Nat.le_of_ble_eq_true rfl) (Nat.le_of_ble_eq_true rfl) (Nat.le_of_ble_eq_true rfl) (Nat.le_of_ble_eq_true rfl) ⟨rfl, rfl, rfl⟩ ?_
      refine c_X12_wrong q4 q4.at2 (by decide) (by omega) (fun I3 q5 q6 => ?_)
      have q6 : RSt I3 bt n r (.inl (3, a)) := q6
      refine s_aload_n 35 dX12_afterLine_34 rfl rfl ?_
      refine s_getI 38 dX12_afterLine_35 rfl fl_X12_119 (fun _ _ _ _ => rfl) sh_138 (Nat.le_of_ble_eq_true rfl) (fun r_35 => ?_)
      rw [q6.no]
      refine s_if_ne 60 41 dX12_afterLine_38 rfl rfl (by first | omega | exact bI_r _ | exact iI_r _) (fun h_38 => ?_) (fun h_38 => by exfalso; omega)
      refine s_aload_n 61 dX12_afterLine_60 rfl rfl ?_
      refine s_getI 64 dX12_afterLine_61 rfl fl_X12_119 (fun _ _ _ _ => rfl) sh_138 (Nat.le_of_ble_eq_true rfl) (fun r_61 => ?_)
      rw [q6.no]
      refine s_if_eq 68 67 dX12_afterLine_64 rfl rfl (by first | omega | exact bI_r _ | exact iI_r _) (fun h_64 => by exfalso; omega) (fun h_64 => ?_)
      refine s_vret dX12_afterLine_67 rfl rfl ?_
      exact h I3 _ ((q1.tr q3).tr q5) q6 (fun z => absurd trivial z)
    · by_cases k2 : AncP r (afV bt n r o) (afW bt n r o)
      · rw [eO, pick_f k1, pick_t k2] at h
        refine s_aload_n 1 dX12_afterLine_0 rfl rfl ?_
        refine s_iconst 2 dX12_afterLine_1 rfl ?_
        refine s_callV0 (M' := M_X12_passed) (as := [_]) 5 dX12_afterLine_2 rfl cw_X12_271 rfl rfl sh_138 rfl (by decide) (Nat.le_of_ble_eq_true rfl) (Nat.le_of_ble_eq_true rfl) (Nat.le_of_ble_eq_true rfl) (Nat.le_of_ble_eq_true rfl) ⟨rfl, rfl, rfl⟩ ?_
        refine c_X12_passed2 (B := False) (o1 := afA bt n r o) (v := afV bt n r o) hT hn hb hS rfl rfl (bI_f id) (fun I1 q1 q2 => ?_)
        refine s_istore_n (ls' := [_, _, _]) 6 dX12_afterLine_5 rfl (Nat.le_of_ble_eq_true rfl) rfl rfl ?_
        refine s_aload_n 7 dX12_afterLine_6 rfl rfl ?_
        refine s_iconst 8 dX12_afterLine_7 rfl ?_
        refine s_callV0 (M' := M_X12_named) (as := [_]) 11 dX12_afterLine_8 rfl cw_X12_170 rfl rfl sh_138 rfl (by decide) (Nat.le_of_ble_eq_true rfl) (Nat.le_of_ble_eq_true rfl) (Nat.le_of_ble_eq_true rfl) (Nat.le_of_ble_eq_true rfl) ⟨rfl, rfl, rfl⟩ ?_
        refine c_X12_named2 (B := False) (v := afW bt n r o) hT q2 hB rfl (bI_f id) (fun I2 q3 q4 => ?_)
        refine s_istore_n (ls' := [_, _, _]) 12 dX12_afterLine_11 rfl (Nat.le_of_ble_eq_true rfl) rfl rfl ?_
        refine s_aload_n 13 dX12_afterLine_12 rfl rfl ?_
        refine s_getI 16 dX12_afterLine_13 rfl fl_X12_119 (fun _ _ _ _ => rfl) sh_138 (Nat.le_of_ble_eq_true rfl) (fun r_13 => ?_)
        rw [q4.ok]
        refine s_if_eq 20 19 dX12_afterLine_16 rfl rfl (by first | omega | exact bI_r _ | exact iI_r _) (fun h_16 => ?_) (fun h_16 => by exfalso; omega)
        refine s_iload_n 21 dX12_afterLine_20 rfl rfl ?_
        refine s_iload_n 22 dX12_afterLine_21 rfl rfl ?_
        refine s_icmp_ne 34 25 dX12_afterLine_22 rfl rfl (by first | omega | exact bI_r _ | exact iI_r _) (by first | omega | exact bI_r _ | exact iI_r _) (fun h_22 => ?_) (fun h_22 => by exfalso; omega)
        refine s_aload_n 35 dX12_afterLine_34 rfl rfl ?_
        refine s_getI 38 dX12_afterLine_35 rfl fl_X12_119 (fun _ _ _ _ => rfl) sh_138 (Nat.le_of_ble_eq_true rfl) (fun r_35 => ?_)
        rw [q4.ok]
        refine s_if_ne 60 41 dX12_afterLine_38 rfl rfl (by first | omega | exact bI_r _ | exact iI_r _) (fun h_38 => by exfalso; omega) (fun h_38 => ?_)
        refine s_aload_n 42 dX12_afterLine_41 rfl rfl ?_
        refine s_iload_n 43 dX12_afterLine_42 rfl rfl ?_
        refine s_iload_n 44 dX12_afterLine_43 rfl rfl ?_
        refine s_callV0 (M' := M_X12_comesBefore) (as := [_, _]) 47 dX12_afterLine_44 rfl cw_X12_274 rfl rfl sh_138 rfl (by decide) (Nat.le_of_ble_eq_true rfl) (Nat.le_of_ble_eq_true rfl) (Nat.le_of_ble_eq_true rfl) (Nat.le_of_ble_eq_true rfl) ⟨rfl, rfl, rfl⟩ ?_
        refine c_X12_comesBefore hT q4.2.2.1 hr b6 b5 ?_
        refine s_ifb_eq 60 50 dX12_afterLine_47 rfl rfl (fun h_47 => by exfalso; exact absurd k2 h_47) (fun h_47 => ?_)
        refine s_aload_n 51 dX12_afterLine_50 rfl rfl ?_
        refine s_bipush 53 dX12_afterLine_51 rfl (by decide) ?_
        refine s_aload_n 54 dX12_afterLine_53 rfl rfl ?_
        refine s_getI 57 dX12_afterLine_54 rfl fl_X12_100 (fun _ _ _ _ => rfl) sh_138 (Nat.le_of_ble_eq_true rfl) (fun r_54 => ?_)
        refine s_callV0 (M' := M_X12_wrong) (as := [_, _]) 60 dX12_afterLine_57 rfl cw_X12_146 rfl rfl sh_138 rfl (by decide) (Nat.le_of_ble_eq_true rfl) (Nat.le_of_ble_eq_true rfl) (Nat.le_of_ble_eq_true rfl) (Nat.le_of_ble_eq_true rfl) ⟨rfl, rfl, rfl⟩ ?_
        refine c_X12_wrong q4 q4.at2 (by decide) (by omega) (fun I3 q5 q6 => ?_)
        have q6 : RSt I3 bt n r (.inl (7, a)) := q6
        refine s_aload_n 61 dX12_afterLine_60 rfl rfl ?_
        refine s_getI 64 dX12_afterLine_61 rfl fl_X12_119 (fun _ _ _ _ => rfl) sh_138 (Nat.le_of_ble_eq_true rfl) (fun r_61 => ?_)
        rw [q6.no]
        refine s_if_eq 68 67 dX12_afterLine_64 rfl rfl (by first | omega | exact bI_r _ | exact iI_r _) (fun h_64 => by exfalso; omega) (fun h_64 => ?_)
        refine s_vret dX12_afterLine_67 rfl rfl ?_
        exact h I3 _ ((q1.tr q3).tr q5) q6 (fun z => absurd trivial z)
      · rw [eO, pick_f k1, pick_f k2] at h
        have g6 : ∀ v, sr r (49 + afW bt n r o) v 6 = r 6 := fun v => sr_n (by omega)
        refine s_aload_n 1 dX12_afterLine_0 rfl rfl ?_
        refine s_iconst 2 dX12_afterLine_1 rfl ?_
        refine s_callV0 (M' := M_X12_passed) (as := [_]) 5 dX12_afterLine_2 rfl cw_X12_271 rfl rfl sh_138 rfl (by decide) (Nat.le_of_ble_eq_true rfl) (Nat.le_of_ble_eq_true rfl) (Nat.le_of_ble_eq_true rfl) (Nat.le_of_ble_eq_true rfl) ⟨rfl, rfl, rfl⟩ ?_
        refine c_X12_passed2 (B := False) (o1 := afA bt n r o) (v := afV bt n r o) hT hn hb hS rfl rfl (bI_f id) (fun I1 q1 q2 => ?_)
        refine s_istore_n (ls' := [_, _, _]) 6 dX12_afterLine_5 rfl (Nat.le_of_ble_eq_true rfl) rfl rfl ?_
        refine s_aload_n 7 dX12_afterLine_6 rfl rfl ?_
        refine s_iconst 8 dX12_afterLine_7 rfl ?_
        refine s_callV0 (M' := M_X12_named) (as := [_]) 11 dX12_afterLine_8 rfl cw_X12_170 rfl rfl sh_138 rfl (by decide) (Nat.le_of_ble_eq_true rfl) (Nat.le_of_ble_eq_true rfl) (Nat.le_of_ble_eq_true rfl) (Nat.le_of_ble_eq_true rfl) ⟨rfl, rfl, rfl⟩ ?_
        refine c_X12_named2 (B := False) (v := afW bt n r o) hT q2 hB rfl (bI_f id) (fun I2 q3 q4 => ?_)
        refine s_istore_n (ls' := [_, _, _]) 12 dX12_afterLine_11 rfl (Nat.le_of_ble_eq_true rfl) rfl rfl ?_
        refine s_aload_n 13 dX12_afterLine_12 rfl rfl ?_
        refine s_getI 16 dX12_afterLine_13 rfl fl_X12_119 (fun _ _ _ _ => rfl) sh_138 (Nat.le_of_ble_eq_true rfl) (fun r_13 => ?_)
        rw [q4.ok]
        refine s_if_eq 20 19 dX12_afterLine_16 rfl rfl (by first | omega | exact bI_r _ | exact iI_r _) (fun h_16 => ?_) (fun h_16 => by exfalso; omega)
        refine s_iload_n 21 dX12_afterLine_20 rfl rfl ?_
        refine s_iload_n 22 dX12_afterLine_21 rfl rfl ?_
        refine s_icmp_ne 34 25 dX12_afterLine_22 rfl rfl (by first | omega | exact bI_r _ | exact iI_r _) (by first | omega | exact bI_r _ | exact iI_r _) (fun h_22 => ?_) (fun h_22 => by exfalso; omega)
        refine s_aload_n 35 dX12_afterLine_34 rfl rfl ?_
        refine s_getI 38 dX12_afterLine_35 rfl fl_X12_119 (fun _ _ _ _ => rfl) sh_138 (Nat.le_of_ble_eq_true rfl) (fun r_35 => ?_)
        rw [q4.ok]
        refine s_if_ne 60 41 dX12_afterLine_38 rfl rfl (by first | omega | exact bI_r _ | exact iI_r _) (fun h_38 => by exfalso; omega) (fun h_38 => ?_)
        refine s_aload_n 42 dX12_afterLine_41 rfl rfl ?_
        refine s_iload_n 43 dX12_afterLine_42 rfl rfl ?_
        refine s_iload_n 44 dX12_afterLine_43 rfl rfl ?_
        refine s_callV0 (M' := M_X12_comesBefore) (as := [_, _]) 47 dX12_afterLine_44 rfl cw_X12_274 rfl rfl sh_138 rfl (by decide) (Nat.le_of_ble_eq_true rfl) (Nat.le_of_ble_eq_true rfl) (Nat.le_of_ble_eq_true rfl) (Nat.le_of_ble_eq_true rfl) ⟨rfl, rfl, rfl⟩ ?_
        refine c_X12_comesBefore hT q4.2.2.1 hr b6 b5 ?_
        refine s_ifb_eq 60 50 dX12_afterLine_47 rfl rfl (fun h_47 => ?_) (fun h_47 => by exfalso; exact absurd h_47 k2)
        refine s_aload_n 61 dX12_afterLine_60 rfl rfl ?_
        refine s_getI 64 dX12_afterLine_61 rfl fl_X12_119 (fun _ _ _ _ => rfl) sh_138 (Nat.le_of_ble_eq_true rfl) (fun r_61 => ?_)
        rw [q4.ok]
        refine s_if_eq 68 67 dX12_afterLine_64 rfl rfl (by first | omega | exact bI_r _ | exact iI_r _) (fun h_64 => ?_) (fun h_64 => by exfalso; omega)
        refine s_aload_n 69 dX12_afterLine_68 rfl rfl ?_
        refine s_callV0 (M' := M_X12_next) (as := []) 72 dX12_afterLine_69 rfl cw_X12_140 rfl rfl sh_138 rfl (by decide) (Nat.le_of_ble_eq_true rfl) (Nat.le_of_ble_eq_true rfl) (Nat.le_of_ble_eq_true rfl) (Nat.le_of_ble_eq_true rfl) ⟨rfl, rfl, rfl⟩ ?_
        refine c_X12_next2 hT hn hb q4 (fun I3 q5 q6 => ?_)
        refine s_aload_n 73 dX12_afterLine_72 rfl rfl ?_
        refine s_getR 76 dX12_afterLine_73 rfl fl_X12_23 (fun _ _ _ _ => rfl) (T_X12_fresh hT) sh_138 (Nat.le_of_ble_eq_true rfl) ?_
        refine s_bipush 78 dX12_afterLine_76 rfl (by decide) ?_
        refine s_iload_n 79 dX12_afterLine_78 rfl rfl ?_
        refine s_iadd 80 dX12_afterLine_79 rfl ?_
        refine s_dup2 81 dX12_afterLine_80 rfl rfl rfl ?_
        refine s_iald 82 dX12_afterLine_81 rfl sh_142 (Nat.le_of_ble_eq_true rfl) (by omega) (by omega) (fun r_81 => ?_)
        rw [q6.2.2.1] at r_81 ⊢
        refine s_iconst 83 dX12_afterLine_82 rfl ?_
        refine s_iload_n 84 dX12_afterLine_83 rfl rfl ?_
        refine s_ishl 85 dX12_afterLine_84 rfl ?_
        refine s_ior 86 dX12_afterLine_85 rfl ?_
        refine s_iast 87 dX12_afterLine_86 rfl sh_142 (Nat.le_of_ble_eq_true rfl) (by omega) (by omega) (by first | omega | exact ior_r _ _) ?_
        have q6 := q6.ps (k := 49 + afW bt n r o) (v := ior (r (49 + afW bt n r o)) (ishl 1 (afV bt n r o)))
        refine s_aload_n 88 dX12_afterLine_87 rfl rfl ?_
        refine s_getR 91 dX12_afterLine_88 rfl fl_X12_23 (fun _ _ _ _ => rfl) (T_X12_fresh hT) sh_138 (Nat.le_of_ble_eq_true rfl) ?_
        refine s_bipush 93 dX12_afterLine_91 rfl (by decide) ?_
        refine s_dup2 94 dX12_afterLine_93 rfl rfl rfl ?_
        refine s_iald 95 dX12_afterLine_94 rfl sh_142 (Nat.le_of_ble_eq_true rfl) (by omega) (by omega) (fun r_94 => ?_)
        rw [q6.2.2.1] at r_94 ⊢
        rw [g6] at r_94 ⊢
        refine s_iconst 96 dX12_afterLine_95 rfl ?_
        refine s_iadd 97 dX12_afterLine_96 rfl ?_
        refine s_iast 98 dX12_afterLine_97 rfl sh_142 (Nat.le_of_ble_eq_true rfl) (by omega) (by omega) (by first | omega | exact bI_r _ | exact iI_r _) ?_
        refine s_vret dX12_afterLine_98 rfl rfl ?_
        exact h _ _ ((((q1.tr q3).tr q5).ar).ar) (q6.ps (k := 6) (v := r 6 + 1)) (fun _ => rfl)
set_option maxHeartbeats 4000000 in
theorem c_X12_sawLine {E : ET} {I : MI} {L : ML} {R : MR} {Q : Option AV → MI → ML → MR → Prop} {bt r : F1} {n : Int} {o : PO} (hT : Topo R) (hn : 0 ≤ n ∧ n ≤ 900) (hb : ∀ k, 0 ≤ k → k < n → 0 ≤ bt k ∧ bt k ≤ 255) (h8 : 0 ≤ r 8 ∧ r 8 ≤ 7) (hS : RSt I bt n r o) (h : ∀ I' r', RFr I I' → RSt I' bt n r' (swO bt n r o) → (¬ isE (swO bt n r o) → r' = swR bt n r o) → Q none I' L R) : CT E M_X12_sawLine 161 yX12_sawLine [(vr (138))] I L R Q := by
  refine CT_of rfl rfl (fun h => by cases h) (Nat.le_of_ble_eq_true rfl) (fun X => ?_)
  show V X _ z0 0 [some (vr (138)), none] [] I L R _
  have er := hS.2.2.1
  have b1 := naV_b bt n r True o
  have b2 := nuV_b bt n (lo := 0) (hi := 999) (by decide) (swA bt n r o)
  have b3 := siV_b bt n (swB bt n r o)
  have g8 : ∀ v1 v2 v3, sr (sr (sr r (152 + 3 * r 8) v1) (152 + 3 * r 8 + 1) v2) (152 + 3 * r 8 + 2) v3 8 = r 8 := fun v1 v2 v3 => by
    rw [sr_n (by omega), sr_n (by omega), sr_n (by omega)]
  refine s_sipush 3 dX12_sawLine_0 rfl (by decide) ?_
  refine s_iconst 4 dX12_sawLine_3 rfl ?_
  refine s_aload_n 5 dX12_sawLine_4 rfl rfl ?_
  refine s_getR 8 dX12_sawLine_5 rfl fl_X12_23 (fun _ _ _ _ => rfl) (T_X12_fresh hT) sh_138 (Nat.le_of_ble_eq_true rfl) ?_
  refine s_bipush 10 dX12_sawLine_8 rfl (by decide) ?_
  refine s_iald 11 dX12_sawLine_10 rfl sh_142 (Nat.le_of_ble_eq_true rfl) (by omega) (by omega) (fun r_10 => ?_)
  rw [er] at r_10 ⊢
  refine s_imul 12 dX12_sawLine_11 rfl ?_
  refine s_iadd 13 dX12_sawLine_12 rfl ?_
  refine s_istore_n (ls' := [_, _]) 14 dX12_sawLine_13 rfl (Nat.le_of_ble_eq_true rfl) rfl rfl ?_
  refine s_aload_n 15 dX12_sawLine_14 rfl rfl ?_
  refine s_getR 18 dX12_sawLine_15 rfl fl_X12_23 (fun _ _ _ _ => rfl) (T_X12_fresh hT) sh_138 (Nat.le_of_ble_eq_true rfl) ?_
  refine s_iload_n 19 dX12_sawLine_18 rfl rfl ?_
  refine s_aload_n 20 dX12_sawLine_19 rfl rfl ?_
  refine s_iconst 21 dX12_sawLine_20 rfl ?_
  refine s_callV0 (M' := M_X12_passed) (as := [_]) 24 dX12_sawLine_21 rfl cw_X12_271 rfl rfl sh_138 rfl (by decide) (Nat.le_of_ble_eq_true rfl) (Nat.le_of_ble_eq_true rfl) (Nat.le_of_ble_eq_true rfl) (Nat.le_of_ble_eq_true rfl) ⟨rfl, rfl, rfl⟩ ?_
  refine c_X12_passed2 (B := True) (o1 := swA bt n r o) hT hn hb hS rfl rfl (bI_t trivial) (fun I1 q1 q2 => ?_)
  refine s_iast 25 dX12_sawLine_24 rfl sh_142 (Nat.le_of_ble_eq_true rfl) (by omega) (by omega) (by first | omega | exact bI_r _ | exact iI_r _) ?_
  have q2 := q2.ps (k := 152 + 3 * r 8) (v := naV bt n r True o)
  refine s_aload_n 26 dX12_sawLine_25 rfl rfl ?_
  refine s_getR 29 dX12_sawLine_26 rfl fl_X12_23 (fun _ _ _ _ => rfl) (T_X12_fresh hT) sh_138 (Nat.le_of_ble_eq_true rfl) ?_
  refine s_iload_n 30 dX12_sawLine_29 rfl rfl ?_
  refine s_iconst 31 dX12_sawLine_30 rfl ?_
  refine s_iadd 32 dX12_sawLine_31 rfl ?_
  refine s_aload_n 33 dX12_sawLine_32 rfl rfl ?_
  refine s_iconst 34 dX12_sawLine_33 rfl ?_
  refine s_sipush 37 dX12_sawLine_34 rfl (by decide) ?_
  refine s_callV0 (M' := M_X12_number) (as := [_, _]) 40 dX12_sawLine_37 rfl cw_X12_182 rfl rfl sh_138 rfl (by decide) (Nat.le_of_ble_eq_true rfl) (Nat.le_of_ble_eq_true rfl) (Nat.le_of_ble_eq_true rfl) (Nat.le_of_ble_eq_true rfl) ⟨rfl, rfl, rfl⟩ ?_
  refine c_X12_number2 (o2 := swB bt n r o) hT hn hb (by decide) (by decide) q2 rfl rfl (fun I2 q3 q4 => ?_)
  refine s_iast 41 dX12_sawLine_40 rfl sh_142 (Nat.le_of_ble_eq_true rfl) (by omega) (by omega) (by first | omega | exact bI_r _ | exact iI_r _) ?_
  have q4 := q4.ps (k := 152 + 3 * r 8 + 1) (v := nuV bt n 0 999 (swA bt n r o))
  refine s_aload_n 42 dX12_sawLine_41 rfl rfl ?_
  refine s_getR 45 dX12_sawLine_42 rfl fl_X12_23 (fun _ _ _ _ => rfl) (T_X12_fresh hT) sh_138 (Nat.le_of_ble_eq_true rfl) ?_
  refine s_iload_n 46 dX12_sawLine_45 rfl rfl ?_
  refine s_iconst 47 dX12_sawLine_46 rfl ?_
  refine s_iadd 48 dX12_sawLine_47 rfl ?_
  refine s_aload_n 49 dX12_sawLine_48 rfl rfl ?_
  refine s_callV0 (M' := M_X12_side) (as := []) 52 dX12_sawLine_49 rfl cw_X12_283 rfl rfl sh_138 rfl (by decide) (Nat.le_of_ble_eq_true rfl) (Nat.le_of_ble_eq_true rfl) (Nat.le_of_ble_eq_true rfl) (Nat.le_of_ble_eq_true rfl) ⟨rfl, rfl, rfl⟩ ?_
  refine c_X12_side2 (o1 := swO bt n r o) hT hn hb q4 rfl rfl (fun I3 q5 q6 => ?_)
  refine s_iast 53 dX12_sawLine_52 rfl sh_142 (Nat.le_of_ble_eq_true rfl) (by omega) (by omega) (by first | omega | exact bI_r _ | exact iI_r _) ?_
  have q6 := q6.ps (k := 152 + 3 * r 8 + 2) (v := siV bt n (swB bt n r o))
  have q7 := ((((q1.ar (k := 152 + 3 * r 8) (v := naV bt n r True o)).tr q3).ar (k := 152 + 3 * r 8 + 1) (v := nuV bt n 0 999 (swA bt n r o))).tr q5).ar (k := 152 + 3 * r 8 + 2) (v := siV bt n (swB bt n r o))
  refine s_aload_n 54 dX12_sawLine_53 rfl rfl ?_
  refine s_getI 57 dX12_sawLine_54 rfl fl_X12_119 (fun _ _ _ _ => rfl) sh_138 (Nat.le_of_ble_eq_true rfl) (fun r_54 => ?_)
  rw [q6.fl]
  refine s_ifb_ne 71 60 dX12_sawLine_57 rfl rfl (fun h_57 => ?_) (fun h_57 => ?_)
  · skip
    refine s_vret dX12_sawLine_71 rfl rfl ?_
    first | exact h _ _ q7 q6 (fun z => absurd (by assumption) z) | exact h _ _ q7.ar (q6.ps (k := 8) (v := r 8 + 1)) (fun _ => rfl)
  refine s_aload_n 61 dX12_sawLine_60 rfl rfl ?_
  refine s_getR 64 dX12_sawLine_61 rfl fl_X12_23 (fun _ _ _ _ => rfl) (T_X12_fresh hT) sh_138 (Nat.le_of_ble_eq_true rfl) ?_
  refine s_bipush 66 dX12_sawLine_64 rfl (by decide) ?_
  refine s_dup2 67 dX12_sawLine_66 rfl rfl rfl ?_
  refine s_iald 68 dX12_sawLine_67 rfl sh_142 (Nat.le_of_ble_eq_true rfl) (by omega) (by omega) (fun r_67 => ?_)
  rw [q6.2.2.1] at r_67 ⊢
  rw [g8]
  refine s_iconst 69 dX12_sawLine_68 rfl ?_
  refine s_iadd 70 dX12_sawLine_69 rfl ?_
  refine s_iast 71 dX12_sawLine_70 rfl sh_142 (Nat.le_of_ble_eq_true rfl) (by omega) (by omega) (by first | omega | exact bI_r _ | exact iI_r _) ?_
  refine s_vret dX12_sawLine_71 rfl rfl ?_
  first | exact h _ _ q7 q6 (fun z => absurd (by assumption) z) | exact h _ _ q7.ar (q6.ps (k := 8) (v := r 8 + 1)) (fun _ => rfl)
set_option maxHeartbeats 4000000 in
theorem c_X12_onLine {E : ET} {I : MI} {L : ML} {R : MR} {Q : Option AV → MI → ML → MR → Prop} {bt r : F1} {n : Int} {o : PO} (hT : Topo R) (hn : 0 ≤ n ∧ n ≤ 900) (hb : ∀ k, 0 ≤ k → k < n → 0 ≤ bt k ∧ bt k ≤ 255) (h7 : 0 ≤ r 7 ∧ r 7 ≤ 14) (h13 : ¬ isE o → r 7 ≤ 13) (hL : 1 ≤ onL bt n r o ∧ onL bt n r o ≤ 500) (hS : RSt I bt n r o) (h : ∀ I' r', RFr I I' → RSt I' bt n r' (onO bt n r o) → (¬ isE (onO bt n r o) → r' = onR bt n r o) → Q none I' L R) : CT E M_X12_onLine 161 yX12_onLine [(vr (138))] I L R Q := by
  refine CT_of rfl rfl (fun h => by cases h) (Nat.le_of_ble_eq_true rfl) (fun X => ?_)
  show V X _ z0 0 [some (vr (138)), none, none, none, none, none, none, none, none] [] I L R _
  have er := hS.2.2.1
  have b1 := naV_b bt n r True o
  have b2 := naV_b bt n r False (onA bt n r o)
  have b3 := nuV_b bt n (lo := 0) (hi := onL bt n r o - 1) (by omega) (onB bt n r o)
  have b3 : 0 ≤ onF9 bt n r o ∧ onF9 bt n r o ≤ onL bt n r o - 1 := b3
  have b4 := nuV_b bt n (lo := onF9 bt n r o + 1) (hi := onL bt n r o) (by omega) (onD bt n r o)
  have b4 : onF9 bt n r o + 1 ≤ onT bt n r o ∧ onT bt n r o ≤ onL bt n r o := b4
  have b5 := siV_b bt n (onE bt n r o)
  have b6 := siV_b bt n (onG bt n r o)
  have b7 : 0 ≤ onS bt n r o ∧ onS bt n r o ≤ 4 := ⟨b2.1, b2.2.2 id⟩
  have mid : ∀ I2, RFr I I2 → RSt I2 bt n r (onB bt n r o) → V X M_X12_onLine z0 46 [some (vr (138)), some (vi (54 + 7 * r 7)), some (vi (naV bt n r True o)), some (vi (onS bt n r o)), none, none, none, none, none] [(vi (onL bt n r o))] (I2) L R (RT X M_X12_onLine Q) := by
    intro I2 q3 q4
    have tailE : ∀ I3, isE (onH bt n r o) → RFr I I3 → RSt I3 bt n r (onH bt n r o) → Q none I3 L R := by
      intro I3 z q5 q6
      obtain ⟨q, hq⟩ := isE_t z
      have eO : onO bt n r o = .inl q := by unfold onO; rw [hq]; rfl
      rw [hq] at q6
      rw [eO] at h
      exact h I3 _ q5 q6 (fun y => absurd trivial y)
    have body : ∀ I7, RFr I I7 → RSt I7 bt n r (onH bt n r o) → ¬ isE (onH bt n r o) → V X M_X12_onLine z0 98 [some (vr 138), some (vi (54 + 7 * r 7)), some (vi (naV bt n r True o)), some (vi (onS bt n r o)), some (vi (onL bt n r o)), some (vi (onF9 bt n r o)), some (vi (onT bt n r o)), some (vi (siV bt n (onE bt n r o))), some (vi (siV bt n (onG bt n r o)))] [] I7 L R (RT X M_X12_onLine Q) := by
      intro I7 q15 q14 hne
      have e13 : r 7 ≤ 13 := h13 (fun z => by
        obtain ⟨q, hq⟩ := isE_t z
        refine hne ?_
        unfold onH onG onE onD onB onA
        rw [hq]
        exact trivial)
      have q16 := ((((((q14.ps (k := 54 + 7 * r 7 + 0) (v := naV bt n r True o)).ps (k := 54 + 7 * r 7 + 1) (v := onS bt n r o)).ps (k := 54 + 7 * r 7 + 2) (v := onF9 bt n r o)).ps (k := 54 + 7 * r 7 + 3) (v := onT bt n r o)).ps (k := 54 + 7 * r 7 + 4) (v := siV bt n (onE bt n r o))).ps (k := 54 + 7 * r 7 + 5) (v := siV bt n (onG bt n r o)))
      have q17 := ((((((q15.ar (k := 54 + 7 * r 7 + 0) (v := naV bt n r True o)).ar (k := 54 + 7 * r 7 + 1) (v := onS bt n r o)).ar (k := 54 + 7 * r 7 + 2) (v := onF9 bt n r o)).ar (k := 54 + 7 * r 7 + 3) (v := onT bt n r o)).ar (k := 54 + 7 * r 7 + 4) (v := siV bt n (onE bt n r o))).ar (k := 54 + 7 * r 7 + 5) (v := siV bt n (onG bt n r o)))
      have e7 : ∀ v1 v2 v3 v4 v5 v6 v7, sr (sr (sr (sr (sr (sr (sr r (54 + 7 * r 7 + 0) v1) (54 + 7 * r 7 + 1) v2) (54 + 7 * r 7 + 2) v3) (54 + 7 * r 7 + 3) v4) (54 + 7 * r 7 + 4) v5) (54 + 7 * r 7 + 5) v6) (54 + 7 * r 7 + 6) v7 7 = r 7 := by
        intro v1 v2 v3 v4 v5 v6 v7
        rw [sr_n (by omega), sr_n (by omega), sr_n (by omega), sr_n (by omega), sr_n (by omega), sr_n (by omega), sr_n (by omega)]
      have last : ∀ I8, RFr I I8 → RSt I8 bt n (sr (sr (sr (sr (sr (sr r (54 + 7 * r 7 + 0) (naV bt n r True o)) (54 + 7 * r 7 + 1) (onS bt n r o)) (54 + 7 * r 7 + 2) (onF9 bt n r o)) (54 + 7 * r 7 + 3) (onT bt n r o)) (54 + 7 * r 7 + 4) (siV bt n (onE bt n r o))) (54 + 7 * r 7 + 5) (siV bt n (onG bt n r o))) (onO bt n r o) → V X M_X12_onLine z0 178 [some (vr 138), some (vi (54 + 7 * r 7)), some (vi (naV bt n r True o)), some (vi (onS bt n r o)), some (vi (onL bt n r o)), some (vi (onF9 bt n r o)), some (vi (onT bt n r o)), some (vi (siV bt n (onE bt n r o))), some (vi (siV bt n (onG bt n r o)))] [vi (onQ bt n r o), vi (54 + 7 * r 7 + 6), vr 142] I8 L R (RT X M_X12_onLine Q) := by
        intro I8 q1 q2
        have bq : 0 ≤ onQ bt n r o ∧ onQ bt n r o ≤ 1 := bI_b _
        have q3 := q2.ps (k := 54 + 7 * r 7 + 6) (v := onQ bt n r o)
        refine s_iast 179 dX12_onLine_178 rfl sh_142 (Nat.le_of_ble_eq_true rfl) (by omega) (by omega) (by first | omega | exact bI_r _ | exact iI_r _) ?_
        refine s_aload_n 180 dX12_onLine_179 rfl rfl ?_
        refine s_getR 183 dX12_onLine_180 rfl fl_X12_23 (fun _ _ _ _ => rfl) (T_X12_fresh hT) sh_138 (Nat.le_of_ble_eq_true rfl) ?_
        refine s_bipush 185 dX12_onLine_183 rfl (by decide) ?_
        refine s_dup2 186 dX12_onLine_185 rfl rfl rfl ?_
        refine s_iald 187 dX12_onLine_186 rfl sh_142 (Nat.le_of_ble_eq_true rfl) (by omega) (by omega) (fun r_186 => ?_)
        rw [q3.2.2.1] at r_186 ⊢
        rw [e7]
        refine s_iconst 188 dX12_onLine_187 rfl ?_
        refine s_iadd 189 dX12_onLine_188 rfl ?_
        refine s_iast 190 dX12_onLine_189 rfl sh_142 (Nat.le_of_ble_eq_true rfl) (by omega) (by omega) (by first | omega | exact bI_r _ | exact iI_r _) ?_
        refine s_vret dX12_onLine_190 rfl rfl ?_
        exact h _ _ q1.ar.ar (q3.ps (k := 7) (v := r 7 + 1)) (fun _ => rfl)
      refine s_aload_n 99 dX12_onLine_98 rfl rfl ?_
      refine s_getR 102 dX12_onLine_99 rfl fl_X12_23 (fun _ _ _ _ => rfl) (T_X12_fresh hT) sh_138 (Nat.le_of_ble_eq_true rfl) ?_
      refine s_iload_n 103 dX12_onLine_102 rfl rfl ?_
      refine s_iconst 104 dX12_onLine_103 rfl ?_
      refine s_iadd 105 dX12_onLine_104 rfl ?_
      refine s_iload_n 106 dX12_onLine_105 rfl rfl ?_
      refine s_iast 107 dX12_onLine_106 rfl sh_142 (Nat.le_of_ble_eq_true rfl) (by omega) (by omega) (by first | omega | exact bI_r _ | exact iI_r _) ?_
      refine s_aload_n 108 dX12_onLine_107 rfl rfl ?_
      refine s_getR 111 dX12_onLine_108 rfl fl_X12_23 (fun _ _ _ _ => rfl) (T_X12_fresh hT) sh_138 (Nat.le_of_ble_eq_true rfl) ?_
      refine s_iload_n 112 dX12_onLine_111 rfl rfl ?_
      refine s_iconst 113 dX12_onLine_112 rfl ?_
      refine s_iadd 114 dX12_onLine_113 rfl ?_
      refine s_iload_n 115 dX12_onLine_114 rfl rfl ?_
      refine s_iast 116 dX12_onLine_115 rfl sh_142 (Nat.le_of_ble_eq_true rfl) (by omega) (by omega) (by first | omega | exact bI_r _ | exact iI_r _) ?_
      refine s_aload_n 117 dX12_onLine_116 rfl rfl ?_
      refine s_getR 120 dX12_onLine_117 rfl fl_X12_23 (fun _ _ _ _ => rfl) (T_X12_fresh hT) sh_138 (Nat.le_of_ble_eq_true rfl) ?_
      refine s_iload_n 121 dX12_onLine_120 rfl rfl ?_
      refine s_iconst 122 dX12_onLine_121 rfl ?_
      refine s_iadd 123 dX12_onLine_122 rfl ?_
      refine s_iload 125 dX12_onLine_123 rfl rfl ?_
      refine s_iast 126 dX12_onLine_125 rfl sh_142 (Nat.le_of_ble_eq_true rfl) (by omega) (by omega) (by first | omega | exact bI_r _ | exact iI_r _) ?_
      refine s_aload_n 127 dX12_onLine_126 rfl rfl ?_
      refine s_getR 130 dX12_onLine_127 rfl fl_X12_23 (fun _ _ _ _ => rfl) (T_X12_fresh hT) sh_138 (Nat.le_of_ble_eq_true rfl) ?_
      refine s_iload_n 131 dX12_onLine_130 rfl rfl ?_
      refine s_iconst 132 dX12_onLine_131 rfl ?_
      refine s_iadd 133 dX12_onLine_132 rfl ?_
      refine s_iload 135 dX12_onLine_133 rfl rfl ?_
      refine s_iast 136 dX12_onLine_135 rfl sh_142 (Nat.le_of_ble_eq_true rfl) (by omega) (by omega) (by first | omega | exact bI_r _ | exact iI_r _) ?_
      refine s_aload_n 137 dX12_onLine_136 rfl rfl ?_
      refine s_getR 140 dX12_onLine_137 rfl fl_X12_23 (fun _ _ _ _ => rfl) (T_X12_fresh hT) sh_138 (Nat.le_of_ble_eq_true rfl) ?_
      refine s_iload_n 141 dX12_onLine_140 rfl rfl ?_
      refine s_iconst 142 dX12_onLine_141 rfl ?_
      refine s_iadd 143 dX12_onLine_142 rfl ?_
      refine s_iload 145 dX12_onLine_143 rfl rfl ?_
      refine s_iast 146 dX12_onLine_145 rfl sh_142 (Nat.le_of_ble_eq_true rfl) (by omega) (by omega) (by first | omega | exact bI_r _ | exact iI_r _) ?_
      refine s_aload_n 147 dX12_onLine_146 rfl rfl ?_
      refine s_getR 150 dX12_onLine_147 rfl fl_X12_23 (fun _ _ _ _ => rfl) (T_X12_fresh hT) sh_138 (Nat.le_of_ble_eq_true rfl) ?_
      refine s_iload_n 151 dX12_onLine_150 rfl rfl ?_
      refine s_iconst 152 dX12_onLine_151 rfl ?_
      refine s_iadd 153 dX12_onLine_152 rfl ?_
      refine s_iload 155 dX12_onLine_153 rfl rfl ?_
      refine s_iast 156 dX12_onLine_155 rfl sh_142 (Nat.le_of_ble_eq_true rfl) (by omega) (by omega) (by first | omega | exact bI_r _ | exact iI_r _) ?_
      refine s_aload_n 157 dX12_onLine_156 rfl rfl ?_
      refine s_getR 160 dX12_onLine_157 rfl fl_X12_23 (fun _ _ _ _ => rfl) (T_X12_fresh hT) sh_138 (Nat.le_of_ble_eq_true rfl) ?_
      refine s_iload_n 161 dX12_onLine_160 rfl rfl ?_
      refine s_bipush 163 dX12_onLine_161 rfl (by decide) ?_
      refine s_iadd 164 dX12_onLine_163 rfl ?_
      refine s_aload_n 165 dX12_onLine_164 rfl rfl ?_
      refine s_ldcS 167 dX12_onLine_165 rfl (ks_X12_162) ?_
      refine s_callV0 (M' := M_X12_takes) (as := [_]) 170 dX12_onLine_167 rfl cw_X12_143 rfl rfl sh_138 rfl (by decide) (Nat.le_of_ble_eq_true rfl) (Nat.le_of_ble_eq_true rfl) (Nat.le_of_ble_eq_true rfl) (Nat.le_of_ble_eq_true rfl) ⟨rfl, rfl, rfl⟩ ?_
      refine c_X12_takes2 (k := 37) (o1 := onO bt n r o) hT hn hb rfl q16 rfl (fun I8 q1 q2 => ?_)
      refine s_ifb_eq 177 173 dX12_onLine_170 rfl rfl (fun h_170 => ?_) (fun h_170 => ?_)
      · skip
        refine s_iconst 178 dX12_onLine_177 rfl ?_
        have l9 := last I8 (q17.tr q1) q2
        first | (have eQ : onQ bt n r o = 1 := bI_t (by assumption); rw [eQ] at l9; exact l9) | (have eQ : onQ bt n r o = 0 := bI_f (by assumption); rw [eQ] at l9; exact l9)
      refine s_iconst 174 dX12_onLine_173 rfl ?_
      refine s_goto 178 dX12_onLine_174 rfl ?_
      have l9 := last I8 (q17.tr q1) q2
      first | (have eQ : onQ bt n r o = 1 := bI_t (by assumption); rw [eQ] at l9; exact l9) | (have eQ : onQ bt n r o = 0 := bI_f (by assumption); rw [eQ] at l9; exact l9)
    refine s_istore (ls' := [_, _, _, _, _, _, _, _, _]) 48 dX12_onLine_46 rfl (Nat.le_of_ble_eq_true rfl) rfl rfl ?_
    refine s_aload_n 49 dX12_onLine_48 rfl rfl ?_
    refine s_iconst 50 dX12_onLine_49 rfl ?_
    refine s_iload 52 dX12_onLine_50 rfl rfl ?_
    refine s_iconst 53 dX12_onLine_52 rfl ?_
    refine s_isub 54 dX12_onLine_53 rfl ?_
    refine s_callV0 (M' := M_X12_number) (as := [_, _]) 57 dX12_onLine_54 rfl cw_X12_182 rfl rfl sh_138 rfl (by decide) (Nat.le_of_ble_eq_true rfl) (Nat.le_of_ble_eq_true rfl) (Nat.le_of_ble_eq_true rfl) (Nat.le_of_ble_eq_true rfl) ⟨rfl, rfl, rfl⟩ ?_
    refine c_X12_number2 (o2 := nuO bt n 0 (onL bt n r o - 1) (onB bt n r o)) (v := onF9 bt n r o) hT hn hb (by omega) (by omega) q4 rfl rfl (fun I3 q5 q6 => ?_)
    refine s_istore (ls' := [_, _, _, _, _, _, _, _, _]) 59 dX12_onLine_57 rfl (Nat.le_of_ble_eq_true rfl) rfl rfl ?_
    refine s_aload_n 60 dX12_onLine_59 rfl rfl ?_
    refine s_ldcSw 63 dX12_onLine_60 rfl (ks_X12_281) ?_
    refine s_callV0 (M' := M_X12_must) (as := [_]) 66 dX12_onLine_63 rfl cw_X12_178 rfl rfl sh_138 rfl (by decide) (Nat.le_of_ble_eq_true rfl) (Nat.le_of_ble_eq_true rfl) (Nat.le_of_ble_eq_true rfl) (Nat.le_of_ble_eq_true rfl) ⟨rfl, rfl, rfl⟩ ?_
    refine c_X12_must2 (k := 46) (o1 := onD bt n r o) hT hn hb rfl q6 rfl (fun I4 q7 q8 => ?_)
    refine s_aload_n 67 dX12_onLine_66 rfl rfl ?_
    refine s_iload 69 dX12_onLine_67 rfl rfl ?_
    refine s_iconst 70 dX12_onLine_69 rfl ?_
    refine s_iadd 71 dX12_onLine_70 rfl ?_
    refine s_iload 73 dX12_onLine_71 rfl rfl ?_
    refine s_callV0 (M' := M_X12_number) (as := [_, _]) 76 dX12_onLine_73 rfl cw_X12_182 rfl rfl sh_138 rfl (by decide) (Nat.le_of_ble_eq_true rfl) (Nat.le_of_ble_eq_true rfl) (Nat.le_of_ble_eq_true rfl) (Nat.le_of_ble_eq_true rfl) ⟨rfl, rfl, rfl⟩ ?_
    refine c_X12_number2 (o2 := onE bt n r o) (v := onT bt n r o) hT hn hb (by omega) (by omega) q8 rfl rfl (fun I5 q9 q10 => ?_)
    refine s_istore (ls' := [_, _, _, _, _, _, _, _, _]) 78 dX12_onLine_76 rfl (Nat.le_of_ble_eq_true rfl) rfl rfl ?_
    refine s_aload_n 79 dX12_onLine_78 rfl rfl ?_
    refine s_callV0 (M' := M_X12_side) (as := []) 82 dX12_onLine_79 rfl cw_X12_283 rfl rfl sh_138 rfl (by decide) (Nat.le_of_ble_eq_true rfl) (Nat.le_of_ble_eq_true rfl) (Nat.le_of_ble_eq_true rfl) (Nat.le_of_ble_eq_true rfl) ⟨rfl, rfl, rfl⟩ ?_
    refine c_X12_side2 (o1 := onG bt n r o) hT hn hb q10 rfl rfl (fun I6 q11 q12 => ?_)
    refine s_istore (ls' := [_, _, _, _, _, _, _, _, _]) 84 dX12_onLine_82 rfl (Nat.le_of_ble_eq_true rfl) rfl rfl ?_
    refine s_aload_n 85 dX12_onLine_84 rfl rfl ?_
    refine s_callV0 (M' := M_X12_side) (as := []) 88 dX12_onLine_85 rfl cw_X12_283 rfl rfl sh_138 rfl (by decide) (Nat.le_of_ble_eq_true rfl) (Nat.le_of_ble_eq_true rfl) (Nat.le_of_ble_eq_true rfl) (Nat.le_of_ble_eq_true rfl) ⟨rfl, rfl, rfl⟩ ?_
    refine c_X12_side2 (o1 := onH bt n r o) hT hn hb q12 rfl rfl (fun I7 q13 q14 => ?_)
    refine s_istore (ls' := [_, _, _, _, _, _, _, _, _]) 90 dX12_onLine_88 rfl (Nat.le_of_ble_eq_true rfl) rfl rfl ?_
    refine s_aload_n 91 dX12_onLine_90 rfl rfl ?_
    refine s_getI 94 dX12_onLine_91 rfl fl_X12_119 (fun _ _ _ _ => rfl) sh_138 (Nat.le_of_ble_eq_true rfl) (fun r_91 => ?_)
    rw [q14.fl]
    have q15 := ((((q3.tr q5).tr q7).tr q9).tr q11).tr q13
    refine s_ifb_eq 98 97 dX12_onLine_94 rfl rfl (fun h_94 => ?_) (fun h_94 => ?_)
    · skip
      exact body I7 q15 q14 (by assumption)
    refine s_vret dX12_onLine_97 rfl rfl ?_
    exact tailE I7 (by assumption) q15 q14
  refine s_bipush 2 dX12_onLine_0 rfl (by decide) ?_
  refine s_bipush 4 dX12_onLine_2 rfl (by decide) ?_
  refine s_aload_n 5 dX12_onLine_4 rfl rfl ?_
  refine s_getR 8 dX12_onLine_5 rfl fl_X12_23 (fun _ _ _ _ => rfl) (T_X12_fresh hT) sh_138 (Nat.le_of_ble_eq_true rfl) ?_
  refine s_bipush 10 dX12_onLine_8 rfl (by decide) ?_
  refine s_iald 11 dX12_onLine_10 rfl sh_142 (Nat.le_of_ble_eq_true rfl) (by omega) (by omega) (fun r_10 => ?_)
  rw [er] at r_10 ⊢
  refine s_imul 12 dX12_onLine_11 rfl ?_
  refine s_iadd 13 dX12_onLine_12 rfl ?_
  refine s_istore_n (ls' := [_, _, _, _, _, _, _, _, _]) 14 dX12_onLine_13 rfl (Nat.le_of_ble_eq_true rfl) rfl rfl ?_
  refine s_aload_n 15 dX12_onLine_14 rfl rfl ?_
  refine s_iconst 16 dX12_onLine_15 rfl ?_
  refine s_callV0 (M' := M_X12_passed) (as := [_]) 19 dX12_onLine_16 rfl cw_X12_271 rfl rfl sh_138 rfl (by decide) (Nat.le_of_ble_eq_true rfl) (Nat.le_of_ble_eq_true rfl) (Nat.le_of_ble_eq_true rfl) (Nat.le_of_ble_eq_true rfl) ⟨rfl, rfl, rfl⟩ ?_
  refine c_X12_passed2 (B := True) (o1 := onA bt n r o) hT hn hb hS rfl rfl (bI_t trivial) (fun I1 q1 q2 => ?_)
  refine s_istore_n (ls' := [_, _, _, _, _, _, _, _, _]) 20 dX12_onLine_19 rfl (Nat.le_of_ble_eq_true rfl) rfl rfl ?_
  refine s_aload_n 21 dX12_onLine_20 rfl rfl ?_
  refine s_iconst 22 dX12_onLine_21 rfl ?_
  refine s_callV0 (M' := M_X12_passed) (as := [_]) 25 dX12_onLine_22 rfl cw_X12_271 rfl rfl sh_138 rfl (by decide) (Nat.le_of_ble_eq_true rfl) (Nat.le_of_ble_eq_true rfl) (Nat.le_of_ble_eq_true rfl) (Nat.le_of_ble_eq_true rfl) ⟨rfl, rfl, rfl⟩ ?_
  refine c_X12_passed2 (B := False) (o1 := onB bt n r o) (v := onS bt n r o) hT hn hb q2 rfl rfl (bI_f id) (fun I2 q3 q4 => ?_)
  refine s_istore_n (ls' := [_, _, _, _, _, _, _, _, _]) 26 dX12_onLine_25 rfl (Nat.le_of_ble_eq_true rfl) rfl rfl ?_
  refine s_aload_n 27 dX12_onLine_26 rfl rfl ?_
  refine s_getI 30 dX12_onLine_27 rfl fl_X12_119 (fun _ _ _ _ => rfl) sh_138 (Nat.le_of_ble_eq_true rfl) (fun r_27 => ?_)
  rw [q4.fl]
  refine s_ifb_eq 37 33 dX12_onLine_30 rfl rfl (fun h_30 => ?_) (fun h_30 => ?_)
  · skip
    refine s_aload_n 38 dX12_onLine_37 rfl rfl ?_
    refine s_getR 41 dX12_onLine_38 rfl fl_X12_23 (fun _ _ _ _ => rfl) (T_X12_fresh hT) sh_138 (Nat.le_of_ble_eq_true rfl) ?_
    refine s_bipush 43 dX12_onLine_41 rfl (by decide) ?_
    refine s_iload_n 44 dX12_onLine_43 rfl rfl ?_
    refine s_iadd 45 dX12_onLine_44 rfl ?_
    refine s_iald 46 dX12_onLine_45 rfl sh_142 (Nat.le_of_ble_eq_true rfl) (by omega) (by omega) (fun r_45 => ?_)
    rw [q4.2.2.1] at r_45 ⊢
    have m9 := mid I2 (q1.tr q3) q4
    first | (have eL : onL bt n r o = 1 := pick_t (by assumption); rw [eL] at m9; exact m9) | (have eL : onL bt n r o = r (44 + onS bt n r o) := pick_f (by assumption); rw [eL] at m9; exact m9)
  refine s_iconst 34 dX12_onLine_33 rfl ?_
  refine s_goto 46 dX12_onLine_34 rfl ?_
  have m9 := mid I2 (q1.tr q3) q4
  first | (have eL : onL bt n r o = 1 := pick_t (by assumption); rw [eL] at m9; exact m9) | (have eL : onL bt n r o = r (44 + onS bt n r o) := pick_f (by assumption); rw [eL] at m9; exact m9)
