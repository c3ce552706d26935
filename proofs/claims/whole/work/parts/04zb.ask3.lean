/-! cuts, ready, part, on, size and their like, by the reference -/
theorem CutV.uq {r : F1} {rd g : Int} {s : F1} {v w : Int} (h : CutV r rd g s v) (h' : CutV r rd g s w) : v = w := by
  rcases h with ⟨a, b⟩ | ⟨a, b, c, d, e, f⟩ <;> rcases h' with ⟨a', b'⟩ | ⟨a', b', c', d', e', f'⟩
  · omega
  · exact absurd e' (b _ a' b' c' d')
  · exact absurd e (b' _ a b c d)
  · have := f _ a' b' c' e'
    have := f' _ a b c e
    omega
noncomputable def cutF (r : F1) (rd g : Int) (s : F1) : Int := Classical.epsilon (CutV r rd g s)
theorem CutV.v {r : F1} {rd g : Int} {s : F1} {v : Int} (h : CutV r rd g s v) : cutF r rd g s = v := (Classical.epsilon_spec (p := CutV r rd g s) ⟨v, h⟩).uq h
set_option maxHeartbeats 4000000 in
theorem c_X12_cuts {E : ET} {I : MI} {L : ML} {R : MR} {Q : Option AV → MI → ML → MR → Prop} {r s : F1} {a : List Int} {HP : Prop} (hT : Topo R) (er : I 141 = r) (es : I 143 = s) (erd : I 138 30 = -1) (ehp : I 138 14 = bI HP) (hr : HP → SOk r s a) (h : ∀ I', Eqo MS (gd I (pick HP 0 1)) I' → Q (some (vi (pick HP (if cutF r (-1) (r 2) s = -2 then -2 else bits (cutF r (-1) (r 2) s)) (-1)))) I' L R) : CT E M_X12_cuts 161 yX12_cuts [(vr (138))] I L R Q := by
  refine CT_of rfl rfl (fun h => by cases h) (Nat.le_of_ble_eq_true rfl) (fun X => ?_)
  show V X _ z0 0 [some (vr (138)), none] [] I L R _
  have hno := (pick_spl h).1
  have hye := (pick_spl h).2
  have er1 : up (up I 138 0 0) 138 11 0 141 = r := (gd_n (by decide)).trans er
  have es1 : up (up I 138 0 0) 138 11 0 143 = s := (gd_n (by decide)).trans es
  have erd1 : up (up I 138 0 0) 138 11 0 138 30 = -1 := (gd_f (by decide)).trans erd
  have ehp1 : up (up I 138 0 0) 138 11 0 138 14 = bI HP := (gd_f (by decide)).trans ehp
  have hr1 : HP → WFr r := fun z => (hr z).1
  refine s_aload_n 1 dX12_cuts_0 rfl rfl ?_
  refine s_callV0 (M' := M_X12_good) (as := []) 4 dX12_cuts_1 rfl cw_X12_190 rfl rfl sh_138 rfl (by decide) (Nat.le_of_ble_eq_true rfl) (Nat.le_of_ble_eq_true rfl) (Nat.le_of_ble_eq_true rfl) (Nat.le_of_ble_eq_true rfl) ⟨rfl, rfl, rfl⟩ ?_
  refine c_X12_good ?_
  refine s_aload_n 5 dX12_cuts_4 rfl rfl ?_
  refine s_getI 8 dX12_cuts_5 rfl fl_X12_203 (fun _ _ _ _ => rfl) sh_138 (Nat.le_of_ble_eq_true rfl) (fun r_5 => ?_)
  rw [ehp1]
  refine s_ifb_ne 17 11 dX12_cuts_8 rfl rfl (fun h_8 => ?_) (fun h_8 => ?_)
  · skip
    refine s_aload_n 18 dX12_cuts_17 rfl rfl ?_
    refine s_callV0 (M' := M_X12_cutsOf) (as := []) 21 dX12_cuts_18 rfl cw_X12_382 rfl rfl sh_138 rfl (by decide) (Nat.le_of_ble_eq_true rfl) (Nat.le_of_ble_eq_true rfl) (Nat.le_of_ble_eq_true rfl) (Nat.le_of_ble_eq_true rfl) ⟨rfl, rfl, rfl⟩ ?_
    have hP : HP := by assumption
    refine c_X12_cutsOf hT er1 es1 erd1 (hr hP).1 rfl (hr hP).p (fun v I2 k1 k2 k3 => ?_)
    have q := hye hP I2 (k1.mo (by decide))
    rw [k2.v] at q
    refine s_istore_n (ls' := [_, _]) 22 dX12_cuts_21 rfl (Nat.le_of_ble_eq_true rfl) rfl rfl ?_
    refine s_iload_n 23 dX12_cuts_22 rfl rfl ?_
    refine s_bipush 25 dX12_cuts_23 rfl (by decide) ?_
    refine s_icmp_ne 33 28 dX12_cuts_25 rfl rfl (by first | omega | exact bI_r _ | exact iI_r _) (by first | omega | exact bI_r _ | exact iI_r _) (fun h_25 => ?_) (fun h_25 => ?_)
    · skip
      refine s_iload_n 34 dX12_cuts_33 rfl rfl ?_
      refine s_callS0 (M' := M_X12_bits) (as := [_]) 37 dX12_cuts_34 rfl cw_X12_379 rfl rfl (Nat.le_of_ble_eq_true rfl) (Nat.le_of_ble_eq_true rfl) (Nat.le_of_ble_eq_true rfl) ⟨rfl, rfl, rfl⟩ ?_
      refine c_X12_bits ?_
      refine s_iret dX12_cuts_37 rfl rfl ?_
      first | exact hno (by assumption) | (rw [if_pos (by assumption)] at q; exact q) | (rw [if_neg (by assumption)] at q; exact q)
    refine s_bipush 30 dX12_cuts_28 rfl (by decide) ?_
    refine s_goto 37 dX12_cuts_30 rfl ?_
    refine s_iret dX12_cuts_37 rfl rfl ?_
    first | exact hno (by assumption) | (rw [if_pos (by assumption)] at q; exact q) | (rw [if_neg (by assumption)] at q; exact q)
  refine s_aload_n 12 dX12_cuts_11 rfl rfl ?_
  refine s_iconst 13 dX12_cuts_12 rfl ?_
  refine s_callV0 (M' := M_X12_no) (as := [_]) 16 dX12_cuts_13 rfl cw_X12_193 rfl rfl sh_138 rfl (by decide) (Nat.le_of_ble_eq_true rfl) (Nat.le_of_ble_eq_true rfl) (Nat.le_of_ble_eq_true rfl) (Nat.le_of_ble_eq_true rfl) ⟨rfl, rfl, rfl⟩ ?_
  refine c_X12_no (by decide) ?_
  first | rw [show up (up (up I 138 0 0) 138 11 0) 138 11 1 = gd I 1 from gd_no] | rw [show up (up (up I 138 0 0) 138 11 0) 138 11 2 = gd I 2 from gd_no]
  refine s_iret dX12_cuts_16 rfl rfl ?_
  first | exact hno (by assumption) | (rw [if_pos (by assumption)] at q; exact q) | (rw [if_neg (by assumption)] at q; exact q)
set_option maxHeartbeats 4000000 in
theorem c_X12_cutsBy {E : ET} {I : MI} {L : ML} {R : MR} {Q : Option AV → MI → ML → MR → Prop} {r s : F1} {a : List Int} {HP : Prop} (hT : Topo R) (er : I 141 = r) (es : I 143 = s) (erd : I 138 30 = -1) (ehp : I 138 14 = bI HP) (hr : HP → SOk r s a) (h : ∀ I', Eqo MS (gd I (pick HP 0 1)) I' → Q (some (vi (pick HP (cutF r (-1) (r 2) s) (-1)))) I' L R) : CT E M_X12_cutsBy 161 yX12_cutsBy [(vr (138))] I L R Q := by
  refine CT_of rfl rfl (fun h => by cases h) (Nat.le_of_ble_eq_true rfl) (fun X => ?_)
  show V X _ z0 0 [some (vr (138))] [] I L R _
  have hno := (pick_spl h).1
  have hye := (pick_spl h).2
  have er1 : up (up I 138 0 0) 138 11 0 141 = r := (gd_n (by decide)).trans er
  have es1 : up (up I 138 0 0) 138 11 0 143 = s := (gd_n (by decide)).trans es
  have erd1 : up (up I 138 0 0) 138 11 0 138 30 = -1 := (gd_f (by decide)).trans erd
  have ehp1 : up (up I 138 0 0) 138 11 0 138 14 = bI HP := (gd_f (by decide)).trans ehp
  have hr1 : HP → WFr r := fun z => (hr z).1
  refine s_aload_n 1 dX12_cutsBy_0 rfl rfl ?_
  refine s_callV0 (M' := M_X12_good) (as := []) 4 dX12_cutsBy_1 rfl cw_X12_190 rfl rfl sh_138 rfl (by decide) (Nat.le_of_ble_eq_true rfl) (Nat.le_of_ble_eq_true rfl) (Nat.le_of_ble_eq_true rfl) (Nat.le_of_ble_eq_true rfl) ⟨rfl, rfl, rfl⟩ ?_
  refine c_X12_good ?_
  refine s_aload_n 5 dX12_cutsBy_4 rfl rfl ?_
  refine s_getI 8 dX12_cutsBy_5 rfl fl_X12_203 (fun _ _ _ _ => rfl) sh_138 (Nat.le_of_ble_eq_true rfl) (fun r_5 => ?_)
  rw [ehp1]
  refine s_ifb_eq 18 11 dX12_cutsBy_8 rfl rfl (fun h_8 => ?_) (fun h_8 => ?_)
  · skip
    refine s_aload_n 19 dX12_cutsBy_18 rfl rfl ?_
    refine s_iconst 20 dX12_cutsBy_19 rfl ?_
    refine s_callV0 (M' := M_X12_no) (as := [_]) 23 dX12_cutsBy_20 rfl cw_X12_193 rfl rfl sh_138 rfl (by decide) (Nat.le_of_ble_eq_true rfl) (Nat.le_of_ble_eq_true rfl) (Nat.le_of_ble_eq_true rfl) (Nat.le_of_ble_eq_true rfl) ⟨rfl, rfl, rfl⟩ ?_
    refine c_X12_no (by decide) ?_
    first | rw [show up (up (up I 138 0 0) 138 11 0) 138 11 1 = gd I 1 from gd_no] | rw [show up (up (up I 138 0 0) 138 11 0) 138 11 2 = gd I 2 from gd_no]
    refine s_iret dX12_cutsBy_23 rfl rfl ?_
    first | exact hno (by assumption) | exact q
  refine s_aload_n 12 dX12_cutsBy_11 rfl rfl ?_
  refine s_callV0 (M' := M_X12_cutsOf) (as := []) 15 dX12_cutsBy_12 rfl cw_X12_382 rfl rfl sh_138 rfl (by decide) (Nat.le_of_ble_eq_true rfl) (Nat.le_of_ble_eq_true rfl) (Nat.le_of_ble_eq_true rfl) (Nat.le_of_ble_eq_true rfl) ⟨rfl, rfl, rfl⟩ ?_
  have hP : HP := by assumption
  refine c_X12_cutsOf hT er1 es1 erd1 (hr hP).1 rfl (hr hP).p (fun v I2 k1 k2 k3 => ?_)
  have q := hye hP I2 (k1.mo (by decide))
  rw [k2.v] at q
  refine s_goto 23 dX12_cutsBy_15 rfl ?_
  refine s_iret dX12_cutsBy_23 rfl rfl ?_
  first | exact hno (by assumption) | exact q
set_option maxHeartbeats 4000000 in
theorem c_X12_ready {E : ET} {I : MI} {L : ML} {R : MR} {Q : Option AV → MI → ML → MR → Prop} {r s : F1} {a : List Int} {HP : Prop} {i : Int} (hT : Topo R) (er : I 141 = r) (es : I 143 = s) (erd : I 138 30 = -1) (ehp : I 138 14 = bI HP) (hr : HP → SOk r s a) (hi : -2147483648 ≤ i ∧ i ≤ 2147483647) (h : ∀ I', Eqo MS (gd I (pick (HP ∧ 0 ≤ i ∧ i < r 4) 0 1)) I' → Q (some (vi (pick (HP ∧ 0 ≤ i ∧ i < r 4) (if fewV (MayP r (-1) (r 2) s (s 12)) (r 4).toNat = -2 then -2 else fewV (MayP r (-1) (r 2) s (s 12)) (r 4).toNat - fewV (MayP r i (r 2) s (s 12)) (r 4).toNat) (-1)))) I' L R) : CT E M_X12_ready 161 yX12_ready [(vr (138)), (vi (i))] I L R Q := by
  refine CT_of rfl rfl (fun h => by cases h) (Nat.le_of_ble_eq_true rfl) (fun X => ?_)
  show V X _ z0 0 [some (vr (138)), some (vi (i)), none, none] [] I L R _
  have hno := (pick_spl h).1
  have hye := (pick_spl h).2
  have er1 : up (up I 138 0 0) 138 11 0 141 = r := (gd_n (by decide)).trans er
  have es1 : up (up I 138 0 0) 138 11 0 143 = s := (gd_n (by decide)).trans es
  have erd1 : up (up I 138 0 0) 138 11 0 138 30 = -1 := (gd_f (by decide)).trans erd
  have ehp1 : up (up I 138 0 0) 138 11 0 138 14 = bI HP := (gd_f (by decide)).trans ehp
  have hr1 : HP → WFr r := fun z => (hr z).1
  refine s_aload_n 1 dX12_ready_0 rfl rfl ?_
  refine s_callV0 (M' := M_X12_good) (as := []) 4 dX12_ready_1 rfl cw_X12_190 rfl rfl sh_138 rfl (by decide) (Nat.le_of_ble_eq_true rfl) (Nat.le_of_ble_eq_true rfl) (Nat.le_of_ble_eq_true rfl) (Nat.le_of_ble_eq_true rfl) ⟨rfl, rfl, rfl⟩ ?_
  refine c_X12_good ?_
  refine s_aload_n 5 dX12_ready_4 rfl rfl ?_
  refine s_iload_n 6 dX12_ready_5 rfl rfl ?_
  refine s_callV0 (M' := M_X12_isPart) (as := [_]) 9 dX12_ready_6 rfl cw_X12_318 rfl rfl sh_138 rfl (by decide) (Nat.le_of_ble_eq_true rfl) (Nat.le_of_ble_eq_true rfl) (Nat.le_of_ble_eq_true rfl) (Nat.le_of_ble_eq_true rfl) ⟨rfl, rfl, rfl⟩ ?_
  refine c_X12_isPart hT er1 ehp1 hr1 (by omega) ?_
  refine s_ifb_ne 18 12 dX12_ready_9 rfl rfl (fun h_9 => ?_) (fun h_9 => ?_)
  · skip
    refine s_aload_n 19 dX12_ready_18 rfl rfl ?_
    refine s_aload_n 20 dX12_ready_19 rfl rfl ?_
    refine s_getR 23 dX12_ready_20 rfl fl_X12_26 (fun _ _ _ _ => rfl) (T_X12_st hT) sh_138 (Nat.le_of_ble_eq_true rfl) ?_
    refine s_aload_n 24 dX12_ready_23 rfl rfl ?_
    refine s_getR 27 dX12_ready_24 rfl fl_X12_26 (fun _ _ _ _ => rfl) (T_X12_st hT) sh_138 (Nat.le_of_ble_eq_true rfl) ?_
    refine s_bipush 29 dX12_ready_27 rfl (by decide) ?_
    refine s_iald 30 dX12_ready_29 rfl sh_143 (Nat.le_of_ble_eq_true rfl) (by omega) (by omega) (fun r_29 => ?_)
    rw [es1] at r_29 ⊢
    refine s_callV0 (M' := M_X12_fewestBy) (as := [_, _]) 33 dX12_ready_30 rfl cw_X12_372 rfl rfl sh_138 rfl (by decide) (Nat.le_of_ble_eq_true rfl) (Nat.le_of_ble_eq_true rfl) (Nat.le_of_ble_eq_true rfl) (Nat.le_of_ble_eq_true rfl) ⟨rfl, rfl, rfl⟩ ?_
    have hC : HP ∧ 0 ≤ i ∧ i < r 4 := by assumption
    have hP := hC.1
    refine c_X12_fewestBy2 hT er1 erd1 (hr hP).1 rfl sh_143 (by decide) (by decide) (by decide) es1 (hr hP).p (fun I2 k1 k2 => ?_)
    have er2 : up I2 138 30 i 141 = r := by rw [up_ne (by decide)]; exact (k1 141 (by decide)).trans er1
    have es3 : up I2 138 30 i 143 = s := by rw [up_ne (by decide)]; exact (k1 143 (by decide)).trans es1
    have hE : Eqo MS (gd I 0) I2 := k1.mo (by decide)
    refine s_istore_n (ls' := [_, _, _, _]) 34 dX12_ready_33 rfl (Nat.le_of_ble_eq_true rfl) rfl rfl ?_
    refine s_iload_n 35 dX12_ready_34 rfl rfl ?_
    refine s_bipush 37 dX12_ready_35 rfl (by decide) ?_
    refine s_icmp_ne 43 40 dX12_ready_37 rfl rfl (by first | omega | exact bI_r _ | exact iI_r _) (by first | omega | exact bI_r _ | exact iI_r _) (fun h_37 => ?_) (fun h_37 => ?_)
    · skip
      refine s_aload_n 44 dX12_ready_43 rfl rfl ?_
      refine s_iload_n 45 dX12_ready_44 rfl rfl ?_
      refine s_putI 48 dX12_ready_45 rfl fl_X12_56 (fun _ => rfl) (fun _ => rfl) (fun _ _ _ _ => rfl) sh_138 (Nat.le_of_ble_eq_true rfl) (by first | omega | exact bI_r _ | exact iI_r _) ?_
      refine s_aload_n 49 dX12_ready_48 rfl rfl ?_
      refine s_aload_n 50 dX12_ready_49 rfl rfl ?_
      refine s_getR 53 dX12_ready_50 rfl fl_X12_26 (fun _ _ _ _ => rfl) (T_X12_st hT) sh_138 (Nat.le_of_ble_eq_true rfl) ?_
      refine s_aload_n 54 dX12_ready_53 rfl rfl ?_
      refine s_getR 57 dX12_ready_54 rfl fl_X12_26 (fun _ _ _ _ => rfl) (T_X12_st hT) sh_138 (Nat.le_of_ble_eq_true rfl) ?_
      refine s_bipush 59 dX12_ready_57 rfl (by decide) ?_
      refine s_iald 60 dX12_ready_59 rfl sh_143 (Nat.le_of_ble_eq_true rfl) (by omega) (by omega) (fun r_59 => ?_)
      rw [show up I2 138 30 i 143 12 = s 12 from congrFun es3 12] at r_59 ⊢
      refine s_callV0 (M' := M_X12_fewestBy) (as := [_, _]) 63 dX12_ready_60 rfl cw_X12_372 rfl rfl sh_138 rfl (by decide) (Nat.le_of_ble_eq_true rfl) (Nat.le_of_ble_eq_true rfl) (Nat.le_of_ble_eq_true rfl) (Nat.le_of_ble_eq_true rfl) ⟨rfl, rfl, rfl⟩ ?_
      refine c_X12_fewestBy2 hT er2 ups (hr hP).1 rfl sh_143 (by decide) (by decide) (by decide) es3 (hr hP).p (fun I4 k3 k4 => ?_)
      refine s_istore_n (ls' := [_, _, _, _]) 64 dX12_ready_63 rfl (Nat.le_of_ble_eq_true rfl) rfl rfl ?_
      refine s_aload_n 65 dX12_ready_64 rfl rfl ?_
      refine s_iconst 66 dX12_ready_65 rfl ?_
      refine s_putI 69 dX12_ready_66 rfl fl_X12_56 (fun _ => rfl) (fun _ => rfl) (fun _ _ _ _ => rfl) sh_138 (Nat.le_of_ble_eq_true rfl) (by first | omega | exact bI_r _ | exact iI_r _) ?_
      refine s_iload_n 70 dX12_ready_69 rfl rfl ?_
      refine s_iload_n 71 dX12_ready_70 rfl rfl ?_
      refine s_isub 72 dX12_ready_71 rfl ?_
      refine s_iret dX12_ready_72 rfl rfl ?_
      have hE2 : Eqo MS (gd I 0) (up I4 138 30 (-1)) := fun c hc => by
        by_cases ec : c = 138
        · subst ec
          funext k
          rw [upd9, k3 138 (by decide), upd9, hE 138 (by decide)]
          by_cases ek : k = 30
          · rw [if_pos ek, ek]; exact erd1.symm
          · rw [if_neg ek, if_neg ek]
        · rw [up_ne ec, k3 c (fun z => hc ((show ∀ a ∈ FB, a ∈ MS by decide) c z)), up_ne ec]; exact hE c hc
      have q := hye hC _ hE2
      rw [if_neg (by assumption)] at q
      exact q
    refine s_bipush 42 dX12_ready_40 rfl (by decide) ?_
    refine s_iret dX12_ready_42 rfl rfl ?_
    have q := hye hC I2 hE
    rw [if_pos (by assumption)] at q; exact q
  refine s_aload_n 13 dX12_ready_12 rfl rfl ?_
  refine s_iconst 14 dX12_ready_13 rfl ?_
  refine s_callV0 (M' := M_X12_no) (as := [_]) 17 dX12_ready_14 rfl cw_X12_193 rfl rfl sh_138 rfl (by decide) (Nat.le_of_ble_eq_true rfl) (Nat.le_of_ble_eq_true rfl) (Nat.le_of_ble_eq_true rfl) (Nat.le_of_ble_eq_true rfl) ⟨rfl, rfl, rfl⟩ ?_
  refine c_X12_no (by decide) ?_
  first | rw [show up (up (up I 138 0 0) 138 11 0) 138 11 1 = gd I 1 from gd_no] | rw [show up (up (up I 138 0 0) 138 11 0) 138 11 2 = gd I 2 from gd_no]
  refine s_iret dX12_ready_17 rfl rfl ?_
  exact hno (by assumption)
/-- what part and on tell -/
def ptF (r s : F1) (p w : Int) : Int := if w = 0 then r (9 + p) else if w = 1 then r (16 + p) else if w = 2 then r (23 + p) else if w = 3 then r (30 + p) else if w = 4 then r (37 + p) else s (5 + p)
noncomputable def onF (r s : F1) (k w : Int) : Int := if w = 0 then r (54 + 7 * k + 0) else if w = 1 then r (54 + 7 * k + 1) else if w = 2 then r (54 + 7 * k + 6) else if w = 3 then r (54 + 7 * k + 4) else if w = 4 then r (54 + 7 * k + 5) else bI (hasI (s 12) k)
set_option maxHeartbeats 4000000 in
theorem c_X12_part {E : ET} {I : MI} {L : ML} {R : MR} {Q : Option AV → MI → ML → MR → Prop} {r s : F1} {a : List Int} {HP : Prop} {i w : Int} (hT : Topo R) (er : I 141 = r) (es : I 143 = s) (erd : I 138 30 = -1) (ehp : I 138 14 = bI HP) (hr : HP → SOk r s a) (hi : -2147483648 ≤ i ∧ i ≤ 2147483647) (hw : -2147483648 ≤ w ∧ w ≤ 2147483647) (h : ∀ I', Eqo MS (gd I (pick ((HP ∧ 0 ≤ i ∧ i < r 4) ∧ 0 ≤ w ∧ w ≤ 5) 0 1)) I' → Q (some (vi (pick ((HP ∧ 0 ≤ i ∧ i < r 4) ∧ 0 ≤ w ∧ w ≤ 5) (ptF r s i w) (-1)))) I' L R) : CT E M_X12_part 161 yX12_part [(vr (138)), (vi (i)), (vi (w))] I L R Q := by
  refine CT_of rfl rfl (fun h => by cases h) (Nat.le_of_ble_eq_true rfl) (fun X => ?_)
  show V X _ z0 0 [some (vr (138)), some (vi (i)), some (vi (w))] [] I L R _
  have hno := (pick_spl h).1
  have hye := (pick_spl h).2
  have er1 : up (up I 138 0 0) 138 11 0 141 = r := (gd_n (by decide)).trans er
  have es1 : up (up I 138 0 0) 138 11 0 143 = s := (gd_n (by decide)).trans es
  have erd1 : up (up I 138 0 0) 138 11 0 138 30 = -1 := (gd_f (by decide)).trans erd
  have ehp1 : up (up I 138 0 0) 138 11 0 138 14 = bI HP := (gd_f (by decide)).trans ehp
  have hr1 : HP → WFr r := fun z => (hr z).1
  have hcc : HP ∧ 0 ≤ i ∧ i < r 4 → 0 ≤ i ∧ i < 7 := fun z => by have := (hr z.1).1.1; omega
  refine s_aload_n 1 dX12_part_0 rfl rfl ?_
  refine s_callV0 (M' := M_X12_good) (as := []) 4 dX12_part_1 rfl cw_X12_190 rfl rfl sh_138 rfl (by decide) (Nat.le_of_ble_eq_true rfl) (Nat.le_of_ble_eq_true rfl) (Nat.le_of_ble_eq_true rfl) (Nat.le_of_ble_eq_true rfl) ⟨rfl, rfl, rfl⟩ ?_
  refine c_X12_good ?_
  refine s_aload_n 5 dX12_part_4 rfl rfl ?_
  refine s_iload_n 6 dX12_part_5 rfl rfl ?_
  refine s_callV0 (M' := M_X12_isPart) (as := [_]) 9 dX12_part_6 rfl cw_X12_318 rfl rfl sh_138 rfl (by decide) (Nat.le_of_ble_eq_true rfl) (Nat.le_of_ble_eq_true rfl) (Nat.le_of_ble_eq_true rfl) (Nat.le_of_ble_eq_true rfl) ⟨rfl, rfl, rfl⟩ ?_
  refine c_X12_isPart hT er1 ehp1 hr1 (by omega) ?_
  refine s_ifb_ne 18 12 dX12_part_9 rfl rfl (fun h_9 => ?_) (fun h_9 => ?_)
  · skip
    refine s_iload_n 19 dX12_part_18 rfl rfl ?_
    rcases (show (w < 0 ∨ 5 < w) ∨ w = 0 ∨ w = 1 ∨ w = 2 ∨ w = 3 ∨ w = 4 ∨ w = 5 by omega) with h_19 | h_19 | h_19 | h_19 | h_19 | h_19 | h_19
    · refine s_tsOut 115 dX12_part_19 (by omega) h_19 (by decide) ?_
      refine s_aload_n 116 dX12_part_115 rfl rfl ?_
      refine s_iconst 117 dX12_part_116 rfl ?_
      refine s_callV0 (M' := M_X12_no) (as := [_]) 120 dX12_part_117 rfl cw_X12_193 rfl rfl sh_138 rfl (by decide) (Nat.le_of_ble_eq_true rfl) (Nat.le_of_ble_eq_true rfl) (Nat.le_of_ble_eq_true rfl) (Nat.le_of_ble_eq_true rfl) ⟨rfl, rfl, rfl⟩ ?_
      refine c_X12_no (by decide) ?_
      first | rw [show up (up (up I 138 0 0) 138 11 0) 138 11 1 = gd I 1 from gd_no] | rw [show up (up (up I 138 0 0) 138 11 0) 138 11 2 = gd I 2 from gd_no]
      refine s_iret dX12_part_120 rfl rfl ?_
      exact hno (fun z => absurd z.2 (by omega))
    · refine s_tsIn 56 dX12_part_19 (by omega) (by omega) (by omega) (by rw [h_19]; rfl) (by decide) ?_
      refine s_aload_n 57 dX12_part_56 rfl rfl ?_
      refine s_getR 60 dX12_part_57 rfl fl_X12_20 (fun _ _ _ _ => rfl) (T_X12_r hT) sh_138 (Nat.le_of_ble_eq_true rfl) ?_
      refine s_bipush 62 dX12_part_60 rfl (by decide) ?_
      refine s_iload_n 63 dX12_part_62 rfl rfl ?_
      refine s_iadd 64 dX12_part_63 rfl ?_
      refine s_iald 65 dX12_part_64 rfl sh_141 (Nat.le_of_ble_eq_true rfl) (by have := hcc (by assumption); omega) (by omega) (fun r_64 => ?_)
      rw [er1] at r_64 ⊢
      refine s_iret dX12_part_65 rfl rfl ?_
      have q := hye ⟨by assumption, by omega, by omega⟩ _ Eqo.rf
      subst h_19
      exact q
    · refine s_tsIn 66 dX12_part_19 (by omega) (by omega) (by omega) (by rw [h_19]; rfl) (by decide) ?_
      refine s_aload_n 67 dX12_part_66 rfl rfl ?_
      refine s_getR 70 dX12_part_67 rfl fl_X12_20 (fun _ _ _ _ => rfl) (T_X12_r hT) sh_138 (Nat.le_of_ble_eq_true rfl) ?_
      refine s_bipush 72 dX12_part_70 rfl (by decide) ?_
      refine s_iload_n 73 dX12_part_72 rfl rfl ?_
      refine s_iadd 74 dX12_part_73 rfl ?_
      refine s_iald 75 dX12_part_74 rfl sh_141 (Nat.le_of_ble_eq_true rfl) (by have := hcc (by assumption); omega) (by omega) (fun r_74 => ?_)
      rw [er1] at r_74 ⊢
      refine s_iret dX12_part_75 rfl rfl ?_
      have q := hye ⟨by assumption, by omega, by omega⟩ _ Eqo.rf
      subst h_19
      exact q
    · refine s_tsIn 76 dX12_part_19 (by omega) (by omega) (by omega) (by rw [h_19]; rfl) (by decide) ?_
      refine s_aload_n 77 dX12_part_76 rfl rfl ?_
      refine s_getR 80 dX12_part_77 rfl fl_X12_20 (fun _ _ _ _ => rfl) (T_X12_r hT) sh_138 (Nat.le_of_ble_eq_true rfl) ?_
      refine s_bipush 82 dX12_part_80 rfl (by decide) ?_
      refine s_iload_n 83 dX12_part_82 rfl rfl ?_
      refine s_iadd 84 dX12_part_83 rfl ?_
      refine s_iald 85 dX12_part_84 rfl sh_141 (Nat.le_of_ble_eq_true rfl) (by have := hcc (by assumption); omega) (by omega) (fun r_84 => ?_)
      rw [er1] at r_84 ⊢
      refine s_iret dX12_part_85 rfl rfl ?_
      have q := hye ⟨by assumption, by omega, by omega⟩ _ Eqo.rf
      subst h_19
      exact q
    · refine s_tsIn 86 dX12_part_19 (by omega) (by omega) (by omega) (by rw [h_19]; rfl) (by decide) ?_
      refine s_aload_n 87 dX12_part_86 rfl rfl ?_
      refine s_getR 90 dX12_part_87 rfl fl_X12_20 (fun _ _ _ _ => rfl) (T_X12_r hT) sh_138 (Nat.le_of_ble_eq_true rfl) ?_
      refine s_bipush 92 dX12_part_90 rfl (by decide) ?_
      refine s_iload_n 93 dX12_part_92 rfl rfl ?_
      refine s_iadd 94 dX12_part_93 rfl ?_
      refine s_iald 95 dX12_part_94 rfl sh_141 (Nat.le_of_ble_eq_true rfl) (by have := hcc (by assumption); omega) (by omega) (fun r_94 => ?_)
      rw [er1] at r_94 ⊢
      refine s_iret dX12_part_95 rfl rfl ?_
      have q := hye ⟨by assumption, by omega, by omega⟩ _ Eqo.rf
      subst h_19
      exact q
    · refine s_tsIn 96 dX12_part_19 (by omega) (by omega) (by omega) (by rw [h_19]; rfl) (by decide) ?_
      refine s_aload_n 97 dX12_part_96 rfl rfl ?_
      refine s_getR 100 dX12_part_97 rfl fl_X12_20 (fun _ _ _ _ => rfl) (T_X12_r hT) sh_138 (Nat.le_of_ble_eq_true rfl) ?_
      refine s_bipush 102 dX12_part_100 rfl (by decide) ?_
      refine s_iload_n 103 dX12_part_102 rfl rfl ?_
      refine s_iadd 104 dX12_part_103 rfl ?_
      refine s_iald 105 dX12_part_104 rfl sh_141 (Nat.le_of_ble_eq_true rfl) (by have := hcc (by assumption); omega) (by omega) (fun r_104 => ?_)
      rw [er1] at r_104 ⊢
      refine s_iret dX12_part_105 rfl rfl ?_
      have q := hye ⟨by assumption, by omega, by omega⟩ _ Eqo.rf
      subst h_19
      exact q
    · refine s_tsIn 106 dX12_part_19 (by omega) (by omega) (by omega) (by rw [h_19]; rfl) (by decide) ?_
      refine s_aload_n 107 dX12_part_106 rfl rfl ?_
      refine s_getR 110 dX12_part_107 rfl fl_X12_26 (fun _ _ _ _ => rfl) (T_X12_st hT) sh_138 (Nat.le_of_ble_eq_true rfl) ?_
      refine s_iconst 111 dX12_part_110 rfl ?_
      refine s_iload_n 112 dX12_part_111 rfl rfl ?_
      refine s_iadd 113 dX12_part_112 rfl ?_
      refine s_iald 114 dX12_part_113 rfl sh_143 (Nat.le_of_ble_eq_true rfl) (by have := hcc (by assumption); omega) (by omega) (fun r_113 => ?_)
      rw [es1] at r_113 ⊢
      refine s_iret dX12_part_114 rfl rfl ?_
      have q := hye ⟨by assumption, by omega, by omega⟩ _ Eqo.rf
      subst h_19
      exact q
  refine s_aload_n 13 dX12_part_12 rfl rfl ?_
  refine s_iconst 14 dX12_part_13 rfl ?_
  refine s_callV0 (M' := M_X12_no) (as := [_]) 17 dX12_part_14 rfl cw_X12_193 rfl rfl sh_138 rfl (by decide) (Nat.le_of_ble_eq_true rfl) (Nat.le_of_ble_eq_true rfl) (Nat.le_of_ble_eq_true rfl) (Nat.le_of_ble_eq_true rfl) ⟨rfl, rfl, rfl⟩ ?_
  refine c_X12_no (by decide) ?_
  first | rw [show up (up (up I 138 0 0) 138 11 0) 138 11 1 = gd I 1 from gd_no] | rw [show up (up (up I 138 0 0) 138 11 0) 138 11 2 = gd I 2 from gd_no]
  refine s_iret dX12_part_17 rfl rfl ?_
  exact hno (fun z => absurd z.1 (by assumption))
set_option maxHeartbeats 4000000 in
theorem c_X12_on {E : ET} {I : MI} {L : ML} {R : MR} {Q : Option AV → MI → ML → MR → Prop} {r s : F1} {a : List Int} {HP : Prop} {i w : Int} (hT : Topo R) (er : I 141 = r) (es : I 143 = s) (erd : I 138 30 = -1) (ehp : I 138 14 = bI HP) (hr : HP → SOk r s a) (hi : -2147483648 ≤ i ∧ i ≤ 2147483647) (hw : -2147483648 ≤ w ∧ w ≤ 2147483647) (h : ∀ I', Eqo MS (gd I (pick ((HP ∧ 0 ≤ i ∧ i < r 7) ∧ 0 ≤ w ∧ w ≤ 5) 0 1)) I' → Q (some (vi (pick ((HP ∧ 0 ≤ i ∧ i < r 7) ∧ 0 ≤ w ∧ w ≤ 5) (onF r s i w) (-1)))) I' L R) : CT E M_X12_on 161 yX12_on [(vr (138)), (vi (i)), (vi (w))] I L R Q := by
  refine CT_of rfl rfl (fun h => by cases h) (Nat.le_of_ble_eq_true rfl) (fun X => ?_)
  show V X _ z0 0 [some (vr (138)), some (vi (i)), some (vi (w))] [] I L R _
  have hno := (pick_spl h).1
  have hye := (pick_spl h).2
  have er1 : up (up I 138 0 0) 138 11 0 141 = r := (gd_n (by decide)).trans er
  have es1 : up (up I 138 0 0) 138 11 0 143 = s := (gd_n (by decide)).trans es
  have erd1 : up (up I 138 0 0) 138 11 0 138 30 = -1 := (gd_f (by decide)).trans erd
  have ehp1 : up (up I 138 0 0) 138 11 0 138 14 = bI HP := (gd_f (by decide)).trans ehp
  have hr1 : HP → WFr r := fun z => (hr z).1
  have hcc : HP ∧ 0 ≤ i ∧ i < r 7 → 0 ≤ i ∧ i < 14 := fun z => by have := (hr z.1).1.1; omega
  refine s_aload_n 1 dX12_on_0 rfl rfl ?_
  refine s_callV0 (M' := M_X12_good) (as := []) 4 dX12_on_1 rfl cw_X12_190 rfl rfl sh_138 rfl (by decide) (Nat.le_of_ble_eq_true rfl) (Nat.le_of_ble_eq_true rfl) (Nat.le_of_ble_eq_true rfl) (Nat.le_of_ble_eq_true rfl) ⟨rfl, rfl, rfl⟩ ?_
  refine c_X12_good ?_
  refine s_aload_n 5 dX12_on_4 rfl rfl ?_
  refine s_iload_n 6 dX12_on_5 rfl rfl ?_
  refine s_callV0 (M' := M_X12_isOn) (as := [_]) 9 dX12_on_6 rfl cw_X12_309 rfl rfl sh_138 rfl (by decide) (Nat.le_of_ble_eq_true rfl) (Nat.le_of_ble_eq_true rfl) (Nat.le_of_ble_eq_true rfl) (Nat.le_of_ble_eq_true rfl) ⟨rfl, rfl, rfl⟩ ?_
  refine c_X12_isOn hT er1 ehp1 hr1 (by omega) ?_
  refine s_ifb_ne 18 12 dX12_on_9 rfl rfl (fun h_9 => ?_) (fun h_9 => ?_)
  · skip
    refine s_iload_n 19 dX12_on_18 rfl rfl ?_
    rcases (show (w < 0 ∨ 5 < w) ∨ w = 0 ∨ w = 1 ∨ w = 2 ∨ w = 3 ∨ w = 4 ∨ w = 5 by omega) with h_19 | h_19 | h_19 | h_19 | h_19 | h_19 | h_19
    · refine s_tsOut 112 dX12_on_19 (by omega) h_19 (by decide) ?_
      refine s_aload_n 113 dX12_on_112 rfl rfl ?_
      refine s_iconst 114 dX12_on_113 rfl ?_
      refine s_callV0 (M' := M_X12_no) (as := [_]) 117 dX12_on_114 rfl cw_X12_193 rfl rfl sh_138 rfl (by decide) (Nat.le_of_ble_eq_true rfl) (Nat.le_of_ble_eq_true rfl) (Nat.le_of_ble_eq_true rfl) (Nat.le_of_ble_eq_true rfl) ⟨rfl, rfl, rfl⟩ ?_
      refine c_X12_no (by decide) ?_
      first | rw [show up (up (up I 138 0 0) 138 11 0) 138 11 1 = gd I 1 from gd_no] | rw [show up (up (up I 138 0 0) 138 11 0) 138 11 2 = gd I 2 from gd_no]
      refine s_iret dX12_on_117 rfl rfl ?_
      exact hno (fun z => absurd z.2 (by omega))
    · refine s_tsIn 56 dX12_on_19 (by omega) (by omega) (by omega) (by rw [h_19]; rfl) (by decide) ?_
      refine s_aload_n 57 dX12_on_56 rfl rfl ?_
      refine s_iload_n 58 dX12_on_57 rfl rfl ?_
      refine s_iconst 59 dX12_on_58 rfl ?_
      refine s_callV0 (M' := M_X12_onOf) (as := [_, _]) 62 dX12_on_59 rfl cw_X12_302 rfl rfl sh_138 rfl (by decide) (Nat.le_of_ble_eq_true rfl) (Nat.le_of_ble_eq_true rfl) (Nat.le_of_ble_eq_true rfl) (Nat.le_of_ble_eq_true rfl) ⟨rfl, rfl, rfl⟩ ?_
      refine c_X12_onOf hT er1 (hcc (by assumption)) (by omega) ?_
      refine s_iret dX12_on_62 rfl rfl ?_
      have q := hye ⟨by assumption, by omega, by omega⟩ _ Eqo.rf
      subst h_19
      exact q
    · refine s_tsIn 63 dX12_on_19 (by omega) (by omega) (by omega) (by rw [h_19]; rfl) (by decide) ?_
      refine s_aload_n 64 dX12_on_63 rfl rfl ?_
      refine s_iload_n 65 dX12_on_64 rfl rfl ?_
      refine s_iconst 66 dX12_on_65 rfl ?_
      refine s_callV0 (M' := M_X12_onOf) (as := [_, _]) 69 dX12_on_66 rfl cw_X12_302 rfl rfl sh_138 rfl (by decide) (Nat.le_of_ble_eq_true rfl) (Nat.le_of_ble_eq_true rfl) (Nat.le_of_ble_eq_true rfl) (Nat.le_of_ble_eq_true rfl) ⟨rfl, rfl, rfl⟩ ?_
      refine c_X12_onOf hT er1 (hcc (by assumption)) (by omega) ?_
      refine s_iret dX12_on_69 rfl rfl ?_
      have q := hye ⟨by assumption, by omega, by omega⟩ _ Eqo.rf
      subst h_19
      exact q
    · refine s_tsIn 70 dX12_on_19 (by omega) (by omega) (by omega) (by rw [h_19]; rfl) (by decide) ?_
      refine s_aload_n 71 dX12_on_70 rfl rfl ?_
      refine s_iload_n 72 dX12_on_71 rfl rfl ?_
      refine s_bipush 74 dX12_on_72 rfl (by decide) ?_
      refine s_callV0 (M' := M_X12_onOf) (as := [_, _]) 77 dX12_on_74 rfl cw_X12_302 rfl rfl sh_138 rfl (by decide) (Nat.le_of_ble_eq_true rfl) (Nat.le_of_ble_eq_true rfl) (Nat.le_of_ble_eq_true rfl) (Nat.le_of_ble_eq_true rfl) ⟨rfl, rfl, rfl⟩ ?_
      refine c_X12_onOf hT er1 (hcc (by assumption)) (by omega) ?_
      refine s_iret dX12_on_77 rfl rfl ?_
      have q := hye ⟨by assumption, by omega, by omega⟩ _ Eqo.rf
      subst h_19
      exact q
    · refine s_tsIn 78 dX12_on_19 (by omega) (by omega) (by omega) (by rw [h_19]; rfl) (by decide) ?_
      refine s_aload_n 79 dX12_on_78 rfl rfl ?_
      refine s_iload_n 80 dX12_on_79 rfl rfl ?_
      refine s_iconst 81 dX12_on_80 rfl ?_
      refine s_callV0 (M' := M_X12_onOf) (as := [_, _]) 84 dX12_on_81 rfl cw_X12_302 rfl rfl sh_138 rfl (by decide) (Nat.le_of_ble_eq_true rfl) (Nat.le_of_ble_eq_true rfl) (Nat.le_of_ble_eq_true rfl) (Nat.le_of_ble_eq_true rfl) ⟨rfl, rfl, rfl⟩ ?_
      refine c_X12_onOf hT er1 (hcc (by assumption)) (by omega) ?_
      refine s_iret dX12_on_84 rfl rfl ?_
      have q := hye ⟨by assumption, by omega, by omega⟩ _ Eqo.rf
      subst h_19
      exact q
    · refine s_tsIn 85 dX12_on_19 (by omega) (by omega) (by omega) (by rw [h_19]; rfl) (by decide) ?_
      refine s_aload_n 86 dX12_on_85 rfl rfl ?_
      refine s_iload_n 87 dX12_on_86 rfl rfl ?_
      refine s_iconst 88 dX12_on_87 rfl ?_
      refine s_callV0 (M' := M_X12_onOf) (as := [_, _]) 91 dX12_on_88 rfl cw_X12_302 rfl rfl sh_138 rfl (by decide) (Nat.le_of_ble_eq_true rfl) (Nat.le_of_ble_eq_true rfl) (Nat.le_of_ble_eq_true rfl) (Nat.le_of_ble_eq_true rfl) ⟨rfl, rfl, rfl⟩ ?_
      refine c_X12_onOf hT er1 (hcc (by assumption)) (by omega) ?_
      refine s_iret dX12_on_91 rfl rfl ?_
      have q := hye ⟨by assumption, by omega, by omega⟩ _ Eqo.rf
      subst h_19
      exact q
    · refine s_tsIn 92 dX12_on_19 (by omega) (by omega) (by omega) (by rw [h_19]; rfl) (by decide) ?_
      refine s_aload_n 93 dX12_on_92 rfl rfl ?_
      refine s_getR 96 dX12_on_93 rfl fl_X12_26 (fun _ _ _ _ => rfl) (T_X12_st hT) sh_138 (Nat.le_of_ble_eq_true rfl) ?_
      refine s_bipush 98 dX12_on_96 rfl (by decide) ?_
      refine s_iald 99 dX12_on_98 rfl sh_143 (Nat.le_of_ble_eq_true rfl) (by omega) (by omega) (fun r_98 => ?_)
      rw [es1] at r_98 ⊢
      refine s_iload_n 100 dX12_on_99 rfl rfl ?_
      refine s_callS0 (M' := M_X12_has) (as := [_, _]) 103 dX12_on_100 rfl cw_X12_278 rfl rfl (Nat.le_of_ble_eq_true rfl) (Nat.le_of_ble_eq_true rfl) (Nat.le_of_ble_eq_true rfl) ⟨rfl, rfl, rfl⟩ ?_
      refine c_X12_has ?_
      refine s_ifb_eq 110 106 dX12_on_103 rfl rfl (fun h_103 => ?_) (fun h_103 => ?_)
      · skip
        refine s_iconst 111 dX12_on_110 rfl ?_
        refine s_iret dX12_on_111 rfl rfl ?_
        have q := hye ⟨by assumption, by omega, by omega⟩ _ Eqo.rf
        subst h_19
        first | exact ret_t (by assumption) q | exact ret_f (by assumption) q
      refine s_iconst 107 dX12_on_106 rfl ?_
      refine s_goto 111 dX12_on_107 rfl ?_
      refine s_iret dX12_on_111 rfl rfl ?_
      have q := hye ⟨by assumption, by omega, by omega⟩ _ Eqo.rf
      subst h_19
      first | exact ret_t (by assumption) q | exact ret_f (by assumption) q
  refine s_aload_n 13 dX12_on_12 rfl rfl ?_
  refine s_iconst 14 dX12_on_13 rfl ?_
  refine s_callV0 (M' := M_X12_no) (as := [_]) 17 dX12_on_14 rfl cw_X12_193 rfl rfl sh_138 rfl (by decide) (Nat.le_of_ble_eq_true rfl) (Nat.le_of_ble_eq_true rfl) (Nat.le_of_ble_eq_true rfl) (Nat.le_of_ble_eq_true rfl) ⟨rfl, rfl, rfl⟩ ?_
  refine c_X12_no (by decide) ?_
  first | rw [show up (up (up I 138 0 0) 138 11 0) 138 11 1 = gd I 1 from gd_no] | rw [show up (up (up I 138 0 0) 138 11 0) 138 11 2 = gd I 2 from gd_no]
  refine s_iret dX12_on_17 rfl rfl ?_
  exact hno (fun z => absurd z.1 (by assumption))
def tz (I : MI) (v : Int) : MI := up I 138 0 v
theorem MV.tz0 {I : MI} {bt : F1} {n ft pl w v : Int} {HP : Prop} {r s : F1} {U D K : List (List Int)} (h : MV I bt n ft pl w HP r s U D K) : MV (tz I v) bt n ft pl w HP r s U D K := by
  obtain ⟨⟨a1, a2, a3, a4, a5, a6⟩, b, c, d, ⟨e1, e2⟩, ⟨f1, f2⟩, g1, g2⟩ := h
  have f : ∀ k, k ≠ 0 → tz I v 138 k = I 138 k := fun k z => upn z
  have o : ∀ c, c ≠ 138 → tz I v c = I c := fun c z => up_ne z
  refine ⟨⟨?_, fun k z1 z2 => ?_, ?_, ?_, ?_, ?_⟩, ?_, ?_, ?_, ⟨?_, ?_⟩, ⟨?_, ?_⟩, ?_, ?_⟩
  · rw [f _ (by decide)]; exact a1
  · rw [o _ (by decide)]; exact a2 k z1 z2
  · rw [f _ (by decide)]; exact a3
  · rw [f _ (by decide)]; exact a4
  · rw [f _ (by decide)]; exact a5
  · rw [f _ (by decide)]; exact a6
  · rw [f _ (by decide)]; exact b
  · rw [o _ (by decide)]; exact c
  · rw [o _ (by decide)]; exact d
  · rw [f _ (by decide)]; exact e1
  · rw [o _ (by decide)]; exact e2
  · rw [f _ (by decide)]; exact f1
  · rw [o _ (by decide)]; exact f2
  · rw [f _ (by decide)]; exact g1
  · rw [o _ (by decide)]; exact g2
theorem Lo.tz0 {I : MI} {v : Int} : Lo I (tz I v) := fun c hc => up_ne (by omega)
noncomputable def szF (n : Int) (HP : Prop) (r : F1) (u d k : Int) (w : Int) : Int := if w = 9 then n else pick HP (if w = 0 then r 4 else if w = 1 then r 5 else if w = 2 then r 7 else if w = 3 then r 6 else if w = 4 then r 8 else if w = 5 then r 3 else if w = 6 then u else if w = 7 then d else if w = 8 then k else -1) (if 0 ≤ w ∧ w ≤ 8 then 0 else -1)
set_option maxHeartbeats 4000000 in
theorem c_X12_size {E : ET} {I : MI} {L : ML} {R : MR} {Q : Option AV → MI → ML → MR → Prop} {bt r s : F1} {n ft pl w i : Int} {HP : Prop} {U D K : List (List Int)} (hT : Topo R) (hM : MV I bt n ft pl w HP r s U D K) (hi : -2147483648 ≤ i ∧ i ≤ 2147483647) (h : Q (some (vi (szF n HP r U.length D.length K.length i))) (tz I 0) L R) : CT E M_X12_size 161 yX12_size [(vr (138)), (vi (i))] I L R Q := by
  refine CT_of rfl rfl (fun h => by cases h) (Nat.le_of_ble_eq_true rfl) (fun X => ?_)
  show V X _ z0 0 [some (vr (138)), some (vi (i))] [] I L R _
  obtain ⟨⟨a1, a2, a3, a4, a5, ehp⟩, erd, er, es, ⟨e1, e2⟩, ⟨f1, f2⟩, g1, g2⟩ := MV.tz0 (v := 0) hM
  have er1 : up I 138 0 0 141 = r := er
  have n1 : up I 138 0 0 138 2 = n := a1
  have u1 : up I 138 0 0 138 22 = U.length := e1
  have d1 : up I 138 0 0 138 23 = D.length := f1
  have k1 : up I 138 0 0 138 24 = K.length := g1
  have hp1 : up I 138 0 0 138 14 = bI HP := ehp
  unfold szF at h
  refine s_aload_n 1 dX12_size_0 rfl rfl ?_
  refine s_iconst 2 dX12_size_1 rfl ?_
  refine s_putI 5 dX12_size_2 rfl fl_X12_81 (fun _ => rfl) (fun _ => rfl) (fun _ _ _ _ => rfl) sh_138 (Nat.le_of_ble_eq_true rfl) (by first | omega | exact bI_r _ | exact iI_r _) ?_
  refine s_iload_n 6 dX12_size_5 rfl rfl ?_
  refine s_bipush 8 dX12_size_6 rfl (by decide) ?_
  refine s_icmp_ne 16 11 dX12_size_8 rfl rfl (by first | omega | exact bI_r _ | exact iI_r _) (by first | omega | exact bI_r _ | exact iI_r _) (fun h_8 => ?_) (fun h_8 => ?_)
  · skip
    refine s_aload_n 17 dX12_size_16 rfl rfl ?_
    refine s_getI 20 dX12_size_17 rfl fl_X12_203 (fun _ _ _ _ => rfl) sh_138 (Nat.le_of_ble_eq_true rfl) (fun r_17 => ?_)
    rw [hp1]
    refine s_ifb_ne 39 23 dX12_size_20 rfl rfl (fun h_20 => ?_) (fun h_20 => ?_)
    · skip
      refine s_iload_n 40 dX12_size_39 rfl rfl ?_
      rcases (show (i < 0 ∨ 8 < i) ∨ i = 0 ∨ i = 1 ∨ i = 2 ∨ i = 3 ∨ i = 4 ∨ i = 5 ∨ i = 6 ∨ i = 7 ∨ i = 8 by omega) with h_40 | h_40 | h_40 | h_40 | h_40 | h_40 | h_40 | h_40 | h_40 | h_40
      · refine s_tsOut 152 dX12_size_40 (by omega) h_40 (by decide) ?_
        refine s_iconst 153 dX12_size_152 rfl ?_
        refine s_iret dX12_size_153 rfl rfl ?_
        rw [if_neg (by assumption), pick_t (by assumption), if_neg (by omega), if_neg (by omega), if_neg (by omega), if_neg (by omega), if_neg (by omega), if_neg (by omega), if_neg (by omega), if_neg (by omega), if_neg (by omega)] at h
        exact h
      · refine s_tsIn 92 dX12_size_40 (by omega) (by omega) (by omega) (by rw [h_40]; rfl) (by decide) ?_
        refine s_aload_n 93 dX12_size_92 rfl rfl ?_
        refine s_getR 96 dX12_size_93 rfl fl_X12_20 (fun _ _ _ _ => rfl) (T_X12_r hT) sh_138 (Nat.le_of_ble_eq_true rfl) ?_
        refine s_iconst 97 dX12_size_96 rfl ?_
        refine s_iald 98 dX12_size_97 rfl sh_141 (Nat.le_of_ble_eq_true rfl) (by omega) (by omega) (fun r_97 => ?_)
        rw [er1] at r_97 ⊢
        refine s_iret dX12_size_98 rfl rfl ?_
        rw [if_neg (by assumption), pick_t (by assumption)] at h
        subst h_40
        exact h
      · refine s_tsIn 99 dX12_size_40 (by omega) (by omega) (by omega) (by rw [h_40]; rfl) (by decide) ?_
        refine s_aload_n 100 dX12_size_99 rfl rfl ?_
        refine s_getR 103 dX12_size_100 rfl fl_X12_20 (fun _ _ _ _ => rfl) (T_X12_r hT) sh_138 (Nat.le_of_ble_eq_true rfl) ?_
        refine s_iconst 104 dX12_size_103 rfl ?_
        refine s_iald 105 dX12_size_104 rfl sh_141 (Nat.le_of_ble_eq_true rfl) (by omega) (by omega) (fun r_104 => ?_)
        rw [er1] at r_104 ⊢
        refine s_iret dX12_size_105 rfl rfl ?_
        rw [if_neg (by assumption), pick_t (by assumption)] at h
        subst h_40
        exact h
      · refine s_tsIn 106 dX12_size_40 (by omega) (by omega) (by omega) (by rw [h_40]; rfl) (by decide) ?_
        refine s_aload_n 107 dX12_size_106 rfl rfl ?_
        refine s_getR 110 dX12_size_107 rfl fl_X12_20 (fun _ _ _ _ => rfl) (T_X12_r hT) sh_138 (Nat.le_of_ble_eq_true rfl) ?_
        refine s_bipush 112 dX12_size_110 rfl (by decide) ?_
        refine s_iald 113 dX12_size_112 rfl sh_141 (Nat.le_of_ble_eq_true rfl) (by omega) (by omega) (fun r_112 => ?_)
        rw [er1] at r_112 ⊢
        refine s_iret dX12_size_113 rfl rfl ?_
        rw [if_neg (by assumption), pick_t (by assumption)] at h
        subst h_40
        exact h
      · refine s_tsIn 114 dX12_size_40 (by omega) (by omega) (by omega) (by rw [h_40]; rfl) (by decide) ?_
        refine s_aload_n 115 dX12_size_114 rfl rfl ?_
        refine s_getR 118 dX12_size_115 rfl fl_X12_20 (fun _ _ _ _ => rfl) (T_X12_r hT) sh_138 (Nat.le_of_ble_eq_true rfl) ?_
        refine s_bipush 120 dX12_size_118 rfl (by decide) ?_
        refine s_iald 121 dX12_size_120 rfl sh_141 (Nat.le_of_ble_eq_true rfl) (by omega) (by omega) (fun r_120 => ?_)
        rw [er1] at r_120 ⊢
        refine s_iret dX12_size_121 rfl rfl ?_
        rw [if_neg (by assumption), pick_t (by assumption)] at h
        subst h_40
        exact h
      · refine s_tsIn 122 dX12_size_40 (by omega) (by omega) (by omega) (by rw [h_40]; rfl) (by decide) ?_
        refine s_aload_n 123 dX12_size_122 rfl rfl ?_
        refine s_getR 126 dX12_size_123 rfl fl_X12_20 (fun _ _ _ _ => rfl) (T_X12_r hT) sh_138 (Nat.le_of_ble_eq_true rfl) ?_
        refine s_bipush 128 dX12_size_126 rfl (by decide) ?_
        refine s_iald 129 dX12_size_128 rfl sh_141 (Nat.le_of_ble_eq_true rfl) (by omega) (by omega) (fun r_128 => ?_)
        rw [er1] at r_128 ⊢
        refine s_iret dX12_size_129 rfl rfl ?_
        rw [if_neg (by assumption), pick_t (by assumption)] at h
        subst h_40
        exact h
      · refine s_tsIn 130 dX12_size_40 (by omega) (by omega) (by omega) (by rw [h_40]; rfl) (by decide) ?_
        refine s_aload_n 131 dX12_size_130 rfl rfl ?_
        refine s_getR 134 dX12_size_131 rfl fl_X12_20 (fun _ _ _ _ => rfl) (T_X12_r hT) sh_138 (Nat.le_of_ble_eq_true rfl) ?_
        refine s_iconst 135 dX12_size_134 rfl ?_
        refine s_iald 136 dX12_size_135 rfl sh_141 (Nat.le_of_ble_eq_true rfl) (by omega) (by omega) (fun r_135 => ?_)
        rw [er1] at r_135 ⊢
        refine s_iret dX12_size_136 rfl rfl ?_
        rw [if_neg (by assumption), pick_t (by assumption)] at h
        subst h_40
        exact h
      · refine s_tsIn 137 dX12_size_40 (by omega) (by omega) (by omega) (by rw [h_40]; rfl) (by decide) ?_
        refine s_aload_n 138 dX12_size_137 rfl rfl ?_
        refine s_getI 141 dX12_size_138 rfl fl_X12_206 (fun _ _ _ _ => rfl) sh_138 (Nat.le_of_ble_eq_true rfl) (fun r_138 => ?_)
        rw [u1]
        refine s_iret dX12_size_141 rfl rfl ?_
        rw [if_neg (by assumption), pick_t (by assumption)] at h
        subst h_40
        exact h
      · refine s_tsIn 142 dX12_size_40 (by omega) (by omega) (by omega) (by rw [h_40]; rfl) (by decide) ?_
        refine s_aload_n 143 dX12_size_142 rfl rfl ?_
        refine s_getI 146 dX12_size_143 rfl fl_X12_209 (fun _ _ _ _ => rfl) sh_138 (Nat.le_of_ble_eq_true rfl) (fun r_143 => ?_)
        rw [d1]
        refine s_iret dX12_size_146 rfl rfl ?_
        rw [if_neg (by assumption), pick_t (by assumption)] at h
        subst h_40
        exact h
      · refine s_tsIn 147 dX12_size_40 (by omega) (by omega) (by omega) (by rw [h_40]; rfl) (by decide) ?_
        refine s_aload_n 148 dX12_size_147 rfl rfl ?_
        refine s_getI 151 dX12_size_148 rfl fl_X12_212 (fun _ _ _ _ => rfl) sh_138 (Nat.le_of_ble_eq_true rfl) (fun r_148 => ?_)
        rw [k1]
        refine s_iret dX12_size_151 rfl rfl ?_
        rw [if_neg (by assumption), pick_t (by assumption)] at h
        subst h_40
        exact h
    refine s_iload_n 24 dX12_size_23 rfl rfl ?_
    refine s_iconst 25 dX12_size_24 rfl ?_
    refine s_bipush 27 dX12_size_25 rfl (by decide) ?_
    refine s_callS0 (M' := M_X12_within) (as := [_, _, _]) 30 dX12_size_27 rfl cw_X12_174 rfl rfl (Nat.le_of_ble_eq_true rfl) (Nat.le_of_ble_eq_true rfl) (Nat.le_of_ble_eq_true rfl) ⟨rfl, rfl, rfl⟩ ?_
    refine c_X12_within (by omega) (by omega) (by omega) ?_
    refine s_ifb_eq 37 33 dX12_size_30 rfl rfl (fun h_30 => ?_) (fun h_30 => ?_)
    · skip
      refine s_iconst 38 dX12_size_37 rfl ?_
      refine s_iret dX12_size_38 rfl rfl ?_
      rw [if_neg (by assumption), pick_f (by assumption)] at h
      first | (rw [if_pos (by assumption)] at h; exact h) | (rw [if_neg (by assumption)] at h; exact h)
    refine s_iconst 34 dX12_size_33 rfl ?_
    refine s_goto 38 dX12_size_34 rfl ?_
    refine s_iret dX12_size_38 rfl rfl ?_
    rw [if_neg (by assumption), pick_f (by assumption)] at h
    first | (rw [if_pos (by assumption)] at h; exact h) | (rw [if_neg (by assumption)] at h; exact h)
  refine s_aload_n 12 dX12_size_11 rfl rfl ?_
  refine s_getI 15 dX12_size_12 rfl fl_X12_87 (fun _ _ _ _ => rfl) sh_138 (Nat.le_of_ble_eq_true rfl) (fun r_12 => ?_)
  rw [n1]
  refine s_iret dX12_size_15 rfl rfl ?_
  rw [if_pos (by assumption)] at h; exact h
set_option maxHeartbeats 4000000 in
theorem c_X12_trouble {E : ET} {I : MI} {L : ML} {R : MR} {Q : Option AV → MI → ML → MR → Prop} {bt r s : F1} {n ft pl w : Int} {HP : Prop} {U D K : List (List Int)} (hM : MV I bt n ft pl w HP r s U D K) (h : Q (some (vi w)) (tz I 0) L R) : CT E M_X12_trouble 161 yX12_trouble [(vr (138))] I L R Q := by
  refine CT_of rfl rfl (fun h => by cases h) (Nat.le_of_ble_eq_true rfl) (fun X => ?_)
  show V X _ z0 0 [some (vr (138))] [] I L R _
  have e := (MV.tz0 (v := 0) hM).1.2.2.2.2.1
  have e1 : up I 138 0 0 138 11 = w := e
  refine s_aload_n 1 dX12_trouble_0 rfl rfl ?_
  refine s_iconst 2 dX12_trouble_1 rfl ?_
  refine s_putI 5 dX12_trouble_2 rfl fl_X12_81 (fun _ => rfl) (fun _ => rfl) (fun _ _ _ _ => rfl) sh_138 (Nat.le_of_ble_eq_true rfl) (by first | omega | exact bI_r _ | exact iI_r _) ?_
  refine s_aload_n 6 dX12_trouble_5 rfl rfl ?_
  refine s_getI 9 dX12_trouble_6 rfl fl_X12_84 (fun _ _ _ _ => rfl) sh_138 (Nat.le_of_ble_eq_true rfl) (fun r_6 => ?_)
  rw [e1]
  refine s_iret dX12_trouble_9 rfl rfl ?_
  exact h
set_option maxHeartbeats 4000000 in
theorem c_X12_fault {E : ET} {I : MI} {L : ML} {R : MR} {Q : Option AV → MI → ML → MR → Prop} {bt r s : F1} {n ft pl w : Int} {HP : Prop} {U D K : List (List Int)} (hM : MV I bt n ft pl w HP r s U D K) (h : Q (some (vi ft)) (tz I 0) L R) : CT E M_X12_fault 161 yX12_fault [(vr (138))] I L R Q := by
  refine CT_of rfl rfl (fun h => by cases h) (Nat.le_of_ble_eq_true rfl) (fun X => ?_)
  show V X _ z0 0 [some (vr (138))] [] I L R _
  have e := (MV.tz0 (v := 0) hM).1.2.2.1
  have e1 : up I 138 0 0 138 9 = ft := e
  refine s_aload_n 1 dX12_fault_0 rfl rfl ?_
  refine s_iconst 2 dX12_fault_1 rfl ?_
  refine s_putI 5 dX12_fault_2 rfl fl_X12_81 (fun _ => rfl) (fun _ => rfl) (fun _ _ _ _ => rfl) sh_138 (Nat.le_of_ble_eq_true rfl) (by first | omega | exact bI_r _ | exact iI_r _) ?_
  refine s_aload_n 6 dX12_fault_5 rfl rfl ?_
  refine s_getI 9 dX12_fault_6 rfl fl_X12_123 (fun _ _ _ _ => rfl) sh_138 (Nat.le_of_ble_eq_true rfl) (fun r_6 => ?_)
  rw [e1]
  refine s_iret dX12_fault_9 rfl rfl ?_
  exact h
set_option maxHeartbeats 4000000 in
theorem c_X12_where {E : ET} {I : MI} {L : ML} {R : MR} {Q : Option AV → MI → ML → MR → Prop} {bt r s : F1} {n ft pl w : Int} {HP : Prop} {U D K : List (List Int)} (hM : MV I bt n ft pl w HP r s U D K) (h : Q (some (vi (if w = 4 then pl else -1))) (tz I 0) L R) : CT E M_X12_where 161 yX12_where [(vr (138))] I L R Q := by
  refine CT_of rfl rfl (fun h => by cases h) (Nat.le_of_ble_eq_true rfl) (fun X => ?_)
  show V X _ z0 0 [some (vr (138))] [] I L R _
  have e := (MV.tz0 (v := 0) hM).1.2.2.2.2.1
  have e1 : up I 138 0 0 138 11 = w := e
  have e2 : up I 138 0 0 138 10 = pl := (MV.tz0 (v := 0) hM).1.2.2.2.1
  refine s_aload_n 1 dX12_where_0 rfl rfl ?_
  refine s_iconst 2 dX12_where_1 rfl ?_
  refine s_putI 5 dX12_where_2 rfl fl_X12_81 (fun _ => rfl) (fun _ => rfl) (fun _ _ _ _ => rfl) sh_138 (Nat.le_of_ble_eq_true rfl) (by first | omega | exact bI_r _ | exact iI_r _) ?_
  refine s_aload_n 6 dX12_where_5 rfl rfl ?_
  refine s_getI 9 dX12_where_6 rfl fl_X12_84 (fun _ _ _ _ => rfl) sh_138 (Nat.le_of_ble_eq_true rfl) (fun r_6 => ?_)
  rw [e1] at r_6 ⊢
  refine s_iconst 10 dX12_where_9 rfl ?_
  refine s_icmp_ne 20 13 dX12_where_10 rfl rfl (by first | omega | exact bI_r _ | exact iI_r _) (by first | omega | exact bI_r _ | exact iI_r _) (fun h_10 => ?_) (fun h_10 => ?_)
  · skip
    refine s_iconst 21 dX12_where_20 rfl ?_
    refine s_iret dX12_where_21 rfl rfl ?_
    first | (rw [if_pos (by assumption)] at h; exact h) | (rw [if_neg (by assumption)] at h; exact h)
  refine s_aload_n 14 dX12_where_13 rfl rfl ?_
  refine s_getI 17 dX12_where_14 rfl fl_X12_13 (fun _ _ _ _ => rfl) sh_138 (Nat.le_of_ble_eq_true rfl) (fun r_14 => ?_)
  rw [e2]
  refine s_goto 21 dX12_where_17 rfl ?_
  refine s_iret dX12_where_21 rfl rfl ?_
  first | (rw [if_pos (by assumption)] at h; exact h) | (rw [if_neg (by assumption)] at h; exact h)
set_option maxHeartbeats 4000000 in
theorem c_X12_thrown {E : ET} {I : MI} {L : ML} {R : MR} {Q : Option AV → MI → ML → MR → Prop} {v : Int} (e : I 138 0 = v) (h : Q (some (vi v)) I L R) : CT E M_X12_thrown 161 yX12_thrown [(vr (138))] I L R Q := by
  refine CT_of rfl rfl (fun h => by cases h) (Nat.le_of_ble_eq_true rfl) (fun X => ?_)
  show V X _ z0 0 [some (vr (138))] [] I L R _
  refine s_aload_n 1 dX12_thrown_0 rfl rfl ?_
  refine s_getI 4 dX12_thrown_1 rfl fl_X12_81 (fun _ _ _ _ => rfl) sh_138 (Nat.le_of_ble_eq_true rfl) (fun r_1 => ?_)
  rw [e]
  refine s_iret dX12_thrown_4 rfl rfl ?_
  exact h
