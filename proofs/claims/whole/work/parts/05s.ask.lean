/-! what a PIECE is asked; beards are told of bearded ones alone -/
def wHr (r : F1) : Prop := ∀ p, 0 ≤ p → p < 7 → r (9 + p) ≠ 1 → r (37 + p) = 0
theorem wHr_c {r r' : F1} (h : wHr r) (e : ∀ j, 9 ≤ j → j < 44 → r' j = r j) : wHr r' := fun p a b c => by
  rw [e (37 + p) (by omega) (by omega)]
  rw [e (9 + p) (by omega) (by omega)] at c
  exact h p a b c
theorem kiKH (bt : F1) (n : Int) (o : PO) : kiK bt n o ≠ 1 → kiH bt n o = 0 := by
  intro h
  cases o with
  | inl q => rfl
  | inr a =>
    show pick (isW bt n (wS 38) (.inr a)) (nuV bt n 0 99 (.inr (nxE bt n a))) 0 = 0
    by_cases z : isW bt n (wS 38) (.inr a)
    · exact absurd (show kiK bt n (.inr a) = 1 from pick_t z) h
    · exact pick_f z
theorem ptR_h {bt r : F1} {n : Int} {o : PO} (h : wHr r) (hd : wHd r) (h6 : r 4 ≤ 6) (hO : ¬ isE (ptO bt n r o)) : wHr (ptR bt n r o) := by
  obtain ⟨a0, -, hm, hf, -, hR⟩ := nnO_s (ptO_A hO)
  have hR := hR (r 4)
  unfold wHd at hd
  have e : ∀ j, j < 173 → j ≠ 4 → j ≠ 9 + r 4 → j ≠ 16 + r 4 → j ≠ 23 + r 4 → j ≠ 30 + r 4 → j ≠ 37 + r 4 → ptR bt n r o j = r j := fun j j0 j1 j2 j3 j4 j5 j6 => by
    unfold ptR
    rw [sr_n j1, sr_n j5, sr_n j4, sr_n j3, sr_n j6, sr_n j2, hR, setN_n (by omega) (by omega)]
  have v9 : ptR bt n r o (9 + r 4) = kiK bt n (ptA bt n r o) := by unfold ptR; rw [sr_n (by omega), sr_n (by omega), sr_n (by omega), sr_n (by omega), sr_n (by omega), sr_e]
  have v37 : ptR bt n r o (37 + r 4) = kiH bt n (ptA bt n r o) := by unfold ptR; rw [sr_n (by omega), sr_n (by omega), sr_n (by omega), sr_n (by omega), sr_e]
  intro p a b c
  by_cases hp : p = r 4
  · subst hp
    rw [v9] at c
    rw [v37]
    exact kiKH _ _ _ c
  · rw [e (37 + p) (by omega) (by omega) (by omega) (by omega) (by omega) (by omega) (by omega)]
    rw [e (9 + p) (by omega) (by omega) (by omega) (by omega) (by omega) (by omega) (by omega)] at c
    exact h p a b c
theorem liR_h {bt r : F1} {n a : Int} (hw : WFp r) (h : wHr r) (hO : ¬ isE (liO bt n r a)) : wHr (liR bt n r a) := by
  have hd := hw.1
  have hd' := hd
  unfold wHd at hd'
  rcases liK_c bt n a with ⟨k, -⟩ | ⟨-, ⟨k, -⟩ | ⟨-, ⟨k, -⟩ | ⟨-, ⟨k, -⟩ | ⟨-, ⟨k, -⟩ | ⟨-, ⟨k, -⟩ | ⟨-, k⟩⟩⟩⟩⟩⟩
  · rw [(li_0 k).2]
    refine wHr_c h (fun j a b => ?_)
    unfold plR
    rw [sr_n (by omega), sr_n (by omega), sr_n (by omega), sr_n (by omega)]
  · rw [(li_1 k).1] at hO
    rw [(li_1 k).2]
    have := (bgO_s (fun z => ptO_A hO (isE_nn z))).1
    exact ptR_h h hd (by omega) hO
  · rw [(li_2 k).1] at hO
    rw [(li_2 k).2]
    have := (bgO_s (fun z => scO_A hO (isE_nn z))).1
    refine wHr_c h (fun j a b => ?_)
    unfold scR
    rw [sr_n (by omega), sr_n (by omega), nnR_l (by omega) (by omega)]
  · rw [(li_3 k).1] at hO
    rw [(li_3 k).2]
    have hs := afO_s hw.2.2.2.2.2.2.2.1 hO
    refine wHr_c h (fun j a b => ?_)
    unfold afR
    rw [sr_n (by omega), sr_n (by omega)]
  · rw [(li_4 k).2]
    refine wHr_c h (fun j a b => ?_)
    unfold onR
    rw [sr_n (by omega), sr_n (by omega), sr_n (by omega), sr_n (by omega), sr_n (by omega), sr_n (by omega), sr_n (by omega), sr_n (by omega)]
  · rw [(li_5 k).2]
    refine wHr_c h (fun j a b => ?_)
    unfold swR
    rw [sr_n (by omega), sr_n (by omega), sr_n (by omega), sr_n (by omega)]
  · rw [li_6 k] at hO; exact absurd trivial hO
theorem rsF_h {bt : F1} {n : Int} : ∀ (f : Nat) (r : F1) (o : PO), (¬ isE o → WFp r ∧ wHr r) → ¬ isE (rsF bt n f r o).1 → wHr (rsF bt n f r o).2
  | 0, r, o, h, h2 => (h h2).2
  | f + 1, r, o, h, h2 => by
    cases o with
    | inl q => exact absurd trivial h2
    | inr b =>
      by_cases z : tkE bt n b = 59
      · have e : rsF bt n (f + 1) r (.inr b) = rsF bt n f (liR bt n r (nxE bt n b)) (liO bt n r (nxE bt n b)) := pick_t z
        rw [e] at h2 ⊢
        exact rsF_h f _ _ (fun y => ⟨liR_w (h id).1 y, liR_h (h id).1 (h id).2 y⟩) h2
      · have e : rsF bt n (f + 1) r (.inr b) = (.inr b, r) := pick_f z
        rw [e]; exact (h id).2
theorem finF_h {bt : F1} {n : Int} {r : F1} (h : finF bt n = .inr r) : wHr r := by
  have key : ∃ b, rdF bt n = (.inr b, r) := by
    unfold finF at h
    cases hq : rdF bt n with
    | mk o r1 =>
      rw [hq] at h
      cases o with
      | inl q => cases h
      | inr b =>
        have h : pick (tkE bt n b = 0) (pick (r1 0 = 0 ∨ r1 4 = 0 ∨ r1 5 = 0) (.inl (6, b)) (.inr r1)) (.inl (1, b)) = (.inr r : (Int × Int) ⊕ F1) := h
        by_cases z : tkE bt n b = 0
        · rw [pick_t z] at h
          by_cases y : r1 0 = 0 ∨ r1 4 = 0 ∨ r1 5 = 0
          · rw [pick_t y] at h; cases h
          · rw [pick_f y] at h; cases h; exact ⟨b, rfl⟩
        · rw [pick_f z] at h; cases h
  obtain ⟨b, e⟩ := key
  have h0 : wHr (fun _ => 0) := fun p _ _ _ => rfl
  have g := rsF_h (bt := bt) (n := n) 902 (liR bt n (fun _ => 0) (skE bt n 0)) (liO bt n (fun _ => 0) (skE bt n 0)) (fun z => ⟨liR_w WFp_0 z, liR_h WFp_0 h0 z⟩)
  have e2 : rsF bt n 902 (liR bt n (fun _ => 0) (skE bt n 0)) (liO bt n (fun _ => 0) (skE bt n 0)) = (.inr b, r) := e
  rw [e2] at g
  exact g id
set_option maxHeartbeats 4000000 in
theorem c_X5_allParts {E : ET} {I : MI} {L : ML} {R : MR} {Q : Option AV → MI → ML → MR → Prop} {P : Nat} {r : F1} (hP : isP P) (hR : PR I P r) (h : Q (some (vi (allF (r 4)))) I L R) : CT E M_X5_allParts 161 yX5_allParts [(vr (P))] I L R Q := by
  refine CT_of rfl rfl (fun h => by cases h) (Nat.le_of_ble_eq_true rfl) (fun X => ?_)
  show V X _ z0 0 [some (vr (P))] [] I L R _
  rw [← hR.1.2.2.2.1] at h
  refine s_iconst 1 dX5_allParts_0 rfl ?_
  refine s_aload_n 2 dX5_allParts_1 rfl rfl ?_
  refine s_getI 5 dX5_allParts_2 rfl fl_X5_45 (fun _ _ _ _ => rfl) (isP_sh hP) (isP_lt hP) (fun r_2 => ?_)
  refine s_ishl 6 dX5_allParts_5 rfl ?_
  refine s_iconst 7 dX5_allParts_6 rfl ?_
  refine s_isub 8 dX5_allParts_7 rfl ?_
  refine s_iret dX5_allParts_8 rfl rfl ?_
  exact h
set_option maxHeartbeats 4000000 in
theorem c_X5_allOns {E : ET} {I : MI} {L : ML} {R : MR} {Q : Option AV → MI → ML → MR → Prop} {P : Nat} {r : F1} (hP : isP P) (hR : PR I P r) (h : Q (some (vi (allF (r 7)))) I L R) : CT E M_X5_allOns 161 yX5_allOns [(vr (P))] I L R Q := by
  refine CT_of rfl rfl (fun h => by cases h) (Nat.le_of_ble_eq_true rfl) (fun X => ?_)
  show V X _ z0 0 [some (vr (P))] [] I L R _
  rw [← hR.1.2.2.2.2.2.2.1] at h
  refine s_iconst 1 dX5_allOns_0 rfl ?_
  refine s_aload_n 2 dX5_allOns_1 rfl rfl ?_
  refine s_getI 5 dX5_allOns_2 rfl fl_X5_54 (fun _ _ _ _ => rfl) (isP_sh hP) (isP_lt hP) (fun r_2 => ?_)
  refine s_ishl 6 dX5_allOns_5 rfl ?_
  refine s_iconst 7 dX5_allOns_6 rfl ?_
  refine s_isub 8 dX5_allOns_7 rfl ?_
  refine s_iret dX5_allOns_8 rfl rfl ?_
  exact h
/-- the APPEARANCES of some parts -/
noncomputable def onsS (r : F1) (some : Int) : Int := setOf (fun k => hasI some (r (54 + 7 * k + 0))) (r 7).toNat
theorem has_onsS {r : F1} {s k : Int} (hr : 0 ≤ r 7 ∧ r 7 ≤ 14) (hk : 0 ≤ k ∧ k < 32) : hasI (onsS r s) k ↔ k < r 7 ∧ hasI s (r (54 + 7 * k + 0)) := by
  unfold onsS
  rw [has_setOf (by omega) hk, show ((r 7).toNat : Int) = r 7 by omega]
set_option maxHeartbeats 4000000 in
theorem c_X5_onsOfParts {E : ET} {I : MI} {L : ML} {R : MR} {Q : Option AV → MI → ML → MR → Prop} {P : Nat} {r : F1} {s : Int} (hT : Topo R) (hP : isP P) (hr : WFr r) (hR : PR I P r) (h : Q (some (vi (onsS r s))) I L R) : CT E M_X5_onsOfParts 161 yX5_onsOfParts [(vr (P)), (vi (s))] I L R Q := by
  refine CT_of rfl rfl (fun h => by cases h) (Nat.le_of_ble_eq_true rfl) (fun X => ?_)
  show V X _ z0 0 [some (vr (P)), some (vi (s)), none, none] [] I L R _
  have e0 := hr.1
  have e4 := hR.1.2.2.2.1
  have eO := hR.2.2.2.2.2.2.2
  have loop : ∀ (f : Nat) (p S : Int), r 4 - p < (f : Int) → 0 ≤ p → p ≤ r 4 → (-2147483648 ≤ S ∧ S ≤ 2147483647) → (∀ k, 0 ≤ k → k < 32 → (hasI S k ↔ k < r 7 ∧ r (54 + 7 * k + 0) < p ∧ hasI s (r (54 + 7 * k + 0)))) → V X M_X5_onsOfParts z0 4 [some (vr (P)), some (vi (s)), some (vi (S)), some (vi (p))] [] (I) L R (RT X M_X5_onsOfParts Q) := by
    intro f
    induction f with
    | zero => intro p S h1 h2 h3; omega
    | succ f ih =>
      intro p S h1 h2 h3 hS h4
      by_cases hp : p < r 4
      · have eo := eO p h2 (by omega)
        have hin : ∀ k, 0 ≤ k → k < r 7 → 0 ≤ r (54 + 7 * k + 0) ∧ r (54 + 7 * k + 0) < r 4 := fun k a b => ⟨(hr.2.2.2.1 k a b).1, (hr.2.2.2.1 k a b).2.1⟩
        by_cases e : hasI s p
        · skip
          refine s_iload_n 5 dX5_onsOfParts_4 rfl rfl ?_
          refine s_aload_n 6 dX5_onsOfParts_5 rfl rfl ?_
          refine s_getI 9 dX5_onsOfParts_6 rfl fl_X5_45 (fun _ _ _ _ => rfl) (isP_sh hP) (isP_lt hP) (fun r_6 => ?_)
          rw [e4]
          refine s_icmp_ge 36 12 dX5_onsOfParts_9 rfl rfl (by first | omega | exact iand_r _ _) (by first | omega | exact iand_r _ _) (fun h_9 => by exfalso; omega) (fun h_9 => ?_)
          refine s_iload_n 13 dX5_onsOfParts_12 rfl rfl ?_
          refine s_iload_n 14 dX5_onsOfParts_13 rfl rfl ?_
          refine s_ishr 15 dX5_onsOfParts_14 rfl ?_
          refine s_iconst 16 dX5_onsOfParts_15 rfl ?_
          refine s_iand 17 dX5_onsOfParts_16 rfl ?_
          refine s_iconst 18 dX5_onsOfParts_17 rfl ?_
          refine s_icmp_ne 30 21 dX5_onsOfParts_18 rfl rfl (by first | omega | exact iand_r _ _) (by first | omega | exact iand_r _ _) (fun h_18 => by exfalso; exact h_18 e) (fun h_18 => ?_)
          refine s_iload_n 22 dX5_onsOfParts_21 rfl rfl ?_
          refine s_aload_n 23 dX5_onsOfParts_22 rfl rfl ?_
          refine s_getR 26 dX5_onsOfParts_23 rfl fl_X5_29 (fun _ _ _ _ => rfl) (T_X5_onsOfPart hT hP) (isP_sh hP) (isP_lt hP) ?_
          refine s_iload_n 27 dX5_onsOfParts_26 rfl rfl ?_
          refine s_iald 28 dX5_onsOfParts_27 rfl (shP_onsOfPart hP) (ltP_onsOfPart hP) (by omega) (by omega) (fun r_27 => ?_)
          rw [eo]
          refine s_ior 29 dX5_onsOfParts_28 rfl ?_
          refine s_istore_n (ls' := [_, _, _, _]) 30 dX5_onsOfParts_29 rfl (Nat.le_of_ble_eq_true rfl) rfl rfl ?_
          refine s_iinc (ls' := [_, _, _, _]) 33 dX5_onsOfParts_30 rfl rfl (Nat.le_of_ble_eq_true rfl) rfl rfl ?_
          refine s_goto 4 dX5_onsOfParts_33 rfl ?_
          refine ih (p + 1) _ (by omega) (by omega) (by omega) (ior_r _ _) (fun k k1 k2 => ?_)
          rw [has_or ⟨k1, k2⟩, h4 k k1 k2, has_setOf (by omega) ⟨k1, k2⟩, show ((r 7).toNat : Int) = r 7 by omega]
          constructor
          · rintro (⟨a, b, c⟩ | ⟨a, b⟩)
            · exact ⟨a, by omega, c⟩
            · rw [b]; exact ⟨a, by omega, e⟩
          · rintro ⟨a, b, c⟩
            by_cases y : r (54 + 7 * k + 0) = p
            · exact Or.inr ⟨a, y⟩
            · exact Or.inl ⟨a, by omega, c⟩
        · skip
          refine s_iload_n 5 dX5_onsOfParts_4 rfl rfl ?_
          refine s_aload_n 6 dX5_onsOfParts_5 rfl rfl ?_
          refine s_getI 9 dX5_onsOfParts_6 rfl fl_X5_45 (fun _ _ _ _ => rfl) (isP_sh hP) (isP_lt hP) (fun r_6 => ?_)
          rw [e4]
          refine s_icmp_ge 36 12 dX5_onsOfParts_9 rfl rfl (by first | omega | exact iand_r _ _) (by first | omega | exact iand_r _ _) (fun h_9 => by exfalso; omega) (fun h_9 => ?_)
          refine s_iload_n 13 dX5_onsOfParts_12 rfl rfl ?_
          refine s_iload_n 14 dX5_onsOfParts_13 rfl rfl ?_
          refine s_ishr 15 dX5_onsOfParts_14 rfl ?_
          refine s_iconst 16 dX5_onsOfParts_15 rfl ?_
          refine s_iand 17 dX5_onsOfParts_16 rfl ?_
          refine s_iconst 18 dX5_onsOfParts_17 rfl ?_
          refine s_icmp_ne 30 21 dX5_onsOfParts_18 rfl rfl (by first | omega | exact iand_r _ _) (by first | omega | exact iand_r _ _) (fun h_18 => ?_) (fun h_18 => by exfalso; exact e h_18)
          refine s_iinc (ls' := [_, _, _, _]) 33 dX5_onsOfParts_30 rfl rfl (Nat.le_of_ble_eq_true rfl) rfl rfl ?_
          refine s_goto 4 dX5_onsOfParts_33 rfl ?_
          refine ih (p + 1) S (by omega) (by omega) (by omega) hS (fun k k1 k2 => ?_)
          rw [h4 k k1 k2]
          constructor
          · rintro ⟨a, b, c⟩
            exact ⟨a, by omega, c⟩
          · rintro ⟨a, b, c⟩
            by_cases y : r (54 + 7 * k + 0) = p
            · rw [y] at c; exact absurd c e
            · exact ⟨a, by omega, c⟩
      · have ep : p = r 4 := by omega
        subst ep
        have eS : S = onsS r s := set_ext hS (setOf_r _ _) (fun k k1 k2 => by
          rw [h4 k k1 k2, has_onsS (by omega) ⟨k1, k2⟩]
          exact ⟨fun z => ⟨z.1, z.2.2⟩, fun z => ⟨z.1, (hr.2.2.2.1 k k1 z.1).2.1, z.2⟩⟩)
        subst eS
        refine s_iload_n 5 dX5_onsOfParts_4 rfl rfl ?_
        refine s_aload_n 6 dX5_onsOfParts_5 rfl rfl ?_
        refine s_getI 9 dX5_onsOfParts_6 rfl fl_X5_45 (fun _ _ _ _ => rfl) (isP_sh hP) (isP_lt hP) (fun r_6 => ?_)
        rw [e4]
        refine s_icmp_ge 36 12 dX5_onsOfParts_9 rfl rfl (by first | omega | exact bI_r _ | exact iI_r _) (by first | omega | exact bI_r _ | exact iI_r _) (fun h_9 => ?_) (fun h_9 => by exfalso; omega)
        refine s_iload_n 37 dX5_onsOfParts_36 rfl rfl ?_
        refine s_iret dX5_onsOfParts_37 rfl rfl ?_
        exact h
  refine s_iconst 1 dX5_onsOfParts_0 rfl ?_
  refine s_istore_n (ls' := [_, _, _, _]) 2 dX5_onsOfParts_1 rfl (Nat.le_of_ble_eq_true rfl) rfl rfl ?_
  refine s_iconst 3 dX5_onsOfParts_2 rfl ?_
  refine s_istore_n (ls' := [_, _, _, _]) 4 dX5_onsOfParts_3 rfl (Nat.le_of_ble_eq_true rfl) rfl rfl ?_
  exact loop 9 0 0 (by omega) (by omega) (by omega) (by omega) (fun k k1 k2 => ⟨fun z => absurd z (has_0 ⟨k1, k2⟩), fun z => by have := (hr.2.2.2.1 k k1 z.1).1; omega⟩)
set_option maxHeartbeats 4000000 in
theorem c_X5_changeTime {E : ET} {I : MI} {L : ML} {R : MR} {Q : Option AV → MI → ML → MR → Prop} {P : Nat} {r : F1} {p q rd : Int} (hT : Topo R) (hP : isP P) (hr : WFr r) (hh : wHr r) (hR : PR I P r) (hp : 0 ≤ p ∧ p < r 4) (hq : 0 ≤ q ∧ q < r 4) (hrd : -1 ≤ rd ∧ rd ≤ 7) (h : Q (some (vi (chF r rd p q))) I L R) : CT E M_X5_changeTime 161 yX5_changeTime [(vr (P)), (vi (p)), (vi (q)), (vi (rd))] I L R Q := by
  refine CT_of rfl rfl (fun h => by cases h) (Nat.le_of_ble_eq_true rfl) (fun X => ?_)
  show V X _ z0 0 [some (vr (P)), some (vi (p)), some (vi (q)), some (vi (rd)), none, none, none] [] I L R _
  have e0 := hr.1
  have rp := hR.2.2.1 p hp.1 hp.2
  have rq := hR.2.2.1 q hq.1 hq.2
  unfold rowP at rp rq
  have wp := hr.2.1 p hp.1 (by omega)
  have wq := hr.2.1 q hq.1 (by omega)
  have hq1 := hh q hq.1 (by omega)
  unfold chF rdy at h
  refine s_iload_n 1 dX5_changeTime_0 rfl rfl ?_
  refine s_iload_n 2 dX5_changeTime_1 rfl rfl ?_
  refine s_icmp_ne 7 5 dX5_changeTime_2 rfl rfl (by first | omega | exact bI_r _ | exact iI_r _) (by first | omega | exact bI_r _ | exact iI_r _) (fun h_2 => ?_) (fun h_2 => ?_)
  · skip
    refine s_iload_n 8 dX5_changeTime_7 rfl rfl ?_
    refine s_iload_n 9 dX5_changeTime_8 rfl rfl ?_
    refine s_icmp_ne 16 12 dX5_changeTime_9 rfl rfl (by first | omega | exact bI_r _ | exact iI_r _) (by first | omega | exact bI_r _ | exact iI_r _) (fun h_9 => ?_) (fun h_9 => ?_)
    · skip
      refine s_aload_n 17 dX5_changeTime_16 rfl rfl ?_
      refine s_getR 20 dX5_changeTime_17 rfl fl_X5_11 (fun _ _ _ _ => rfl) (T_X5_parts hT hP) (isP_sh hP) (isP_lt hP) ?_
      refine s_iload_n 21 dX5_changeTime_20 rfl rfl ?_
      refine s_aald 22 dX5_changeTime_21 rfl (shP_parts hP) (ltP_parts hP) (by omega) (by decide) (T_X5_parts_row hT hP (by omega)) ?_
      refine s_iconst 23 dX5_changeTime_22 rfl ?_
      refine s_iald 24 dX5_changeTime_23 rfl (shP_parts_row hP (by omega)) (ltP_parts_row hP (by omega)) (by omega) (by omega) (fun r_23 => ?_)
      (try rw [rp.2.2.2.1])
      refine s_istore (ls' := [_, _, _, _, _, _, _]) 26 dX5_changeTime_24 rfl (Nat.le_of_ble_eq_true rfl) rfl rfl ?_
      refine s_iload_n 27 dX5_changeTime_26 rfl rfl ?_
      refine s_iload_n 28 dX5_changeTime_27 rfl rfl ?_
      refine s_icmp_ne 35 31 dX5_changeTime_28 rfl rfl (by first | omega | exact bI_r _ | exact iI_r _) (by first | omega | exact bI_r _ | exact iI_r _) (fun h_28 => ?_) (fun h_28 => ?_)
      · skip
        refine s_aload_n 36 dX5_changeTime_35 rfl rfl ?_
        refine s_getR 39 dX5_changeTime_36 rfl fl_X5_11 (fun _ _ _ _ => rfl) (T_X5_parts hT hP) (isP_sh hP) (isP_lt hP) ?_
        refine s_iload_n 40 dX5_changeTime_39 rfl rfl ?_
        refine s_aald 41 dX5_changeTime_40 rfl (shP_parts hP) (ltP_parts hP) (by omega) (by decide) (T_X5_parts_row hT hP (by omega)) ?_
        refine s_iconst 42 dX5_changeTime_41 rfl ?_
        refine s_iald 43 dX5_changeTime_42 rfl (shP_parts_row hP (by omega)) (ltP_parts_row hP (by omega)) (by omega) (by omega) (fun r_42 => ?_)
        rw [rq.2.2.1]
        refine s_aload_n 44 dX5_changeTime_43 rfl rfl ?_
        refine s_getR 47 dX5_changeTime_44 rfl fl_X5_11 (fun _ _ _ _ => rfl) (T_X5_parts hT hP) (isP_sh hP) (isP_lt hP) ?_
        refine s_iload_n 48 dX5_changeTime_47 rfl rfl ?_
        refine s_aald 49 dX5_changeTime_48 rfl (shP_parts hP) (ltP_parts hP) (by omega) (by decide) (T_X5_parts_row hT hP (by omega)) ?_
        refine s_iconst 50 dX5_changeTime_49 rfl ?_
        refine s_iald 51 dX5_changeTime_50 rfl (shP_parts_row hP (by omega)) (ltP_parts_row hP (by omega)) (by omega) (by omega) (fun r_50 => ?_)
        rw [rq.2.2.2.2]
        refine s_iadd 52 dX5_changeTime_51 rfl ?_
        refine s_istore (ls' := [_, _, _, _, _, _, _]) 54 dX5_changeTime_52 rfl (Nat.le_of_ble_eq_true rfl) rfl rfl ?_
        refine s_aload_n 55 dX5_changeTime_54 rfl rfl ?_
        refine s_getR 58 dX5_changeTime_55 rfl fl_X5_11 (fun _ _ _ _ => rfl) (T_X5_parts hT hP) (isP_sh hP) (isP_lt hP) ?_
        refine s_iload_n 59 dX5_changeTime_58 rfl rfl ?_
        refine s_aald 60 dX5_changeTime_59 rfl (shP_parts hP) (ltP_parts hP) (by omega) (by decide) (T_X5_parts_row hT hP (by omega)) ?_
        refine s_iconst 61 dX5_changeTime_60 rfl ?_
        refine s_iald 62 dX5_changeTime_61 rfl (shP_parts_row hP (by omega)) (ltP_parts_row hP (by omega)) (by omega) (by omega) (fun r_61 => ?_)
        rw [rq.2.1]
        refine s_aload_n 63 dX5_changeTime_62 rfl rfl ?_
        refine s_getR 66 dX5_changeTime_63 rfl fl_X5_11 (fun _ _ _ _ => rfl) (T_X5_parts hT hP) (isP_sh hP) (isP_lt hP) ?_
        refine s_iload_n 67 dX5_changeTime_66 rfl rfl ?_
        refine s_aald 68 dX5_changeTime_67 rfl (shP_parts hP) (ltP_parts hP) (by omega) (by decide) (T_X5_parts_row hT hP (by omega)) ?_
        refine s_iconst 69 dX5_changeTime_68 rfl ?_
        refine s_iald 70 dX5_changeTime_69 rfl (shP_parts_row hP (by omega)) (ltP_parts_row hP (by omega)) (by omega) (by omega) (fun r_69 => ?_)
        rw [rp.2.1]
        refine s_isub 71 dX5_changeTime_70 rfl ?_
        refine s_istore (ls' := [_, _, _, _, _, _, _]) 73 dX5_changeTime_71 rfl (Nat.le_of_ble_eq_true rfl) rfl rfl ?_
        refine s_iload 75 dX5_changeTime_73 rfl rfl ?_
        refine s_if_le 81 78 dX5_changeTime_75 rfl rfl (by first | omega | exact bI_r _ | exact iI_r _) (fun h_75 => ?_) (fun h_75 => ?_)
        · skip
          refine s_iload 83 dX5_changeTime_81 rfl rfl ?_
          refine s_if_ge 91 86 dX5_changeTime_83 rfl rfl (by first | omega | exact bI_r _ | exact iI_r _) (fun h_83 => ?_) (fun h_83 => ?_)
          · skip
            refine s_iload 93 dX5_changeTime_91 rfl rfl ?_
            refine s_iload 95 dX5_changeTime_93 rfl rfl ?_
            refine s_iadd 96 dX5_changeTime_95 rfl ?_
            refine s_iret dX5_changeTime_96 rfl rfl ?_
            simp only [if_neg h_2] at h; rw [if_neg (by omega)] at h; (first | (rw [if_pos (by omega)] at h; first | (rw [if_pos h_9] at h; exact h) | (rw [if_neg h_9] at h; exact h)) | (rw [if_neg (by omega)] at h; (first | rw [if_pos h_9] at h | rw [if_neg h_9] at h); first | (rw [if_pos h_28, if_pos h_28] at h; split at h <;> (rw [Int.add_comm]; exact h)) | (rw [if_neg h_28, if_neg h_28] at h; split at h <;> first | (rw [Int.add_comm]; exact h) | (rw [hq1 (by assumption), Int.add_comm]; exact h))))
          refine s_iload 88 dX5_changeTime_86 rfl rfl ?_
          refine s_goto 96 dX5_changeTime_88 rfl ?_
          refine s_iret dX5_changeTime_96 rfl rfl ?_
          simp only [if_neg h_2] at h; rw [if_neg (by omega)] at h; (first | (rw [if_pos (by omega)] at h; first | (rw [if_pos h_9] at h; exact h) | (rw [if_neg h_9] at h; exact h)) | (rw [if_neg (by omega)] at h; (first | rw [if_pos h_9] at h | rw [if_neg h_9] at h); first | (rw [if_pos h_28, if_pos h_28] at h; split at h <;> (rw [Int.add_comm]; exact h)) | (rw [if_neg h_28, if_neg h_28] at h; split at h <;> first | (rw [Int.add_comm]; exact h) | (rw [hq1 (by assumption), Int.add_comm]; exact h))))
        refine s_iload 80 dX5_changeTime_78 rfl rfl ?_
        refine s_iret dX5_changeTime_80 rfl rfl ?_
        simp only [if_neg h_2] at h; rw [if_pos (by omega)] at h; first | (rw [if_pos h_28, if_pos h_28] at h; split at h <;> exact h) | (rw [if_neg h_28, if_neg h_28] at h; split at h <;> first | exact h | (rw [hq1 (by assumption)]; exact h))
      refine s_iconst 32 dX5_changeTime_31 rfl ?_
      refine s_goto 52 dX5_changeTime_32 rfl ?_
      refine s_istore (ls' := [_, _, _, _, _, _, _]) 54 dX5_changeTime_52 rfl (Nat.le_of_ble_eq_true rfl) rfl rfl ?_
      refine s_aload_n 55 dX5_changeTime_54 rfl rfl ?_
      refine s_getR 58 dX5_changeTime_55 rfl fl_X5_11 (fun _ _ _ _ => rfl) (T_X5_parts hT hP) (isP_sh hP) (isP_lt hP) ?_
      refine s_iload_n 59 dX5_changeTime_58 rfl rfl ?_
      refine s_aald 60 dX5_changeTime_59 rfl (shP_parts hP) (ltP_parts hP) (by omega) (by decide) (T_X5_parts_row hT hP (by omega)) ?_
      refine s_iconst 61 dX5_changeTime_60 rfl ?_
      refine s_iald 62 dX5_changeTime_61 rfl (shP_parts_row hP (by omega)) (ltP_parts_row hP (by omega)) (by omega) (by omega) (fun r_61 => ?_)
      rw [rq.2.1]
      refine s_aload_n 63 dX5_changeTime_62 rfl rfl ?_
      refine s_getR 66 dX5_changeTime_63 rfl fl_X5_11 (fun _ _ _ _ => rfl) (T_X5_parts hT hP) (isP_sh hP) (isP_lt hP) ?_
      refine s_iload_n 67 dX5_changeTime_66 rfl rfl ?_
      refine s_aald 68 dX5_changeTime_67 rfl (shP_parts hP) (ltP_parts hP) (by omega) (by decide) (T_X5_parts_row hT hP (by omega)) ?_
      refine s_iconst 69 dX5_changeTime_68 rfl ?_
      refine s_iald 70 dX5_changeTime_69 rfl (shP_parts_row hP (by omega)) (ltP_parts_row hP (by omega)) (by omega) (by omega) (fun r_69 => ?_)
      rw [rp.2.1]
      refine s_isub 71 dX5_changeTime_70 rfl ?_
      refine s_istore (ls' := [_, _, _, _, _, _, _]) 73 dX5_changeTime_71 rfl (Nat.le_of_ble_eq_true rfl) rfl rfl ?_
      refine s_iload 75 dX5_changeTime_73 rfl rfl ?_
      refine s_if_le 81 78 dX5_changeTime_75 rfl rfl (by first | omega | exact bI_r _ | exact iI_r _) (fun h_75 => ?_) (fun h_75 => ?_)
      · skip
        refine s_iload 83 dX5_changeTime_81 rfl rfl ?_
        refine s_if_ge 91 86 dX5_changeTime_83 rfl rfl (by first | omega | exact bI_r _ | exact iI_r _) (fun h_83 => ?_) (fun h_83 => ?_)
        · skip
          refine s_iload 93 dX5_changeTime_91 rfl rfl ?_
          refine s_iload 95 dX5_changeTime_93 rfl rfl ?_
          refine s_iadd 96 dX5_changeTime_95 rfl ?_
          refine s_iret dX5_changeTime_96 rfl rfl ?_
          simp only [if_neg h_2] at h; rw [if_neg (by omega)] at h; (first | (rw [if_pos (by omega)] at h; first | (rw [if_pos h_9] at h; exact h) | (rw [if_neg h_9] at h; exact h)) | (rw [if_neg (by omega)] at h; (first | rw [if_pos h_9] at h | rw [if_neg h_9] at h); first | (rw [if_pos h_28, if_pos h_28] at h; split at h <;> (rw [Int.add_comm]; exact h)) | (rw [if_neg h_28, if_neg h_28] at h; split at h <;> first | (rw [Int.add_comm]; exact h) | (rw [hq1 (by assumption), Int.add_comm]; exact h))))
        refine s_iload 88 dX5_changeTime_86 rfl rfl ?_
        refine s_goto 96 dX5_changeTime_88 rfl ?_
        refine s_iret dX5_changeTime_96 rfl rfl ?_
        simp only [if_neg h_2] at h; rw [if_neg (by omega)] at h; (first | (rw [if_pos (by omega)] at h; first | (rw [if_pos h_9] at h; exact h) | (rw [if_neg h_9] at h; exact h)) | (rw [if_neg (by omega)] at h; (first | rw [if_pos h_9] at h | rw [if_neg h_9] at h); first | (rw [if_pos h_28, if_pos h_28] at h; split at h <;> (rw [Int.add_comm]; exact h)) | (rw [if_neg h_28, if_neg h_28] at h; split at h <;> first | (rw [Int.add_comm]; exact h) | (rw [hq1 (by assumption), Int.add_comm]; exact h))))
      refine s_iload 80 dX5_changeTime_78 rfl rfl ?_
      refine s_iret dX5_changeTime_80 rfl rfl ?_
      simp only [if_neg h_2] at h; rw [if_pos (by omega)] at h; first | (rw [if_pos h_28, if_pos h_28] at h; split at h <;> exact h) | (rw [if_neg h_28, if_neg h_28] at h; split at h <;> first | exact h | (rw [hq1 (by assumption)]; exact h))
    refine s_iconst 13 dX5_changeTime_12 rfl ?_
    refine s_goto 24 dX5_changeTime_13 rfl ?_
    (try rw [rp.2.2.2.1])
    refine s_istore (ls' := [_, _, _, _, _, _, _]) 26 dX5_changeTime_24 rfl (Nat.le_of_ble_eq_true rfl) rfl rfl ?_
    refine s_iload_n 27 dX5_changeTime_26 rfl rfl ?_
    refine s_iload_n 28 dX5_changeTime_27 rfl rfl ?_
    refine s_icmp_ne 35 31 dX5_changeTime_28 rfl rfl (by first | omega | exact bI_r _ | exact iI_r _) (by first | omega | exact bI_r _ | exact iI_r _) (fun h_28 => ?_) (fun h_28 => ?_)
    · skip
      refine s_aload_n 36 dX5_changeTime_35 rfl rfl ?_
      refine s_getR 39 dX5_changeTime_36 rfl fl_X5_11 (fun _ _ _ _ => rfl) (T_X5_parts hT hP) (isP_sh hP) (isP_lt hP) ?_
      refine s_iload_n 40 dX5_changeTime_39 rfl rfl ?_
      refine s_aald 41 dX5_changeTime_40 rfl (shP_parts hP) (ltP_parts hP) (by omega) (by decide) (T_X5_parts_row hT hP (by omega)) ?_
      refine s_iconst 42 dX5_changeTime_41 rfl ?_
      refine s_iald 43 dX5_changeTime_42 rfl (shP_parts_row hP (by omega)) (ltP_parts_row hP (by omega)) (by omega) (by omega) (fun r_42 => ?_)
      rw [rq.2.2.1]
      refine s_aload_n 44 dX5_changeTime_43 rfl rfl ?_
      refine s_getR 47 dX5_changeTime_44 rfl fl_X5_11 (fun _ _ _ _ => rfl) (T_X5_parts hT hP) (isP_sh hP) (isP_lt hP) ?_
      refine s_iload_n 48 dX5_changeTime_47 rfl rfl ?_
      refine s_aald 49 dX5_changeTime_48 rfl (shP_parts hP) (ltP_parts hP) (by omega) (by decide) (T_X5_parts_row hT hP (by omega)) ?_
      refine s_iconst 50 dX5_changeTime_49 rfl ?_
      refine s_iald 51 dX5_changeTime_50 rfl (shP_parts_row hP (by omega)) (ltP_parts_row hP (by omega)) (by omega) (by omega) (fun r_50 => ?_)
      rw [rq.2.2.2.2]
      refine s_iadd 52 dX5_changeTime_51 rfl ?_
      refine s_istore (ls' := [_, _, _, _, _, _, _]) 54 dX5_changeTime_52 rfl (Nat.le_of_ble_eq_true rfl) rfl rfl ?_
      refine s_aload_n 55 dX5_changeTime_54 rfl rfl ?_
      refine s_getR 58 dX5_changeTime_55 rfl fl_X5_11 (fun _ _ _ _ => rfl) (T_X5_parts hT hP) (isP_sh hP) (isP_lt hP) ?_
      refine s_iload_n 59 dX5_changeTime_58 rfl rfl ?_
      refine s_aald 60 dX5_changeTime_59 rfl (shP_parts hP) (ltP_parts hP) (by omega) (by decide) (T_X5_parts_row hT hP (by omega)) ?_
      refine s_iconst 61 dX5_changeTime_60 rfl ?_
      refine s_iald 62 dX5_changeTime_61 rfl (shP_parts_row hP (by omega)) (ltP_parts_row hP (by omega)) (by omega) (by omega) (fun r_61 => ?_)
      rw [rq.2.1]
      refine s_aload_n 63 dX5_changeTime_62 rfl rfl ?_
      refine s_getR 66 dX5_changeTime_63 rfl fl_X5_11 (fun _ _ _ _ => rfl) (T_X5_parts hT hP) (isP_sh hP) (isP_lt hP) ?_
      refine s_iload_n 67 dX5_changeTime_66 rfl rfl ?_
      refine s_aald 68 dX5_changeTime_67 rfl (shP_parts hP) (ltP_parts hP) (by omega) (by decide) (T_X5_parts_row hT hP (by omega)) ?_
      refine s_iconst 69 dX5_changeTime_68 rfl ?_
      refine s_iald 70 dX5_changeTime_69 rfl (shP_parts_row hP (by omega)) (ltP_parts_row hP (by omega)) (by omega) (by omega) (fun r_69 => ?_)
      rw [rp.2.1]
      refine s_isub 71 dX5_changeTime_70 rfl ?_
      refine s_istore (ls' := [_, _, _, _, _, _, _]) 73 dX5_changeTime_71 rfl (Nat.le_of_ble_eq_true rfl) rfl rfl ?_
      refine s_iload 75 dX5_changeTime_73 rfl rfl ?_
      refine s_if_le 81 78 dX5_changeTime_75 rfl rfl (by first | omega | exact bI_r _ | exact iI_r _) (fun h_75 => ?_) (fun h_75 => ?_)
      · skip
        refine s_iload 83 dX5_changeTime_81 rfl rfl ?_
        refine s_if_ge 91 86 dX5_changeTime_83 rfl rfl (by first | omega | exact bI_r _ | exact iI_r _) (fun h_83 => ?_) (fun h_83 => ?_)
        · skip
          refine s_iload 93 dX5_changeTime_91 rfl rfl ?_
          refine s_iload 95 dX5_changeTime_93 rfl rfl ?_
          refine s_iadd 96 dX5_changeTime_95 rfl ?_
          refine s_iret dX5_changeTime_96 rfl rfl ?_
          simp only [if_neg h_2] at h; rw [if_neg (by omega)] at h; (first | (rw [if_pos (by omega)] at h; first | (rw [if_pos h_9] at h; exact h) | (rw [if_neg h_9] at h; exact h)) | (rw [if_neg (by omega)] at h; (first | rw [if_pos h_9] at h | rw [if_neg h_9] at h); first | (rw [if_pos h_28, if_pos h_28] at h; split at h <;> (rw [Int.add_comm]; exact h)) | (rw [if_neg h_28, if_neg h_28] at h; split at h <;> first | (rw [Int.add_comm]; exact h) | (rw [hq1 (by assumption), Int.add_comm]; exact h))))
        refine s_iload 88 dX5_changeTime_86 rfl rfl ?_
        refine s_goto 96 dX5_changeTime_88 rfl ?_
        refine s_iret dX5_changeTime_96 rfl rfl ?_
        simp only [if_neg h_2] at h; rw [if_neg (by omega)] at h; (first | (rw [if_pos (by omega)] at h; first | (rw [if_pos h_9] at h; exact h) | (rw [if_neg h_9] at h; exact h)) | (rw [if_neg (by omega)] at h; (first | rw [if_pos h_9] at h | rw [if_neg h_9] at h); first | (rw [if_pos h_28, if_pos h_28] at h; split at h <;> (rw [Int.add_comm]; exact h)) | (rw [if_neg h_28, if_neg h_28] at h; split at h <;> first | (rw [Int.add_comm]; exact h) | (rw [hq1 (by assumption), Int.add_comm]; exact h))))
      refine s_iload 80 dX5_changeTime_78 rfl rfl ?_
      refine s_iret dX5_changeTime_80 rfl rfl ?_
      simp only [if_neg h_2] at h; rw [if_pos (by omega)] at h; first | (rw [if_pos h_28, if_pos h_28] at h; split at h <;> exact h) | (rw [if_neg h_28, if_neg h_28] at h; split at h <;> first | exact h | (rw [hq1 (by assumption)]; exact h))
    refine s_iconst 32 dX5_changeTime_31 rfl ?_
    refine s_goto 52 dX5_changeTime_32 rfl ?_
    refine s_istore (ls' := [_, _, _, _, _, _, _]) 54 dX5_changeTime_52 rfl (Nat.le_of_ble_eq_true rfl) rfl rfl ?_
    refine s_aload_n 55 dX5_changeTime_54 rfl rfl ?_
    refine s_getR 58 dX5_changeTime_55 rfl fl_X5_11 (fun _ _ _ _ => rfl) (T_X5_parts hT hP) (isP_sh hP) (isP_lt hP) ?_
    refine s_iload_n 59 dX5_changeTime_58 rfl rfl ?_
    refine s_aald 60 dX5_changeTime_59 rfl (shP_parts hP) (ltP_parts hP) (by omega) (by decide) (T_X5_parts_row hT hP (by omega)) ?_
    refine s_iconst 61 dX5_changeTime_60 rfl ?_
    refine s_iald 62 dX5_changeTime_61 rfl (shP_parts_row hP (by omega)) (ltP_parts_row hP (by omega)) (by omega) (by omega) (fun r_61 => ?_)
    rw [rq.2.1]
    refine s_aload_n 63 dX5_changeTime_62 rfl rfl ?_
    refine s_getR 66 dX5_changeTime_63 rfl fl_X5_11 (fun _ _ _ _ => rfl) (T_X5_parts hT hP) (isP_sh hP) (isP_lt hP) ?_
    refine s_iload_n 67 dX5_changeTime_66 rfl rfl ?_
    refine s_aald 68 dX5_changeTime_67 rfl (shP_parts hP) (ltP_parts hP) (by omega) (by decide) (T_X5_parts_row hT hP (by omega)) ?_
    refine s_iconst 69 dX5_changeTime_68 rfl ?_
    refine s_iald 70 dX5_changeTime_69 rfl (shP_parts_row hP (by omega)) (ltP_parts_row hP (by omega)) (by omega) (by omega) (fun r_69 => ?_)
    rw [rp.2.1]
    refine s_isub 71 dX5_changeTime_70 rfl ?_
    refine s_istore (ls' := [_, _, _, _, _, _, _]) 73 dX5_changeTime_71 rfl (Nat.le_of_ble_eq_true rfl) rfl rfl ?_
    refine s_iload 75 dX5_changeTime_73 rfl rfl ?_
    refine s_if_le 81 78 dX5_changeTime_75 rfl rfl (by first | omega | exact bI_r _ | exact iI_r _) (fun h_75 => ?_) (fun h_75 => ?_)
    · skip
      refine s_iload 83 dX5_changeTime_81 rfl rfl ?_
      refine s_if_ge 91 86 dX5_changeTime_83 rfl rfl (by first | omega | exact bI_r _ | exact iI_r _) (fun h_83 => ?_) (fun h_83 => ?_)
      · skip
        refine s_iload 93 dX5_changeTime_91 rfl rfl ?_
        refine s_iload 95 dX5_changeTime_93 rfl rfl ?_
        refine s_iadd 96 dX5_changeTime_95 rfl ?_
        refine s_iret dX5_changeTime_96 rfl rfl ?_
        simp only [if_neg h_2] at h; rw [if_neg (by omega)] at h; (first | (rw [if_pos (by omega)] at h; first | (rw [if_pos h_9] at h; exact h) | (rw [if_neg h_9] at h; exact h)) | (rw [if_neg (by omega)] at h; (first | rw [if_pos h_9] at h | rw [if_neg h_9] at h); first | (rw [if_pos h_28, if_pos h_28] at h; split at h <;> (rw [Int.add_comm]; exact h)) | (rw [if_neg h_28, if_neg h_28] at h; split at h <;> first | (rw [Int.add_comm]; exact h) | (rw [hq1 (by assumption), Int.add_comm]; exact h))))
      refine s_iload 88 dX5_changeTime_86 rfl rfl ?_
      refine s_goto 96 dX5_changeTime_88 rfl ?_
      refine s_iret dX5_changeTime_96 rfl rfl ?_
      simp only [if_neg h_2] at h; rw [if_neg (by omega)] at h; (first | (rw [if_pos (by omega)] at h; first | (rw [if_pos h_9] at h; exact h) | (rw [if_neg h_9] at h; exact h)) | (rw [if_neg (by omega)] at h; (first | rw [if_pos h_9] at h | rw [if_neg h_9] at h); first | (rw [if_pos h_28, if_pos h_28] at h; split at h <;> (rw [Int.add_comm]; exact h)) | (rw [if_neg h_28, if_neg h_28] at h; split at h <;> first | (rw [Int.add_comm]; exact h) | (rw [hq1 (by assumption), Int.add_comm]; exact h))))
    refine s_iload 80 dX5_changeTime_78 rfl rfl ?_
    refine s_iret dX5_changeTime_80 rfl rfl ?_
    simp only [if_neg h_2] at h; rw [if_pos (by omega)] at h; first | (rw [if_pos h_28, if_pos h_28] at h; split at h <;> exact h) | (rw [if_neg h_28, if_neg h_28] at h; split at h <;> first | exact h | (rw [hq1 (by assumption)]; exact h))
  refine s_iconst 6 dX5_changeTime_5 rfl ?_
  refine s_iret dX5_changeTime_6 rfl rfl ?_
  rw [if_pos h_2] at h; exact h
set_option maxHeartbeats 4000000 in
theorem c_X5_doesWalk {E : ET} {I : MI} {L : ML} {R : MR} {Q : Option AV → MI → ML → MR → Prop} {P : Nat} {r : F1} {k l : Int} (hT : Topo R) (hP : isP P) (hr : WFr r) (hR : PR I P r) (hk : 0 ≤ k ∧ k < r 7) (hl : 0 ≤ l ∧ l < r 7) (h : Q (some (vi (bI (r (54 + 7 * k + 5) ≠ r (54 + 7 * l + 4))))) I L R) : CT E M_X5_doesWalk 161 yX5_doesWalk [(vr (P)), (vi (k)), (vi (l))] I L R Q := by
  refine CT_of rfl rfl (fun h => by cases h) (Nat.le_of_ble_eq_true rfl) (fun X => ?_)
  show V X _ z0 0 [some (vr (P)), some (vi (k)), some (vi (l))] [] I L R _
  have e0 := hr.1
  have rk := hR.2.2.2.1 k hk.1 hk.2
  have rl := hR.2.2.2.1 l hl.1 hl.2
  unfold rowO at rk rl
  have wk := hr.2.2.2.1 k hk.1 hk.2
  have wl := hr.2.2.2.1 l hl.1 hl.2
  refine s_aload_n 1 dX5_doesWalk_0 rfl rfl ?_
  refine s_getR 4 dX5_doesWalk_1 rfl fl_X5_16 (fun _ _ _ _ => rfl) (T_X5_ons hT hP) (isP_sh hP) (isP_lt hP) ?_
  refine s_iload_n 5 dX5_doesWalk_4 rfl rfl ?_
  refine s_aald 6 dX5_doesWalk_5 rfl (shP_ons hP) (ltP_ons hP) (by omega) (by decide) (T_X5_ons_row hT hP (by omega)) ?_
  refine s_iconst 7 dX5_doesWalk_6 rfl ?_
  refine s_iald 8 dX5_doesWalk_7 rfl (shP_ons_row hP (by omega)) (ltP_ons_row hP (by omega)) (by omega) (by omega) (fun r_7 => ?_)
  rw [rk.2.2.2.2.1]
  refine s_aload_n 9 dX5_doesWalk_8 rfl rfl ?_
  refine s_getR 12 dX5_doesWalk_9 rfl fl_X5_16 (fun _ _ _ _ => rfl) (T_X5_ons hT hP) (isP_sh hP) (isP_lt hP) ?_
  refine s_iload_n 13 dX5_doesWalk_12 rfl rfl ?_
  refine s_aald 14 dX5_doesWalk_13 rfl (shP_ons hP) (ltP_ons hP) (by omega) (by decide) (T_X5_ons_row hT hP (by omega)) ?_
  refine s_iconst 15 dX5_doesWalk_14 rfl ?_
  refine s_iald 16 dX5_doesWalk_15 rfl (shP_ons_row hP (by omega)) (ltP_ons_row hP (by omega)) (by omega) (by omega) (fun r_15 => ?_)
  rw [rl.2.2.2.1]
  refine s_icmp_eq 23 19 dX5_doesWalk_16 rfl rfl (by first | omega | exact bI_r _ | exact iI_r _) (by first | omega | exact bI_r _ | exact iI_r _) (fun h_16 => ?_) (fun h_16 => ?_)
  · skip
    refine s_iconst 24 dX5_doesWalk_23 rfl ?_
    refine s_zret dX5_doesWalk_24 rfl (by first | omega | exact bI_b _) rfl ?_
    first | exact ret_t (by omega) h | exact ret_f (by omega) h
  refine s_iconst 20 dX5_doesWalk_19 rfl ?_
  refine s_goto 24 dX5_doesWalk_20 rfl ?_
  refine s_zret dX5_doesWalk_24 rfl (by first | omega | exact bI_b _) rfl ?_
  first | exact ret_t (by omega) h | exact ret_f (by omega) h
set_option maxHeartbeats 4000000 in
theorem c_X5_needTime {E : ET} {I : MI} {L : ML} {R : MR} {Q : Option AV → MI → ML → MR → Prop} {P : Nat} {r : F1} {k l rd : Int} (hT : Topo R) (hP : isP P) (hr : WFr r) (hh : wHr r) (hR : PR I P r) (hk : 0 ≤ k ∧ k < r 7) (hl : 0 ≤ l ∧ l < r 7) (hrd : -1 ≤ rd ∧ rd ≤ 7) (h : Q (some (vi (neF r rd k l))) I L R) : CT E M_X5_needTime 161 yX5_needTime [(vr (P)), (vi (k)), (vi (l)), (vi (rd))] I L R Q := by
  refine CT_of rfl rfl (fun h => by cases h) (Nat.le_of_ble_eq_true rfl) (fun X => ?_)
  show V X _ z0 0 [some (vr (P)), some (vi (k)), some (vi (l)), some (vi (rd)), none] [] I L R _
  have e0 := hr.1
  have rk := hR.2.2.2.1 k hk.1 hk.2
  have rl := hR.2.2.2.1 l hl.1 hl.2
  unfold rowO at rk rl
  have wk := hr.2.2.2.1 k hk.1 hk.2
  have wl := hr.2.2.2.1 l hl.1 hl.2
  unfold neF at h
  refine s_aload_n 1 dX5_needTime_0 rfl rfl ?_
  refine s_aload_n 2 dX5_needTime_1 rfl rfl ?_
  refine s_getR 5 dX5_needTime_2 rfl fl_X5_16 (fun _ _ _ _ => rfl) (T_X5_ons hT hP) (isP_sh hP) (isP_lt hP) ?_
  refine s_iload_n 6 dX5_needTime_5 rfl rfl ?_
  refine s_aald 7 dX5_needTime_6 rfl (shP_ons hP) (ltP_ons hP) (by omega) (by decide) (T_X5_ons_row hT hP (by omega)) ?_
  refine s_iconst 8 dX5_needTime_7 rfl ?_
  refine s_iald 9 dX5_needTime_8 rfl (shP_ons_row hP (by omega)) (ltP_ons_row hP (by omega)) (by omega) (by omega) (fun r_8 => ?_)
  rw [rk.1]
  refine s_aload_n 10 dX5_needTime_9 rfl rfl ?_
  refine s_getR 13 dX5_needTime_10 rfl fl_X5_16 (fun _ _ _ _ => rfl) (T_X5_ons hT hP) (isP_sh hP) (isP_lt hP) ?_
  refine s_iload_n 14 dX5_needTime_13 rfl rfl ?_
  refine s_aald 15 dX5_needTime_14 rfl (shP_ons hP) (ltP_ons hP) (by omega) (by decide) (T_X5_ons_row hT hP (by omega)) ?_
  refine s_iconst 16 dX5_needTime_15 rfl ?_
  refine s_iald 17 dX5_needTime_16 rfl (shP_ons_row hP (by omega)) (ltP_ons_row hP (by omega)) (by omega) (by omega) (fun r_16 => ?_)
  rw [rl.1]
  refine s_iload_n 18 dX5_needTime_17 rfl rfl ?_
  refine s_callV0 (M' := M_X5_changeTime) (as := [_, _, _]) 21 dX5_needTime_18 rfl cw_X5_78 rfl rfl (isP_sh hP) rfl (by decide) (isP_lt hP) (Nat.le_of_ble_eq_true rfl) (Nat.le_of_ble_eq_true rfl) (Nat.le_of_ble_eq_true rfl) ⟨rfl, rfl, rfl⟩ ?_
  refine c_X5_changeTime hT hP hr hh hR ⟨by omega, by omega⟩ ⟨by omega, by omega⟩ hrd ?_
  refine s_istore (ls' := [_, _, _, _, _]) 23 dX5_needTime_21 rfl (Nat.le_of_ble_eq_true rfl) rfl rfl ?_
  refine s_aload_n 24 dX5_needTime_23 rfl rfl ?_
  refine s_iload_n 25 dX5_needTime_24 rfl rfl ?_
  refine s_iload_n 26 dX5_needTime_25 rfl rfl ?_
  refine s_callV0 (M' := M_X5_doesWalk) (as := [_, _]) 29 dX5_needTime_26 rfl cw_X5_82 rfl rfl (isP_sh hP) rfl (by decide) (isP_lt hP) (Nat.le_of_ble_eq_true rfl) (Nat.le_of_ble_eq_true rfl) (Nat.le_of_ble_eq_true rfl) ⟨rfl, rfl, rfl⟩ ?_
  refine c_X5_doesWalk hT hP hr hR hk hl ?_
  refine s_ifb_eq 42 32 dX5_needTime_29 rfl rfl (fun h_29 => ?_) (fun h_29 => ?_)
  · skip
    refine s_iload 44 dX5_needTime_42 rfl rfl ?_
    refine s_iret dX5_needTime_44 rfl rfl ?_
    first | (rw [if_neg h_29] at h; exact h) | (rw [if_pos (nn_n h_29), Int.add_zero] at h; exact h)
  refine s_iload 34 dX5_needTime_32 rfl rfl ?_
  refine s_aload_n 35 dX5_needTime_34 rfl rfl ?_
  refine s_getI 38 dX5_needTime_35 rfl fl_X5_35 (fun _ _ _ _ => rfl) (isP_sh hP) (isP_lt hP) (fun r_35 => ?_)
  rw [hR.1.1]
  refine s_iadd 39 dX5_needTime_38 rfl ?_
  refine s_goto 44 dX5_needTime_39 rfl ?_
  refine s_iret dX5_needTime_44 rfl rfl ?_
  first | (rw [if_neg h_29] at h; exact h) | (rw [if_pos (nn_n h_29), Int.add_zero] at h; exact h)
