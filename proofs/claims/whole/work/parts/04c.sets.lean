/-! sets that the reference makes -/
theorem setOf_t {P : Int → Prop} {k : Int} (hk : 0 ≤ k) (h : P k) : ior (setOf P k.toNat) (ishl 1 k) = setOf P (k + 1).toNat := by
  rw [show (k + 1).toNat = k.toNat + 1 by omega]
  show _ = ior (setOf P k.toNat) (@ite Int (P (k.toNat : Int)) (Classical.propDecidable _) (ishl 1 (k.toNat : Int)) 0)
  rw [show ((k.toNat : Nat) : Int) = k by omega, if_pos h]
theorem setOf_f {P : Int → Prop} {k : Int} (hk : 0 ≤ k) (h : ¬ P k) : ior (setOf P k.toNat) 0 = setOf P (k + 1).toNat := by
  rw [show (k + 1).toNat = k.toNat + 1 by omega]
  show _ = ior (setOf P k.toNat) (@ite Int (P (k.toNat : Int)) (Classical.propDecidable _) (ishl 1 (k.toNat : Int)) 0)
  rw [show ((k.toNat : Nat) : Int) = k by omega, if_neg h]
theorem setOf_c {P P' : Int → Prop} : ∀ {n : Nat} (_ : ∀ k : Int, 0 ≤ k → k < n → (P k ↔ P' k)), setOf P n = setOf P' n
  | 0, _ => rfl
  | n + 1, h => by
    unfold setOf
    rw [setOf_c (n := n) (fun k h1 h2 => h k h1 (by omega)), propext (h n (by omega) (by omega))]
set_option maxHeartbeats 4000000 in
theorem c_X12_behindOf {E : ET} {I : MI} {L : ML} {R : MR} {Q : Option AV → MI → ML → MR → Prop} {r : F1} {ons : Int} (hT : Topo R) (er : I 141 = r) (hr : WFr r) (h : Q (some (vi (setOf (fun k => hasI ons k ∧ r (54 + 7 * k + 6) = 1) (r 7).toNat))) I L R) : CT E M_X12_behindOf 161 yX12_behindOf [(vr (138)), (vi (ons))] I L R Q := by
  refine CT_of rfl rfl (fun h => by cases h) (Nat.le_of_ble_eq_true rfl) (fun X => ?_)
  show V X _ z0 0 [some (vr (138)), some (vi (ons)), none, none] [] I L R _
  have e0 := hr.1
  have loop : ∀ (f : Nat) (k : Int), r 7 - k < (f : Int) → 0 ≤ k → k ≤ r 7 → V X M_X12_behindOf z0 4 [some (vr (138)), some (vi (ons)), some (vi (setOf (fun k => hasI ons k ∧ r (54 + 7 * k + 6) = 1) k.toNat)), some (vi (k))] [] (I) L R (RT X M_X12_behindOf Q) := by
    intro f
    induction f with
    | zero => intro k h1 h2 h3; omega
    | succ f ih =>
      intro k h1 h2 h3
      refine s_iload_n 5 dX12_behindOf_4 rfl rfl ?_
      refine s_aload_n 6 dX12_behindOf_5 rfl rfl ?_
      refine s_getR 9 dX12_behindOf_6 rfl fl_X12_20 (fun _ _ _ _ => rfl) (T_X12_r hT) sh_138 (Nat.le_of_ble_eq_true rfl) ?_
      refine s_bipush 11 dX12_behindOf_9 rfl (by decide) ?_
      refine s_iald 12 dX12_behindOf_11 rfl sh_141 (Nat.le_of_ble_eq_true rfl) (by omega) (by omega) (fun r_11 => ?_)
      rw [er] at r_11 ⊢
      refine s_icmp_ge 50 15 dX12_behindOf_12 rfl rfl (by first | omega | exact bI_r _ | exact iI_r _) (by first | omega | exact bI_r _ | exact iI_r _) (fun h_12 => ?_) (fun h_12 => ?_)
      · skip
        refine s_iload_n 51 dX12_behindOf_50 rfl rfl ?_
        refine s_iret dX12_behindOf_51 rfl rfl ?_
        have ek : k = r 7 := by omega
        subst ek
        exact h
      skip
      have e1 := hr.2.2.2.1 k (by omega) (by omega)
      refine s_iload_n 16 dX12_behindOf_15 rfl rfl ?_
      refine s_iload_n 17 dX12_behindOf_16 rfl rfl ?_
      refine s_iload_n 18 dX12_behindOf_17 rfl rfl ?_
      refine s_callS0 (M' := M_X12_has) (as := [_, _]) 21 dX12_behindOf_18 rfl cw_X12_278 rfl rfl (Nat.le_of_ble_eq_true rfl) (Nat.le_of_ble_eq_true rfl) (Nat.le_of_ble_eq_true rfl) ⟨rfl, rfl, rfl⟩ ?_
      refine c_X12_has ?_
      refine s_ifb_eq 41 24 dX12_behindOf_21 rfl rfl (fun h_21 => ?_) (fun h_21 => ?_)
      · skip
        refine s_iconst 42 dX12_behindOf_41 rfl ?_
        refine s_ior 43 dX12_behindOf_42 rfl ?_
        refine s_istore_n (ls' := [_, _, _, _]) 44 dX12_behindOf_43 rfl (Nat.le_of_ble_eq_true rfl) rfl rfl ?_
        refine s_iinc (ls' := [_, _, _, _]) 47 dX12_behindOf_44 rfl rfl (Nat.le_of_ble_eq_true rfl) rfl rfl ?_
        refine s_goto 4 dX12_behindOf_47 rfl ?_
        first | (rw [setOf_t h2 (by exact ⟨by assumption, by assumption⟩)]; exact ih (k + 1) (by omega) (by omega) (by omega)) | (rw [setOf_f h2 (by rintro ⟨q1, q2⟩; contradiction)]; exact ih (k + 1) (by omega) (by omega) (by omega))
      refine s_aload_n 25 dX12_behindOf_24 rfl rfl ?_
      refine s_iload_n 26 dX12_behindOf_25 rfl rfl ?_
      refine s_bipush 28 dX12_behindOf_26 rfl (by decide) ?_
      refine s_callV0 (M' := M_X12_onOf) (as := [_, _]) 31 dX12_behindOf_28 rfl cw_X12_302 rfl rfl sh_138 rfl (by decide) (Nat.le_of_ble_eq_true rfl) (Nat.le_of_ble_eq_true rfl) (Nat.le_of_ble_eq_true rfl) (Nat.le_of_ble_eq_true rfl) ⟨rfl, rfl, rfl⟩ ?_
      refine c_X12_onOf hT er (by omega) (by omega) ?_
      refine s_iconst 32 dX12_behindOf_31 rfl ?_
      refine s_icmp_ne 41 35 dX12_behindOf_32 rfl rfl (by first | omega | exact bI_r _ | exact iI_r _) (by first | omega | exact bI_r _ | exact iI_r _) (fun h_32 => ?_) (fun h_32 => ?_)
      · skip
        refine s_iconst 42 dX12_behindOf_41 rfl ?_
        refine s_ior 43 dX12_behindOf_42 rfl ?_
        refine s_istore_n (ls' := [_, _, _, _]) 44 dX12_behindOf_43 rfl (Nat.le_of_ble_eq_true rfl) rfl rfl ?_
        refine s_iinc (ls' := [_, _, _, _]) 47 dX12_behindOf_44 rfl rfl (Nat.le_of_ble_eq_true rfl) rfl rfl ?_
        refine s_goto 4 dX12_behindOf_47 rfl ?_
        first | (rw [setOf_t h2 (by exact ⟨by assumption, by assumption⟩)]; exact ih (k + 1) (by omega) (by omega) (by omega)) | (rw [setOf_f h2 (by rintro ⟨q1, q2⟩; contradiction)]; exact ih (k + 1) (by omega) (by omega) (by omega))
      refine s_iconst 36 dX12_behindOf_35 rfl ?_
      refine s_iload_n 37 dX12_behindOf_36 rfl rfl ?_
      refine s_ishl 38 dX12_behindOf_37 rfl ?_
      refine s_goto 42 dX12_behindOf_38 rfl ?_
      refine s_ior 43 dX12_behindOf_42 rfl ?_
      refine s_istore_n (ls' := [_, _, _, _]) 44 dX12_behindOf_43 rfl (Nat.le_of_ble_eq_true rfl) rfl rfl ?_
      refine s_iinc (ls' := [_, _, _, _]) 47 dX12_behindOf_44 rfl rfl (Nat.le_of_ble_eq_true rfl) rfl rfl ?_
      refine s_goto 4 dX12_behindOf_47 rfl ?_
      first | (rw [setOf_t h2 (by exact ⟨by assumption, by assumption⟩)]; exact ih (k + 1) (by omega) (by omega) (by omega)) | (rw [setOf_f h2 (by rintro ⟨q1, q2⟩; contradiction)]; exact ih (k + 1) (by omega) (by omega) (by omega))
  refine s_iconst 1 dX12_behindOf_0 rfl ?_
  refine s_istore_n (ls' := [_, _, _, _]) 2 dX12_behindOf_1 rfl (Nat.le_of_ble_eq_true rfl) rfl rfl ?_
  refine s_iconst 3 dX12_behindOf_2 rfl ?_
  refine s_istore_n (ls' := [_, _, _, _]) 4 dX12_behindOf_3 rfl (Nat.le_of_ble_eq_true rfl) rfl rfl ?_
  exact loop (r 7 + 1).toNat 0 (by omega) (by omega) (by omega)
set_option maxHeartbeats 4000000 in
theorem c_X12_puppetsOf {E : ET} {I : MI} {L : ML} {R : MR} {Q : Option AV → MI → ML → MR → Prop} {r : F1} {ons : Int} (hT : Topo R) (er : I 141 = r) (hr : WFr r) (h : Q (some (vi (setOf (fun k => hasI ons k ∧ r (54 + 7 * k + 6) = 0 ∧ r (9 + r (54 + 7 * k + 0)) = 2) (r 7).toNat))) I L R) : CT E M_X12_puppetsOf 161 yX12_puppetsOf [(vr (138)), (vi (ons))] I L R Q := by
  refine CT_of rfl rfl (fun h => by cases h) (Nat.le_of_ble_eq_true rfl) (fun X => ?_)
  show V X _ z0 0 [some (vr (138)), some (vi (ons)), none, none] [] I L R _
  have e0 := hr.1
  have loop : ∀ (f : Nat) (k : Int), r 7 - k < (f : Int) → 0 ≤ k → k ≤ r 7 → V X M_X12_puppetsOf z0 4 [some (vr (138)), some (vi (ons)), some (vi (setOf (fun k => hasI ons k ∧ r (54 + 7 * k + 6) = 0 ∧ r (9 + r (54 + 7 * k + 0)) = 2) k.toNat)), some (vi (k))] [] (I) L R (RT X M_X12_puppetsOf Q) := by
    intro f
    induction f with
    | zero => intro k h1 h2 h3; omega
    | succ f ih =>
      intro k h1 h2 h3
      refine s_iload_n 5 dX12_puppetsOf_4 rfl rfl ?_
      refine s_aload_n 6 dX12_puppetsOf_5 rfl rfl ?_
      refine s_getR 9 dX12_puppetsOf_6 rfl fl_X12_20 (fun _ _ _ _ => rfl) (T_X12_r hT) sh_138 (Nat.le_of_ble_eq_true rfl) ?_
      refine s_bipush 11 dX12_puppetsOf_9 rfl (by decide) ?_
      refine s_iald 12 dX12_puppetsOf_11 rfl sh_141 (Nat.le_of_ble_eq_true rfl) (by omega) (by omega) (fun r_11 => ?_)
      rw [er] at r_11 ⊢
      refine s_icmp_ge 67 15 dX12_puppetsOf_12 rfl rfl (by first | omega | exact bI_r _ | exact iI_r _) (by first | omega | exact bI_r _ | exact iI_r _) (fun h_12 => ?_) (fun h_12 => ?_)
      · skip
        refine s_iload_n 68 dX12_puppetsOf_67 rfl rfl ?_
        refine s_iret dX12_puppetsOf_68 rfl rfl ?_
        have ek : k = r 7 := by omega
        subst ek
        exact h
      skip
      have e1 := hr.2.2.2.1 k (by omega) (by omega)
      have e2 := hr.2.1 (r (54 + 7 * k + 0)) (by omega) (by omega)
      refine s_iload_n 16 dX12_puppetsOf_15 rfl rfl ?_
      refine s_iload_n 17 dX12_puppetsOf_16 rfl rfl ?_
      refine s_iload_n 18 dX12_puppetsOf_17 rfl rfl ?_
      refine s_callS0 (M' := M_X12_has) (as := [_, _]) 21 dX12_puppetsOf_18 rfl cw_X12_278 rfl rfl (Nat.le_of_ble_eq_true rfl) (Nat.le_of_ble_eq_true rfl) (Nat.le_of_ble_eq_true rfl) ⟨rfl, rfl, rfl⟩ ?_
      refine c_X12_has ?_
      refine s_ifb_eq 58 24 dX12_puppetsOf_21 rfl rfl (fun h_21 => ?_) (fun h_21 => ?_)
      · skip
        refine s_iconst 59 dX12_puppetsOf_58 rfl ?_
        refine s_ior 60 dX12_puppetsOf_59 rfl ?_
        refine s_istore_n (ls' := [_, _, _, _]) 61 dX12_puppetsOf_60 rfl (Nat.le_of_ble_eq_true rfl) rfl rfl ?_
        refine s_iinc (ls' := [_, _, _, _]) 64 dX12_puppetsOf_61 rfl rfl (Nat.le_of_ble_eq_true rfl) rfl rfl ?_
        refine s_goto 4 dX12_puppetsOf_64 rfl ?_
        first | (rw [setOf_t h2 (by exact ⟨by assumption, by assumption, by assumption⟩)]; exact ih (k + 1) (by omega) (by omega) (by omega)) | (rw [setOf_f h2 (by rintro ⟨q1, q2, q3⟩; contradiction)]; exact ih (k + 1) (by omega) (by omega) (by omega))
      refine s_aload_n 25 dX12_puppetsOf_24 rfl rfl ?_
      refine s_iload_n 26 dX12_puppetsOf_25 rfl rfl ?_
      refine s_bipush 28 dX12_puppetsOf_26 rfl (by decide) ?_
      refine s_callV0 (M' := M_X12_onOf) (as := [_, _]) 31 dX12_puppetsOf_28 rfl cw_X12_302 rfl rfl sh_138 rfl (by decide) (Nat.le_of_ble_eq_true rfl) (Nat.le_of_ble_eq_true rfl) (Nat.le_of_ble_eq_true rfl) (Nat.le_of_ble_eq_true rfl) ⟨rfl, rfl, rfl⟩ ?_
      refine c_X12_onOf hT er (by omega) (by omega) ?_
      refine s_if_ne 58 34 dX12_puppetsOf_31 rfl rfl (by first | omega | exact bI_r _ | exact iI_r _) (fun h_31 => ?_) (fun h_31 => ?_)
      · skip
        refine s_iconst 59 dX12_puppetsOf_58 rfl ?_
        refine s_ior 60 dX12_puppetsOf_59 rfl ?_
        refine s_istore_n (ls' := [_, _, _, _]) 61 dX12_puppetsOf_60 rfl (Nat.le_of_ble_eq_true rfl) rfl rfl ?_
        refine s_iinc (ls' := [_, _, _, _]) 64 dX12_puppetsOf_61 rfl rfl (Nat.le_of_ble_eq_true rfl) rfl rfl ?_
        refine s_goto 4 dX12_puppetsOf_64 rfl ?_
        first | (rw [setOf_t h2 (by exact ⟨by assumption, by assumption, by assumption⟩)]; exact ih (k + 1) (by omega) (by omega) (by omega)) | (rw [setOf_f h2 (by rintro ⟨q1, q2, q3⟩; contradiction)]; exact ih (k + 1) (by omega) (by omega) (by omega))
      refine s_aload_n 35 dX12_puppetsOf_34 rfl rfl ?_
      refine s_getR 38 dX12_puppetsOf_35 rfl fl_X12_20 (fun _ _ _ _ => rfl) (T_X12_r hT) sh_138 (Nat.le_of_ble_eq_true rfl) ?_
      refine s_bipush 40 dX12_puppetsOf_38 rfl (by decide) ?_
      refine s_aload_n 41 dX12_puppetsOf_40 rfl rfl ?_
      refine s_iload_n 42 dX12_puppetsOf_41 rfl rfl ?_
      refine s_iconst 43 dX12_puppetsOf_42 rfl ?_
      refine s_callV0 (M' := M_X12_onOf) (as := [_, _]) 46 dX12_puppetsOf_43 rfl cw_X12_302 rfl rfl sh_138 rfl (by decide) (Nat.le_of_ble_eq_true rfl) (Nat.le_of_ble_eq_true rfl) (Nat.le_of_ble_eq_true rfl) (Nat.le_of_ble_eq_true rfl) ⟨rfl, rfl, rfl⟩ ?_
      refine c_X12_onOf hT er (by omega) (by omega) ?_
      refine s_iadd 47 dX12_puppetsOf_46 rfl ?_
      refine s_iald 48 dX12_puppetsOf_47 rfl sh_141 (Nat.le_of_ble_eq_true rfl) (by omega) (by omega) (fun r_47 => ?_)
      rw [er] at r_47 ⊢
      refine s_iconst 49 dX12_puppetsOf_48 rfl ?_
      refine s_icmp_ne 58 52 dX12_puppetsOf_49 rfl rfl (by first | omega | exact bI_r _ | exact iI_r _) (by first | omega | exact bI_r _ | exact iI_r _) (fun h_49 => ?_) (fun h_49 => ?_)
      · skip
        refine s_iconst 59 dX12_puppetsOf_58 rfl ?_
        refine s_ior 60 dX12_puppetsOf_59 rfl ?_
        refine s_istore_n (ls' := [_, _, _, _]) 61 dX12_puppetsOf_60 rfl (Nat.le_of_ble_eq_true rfl) rfl rfl ?_
        refine s_iinc (ls' := [_, _, _, _]) 64 dX12_puppetsOf_61 rfl rfl (Nat.le_of_ble_eq_true rfl) rfl rfl ?_
        refine s_goto 4 dX12_puppetsOf_64 rfl ?_
        first | (rw [setOf_t h2 (by exact ⟨by assumption, by assumption, by assumption⟩)]; exact ih (k + 1) (by omega) (by omega) (by omega)) | (rw [setOf_f h2 (by rintro ⟨q1, q2, q3⟩; contradiction)]; exact ih (k + 1) (by omega) (by omega) (by omega))
      refine s_iconst 53 dX12_puppetsOf_52 rfl ?_
      refine s_iload_n 54 dX12_puppetsOf_53 rfl rfl ?_
      refine s_ishl 55 dX12_puppetsOf_54 rfl ?_
      refine s_goto 59 dX12_puppetsOf_55 rfl ?_
      refine s_ior 60 dX12_puppetsOf_59 rfl ?_
      refine s_istore_n (ls' := [_, _, _, _]) 61 dX12_puppetsOf_60 rfl (Nat.le_of_ble_eq_true rfl) rfl rfl ?_
      refine s_iinc (ls' := [_, _, _, _]) 64 dX12_puppetsOf_61 rfl rfl (Nat.le_of_ble_eq_true rfl) rfl rfl ?_
      refine s_goto 4 dX12_puppetsOf_64 rfl ?_
      first | (rw [setOf_t h2 (by exact ⟨by assumption, by assumption, by assumption⟩)]; exact ih (k + 1) (by omega) (by omega) (by omega)) | (rw [setOf_f h2 (by rintro ⟨q1, q2, q3⟩; contradiction)]; exact ih (k + 1) (by omega) (by omega) (by omega))
  refine s_iconst 1 dX12_puppetsOf_0 rfl ?_
  refine s_istore_n (ls' := [_, _, _, _]) 2 dX12_puppetsOf_1 rfl (Nat.le_of_ble_eq_true rfl) rfl rfl ?_
  refine s_iconst 3 dX12_puppetsOf_2 rfl ?_
  refine s_istore_n (ls' := [_, _, _, _]) 4 dX12_puppetsOf_3 rfl (Nat.le_of_ble_eq_true rfl) rfl rfl ?_
  exact loop (r 7 + 1).toNat 0 (by omega) (by omega) (by omega)
set_option maxHeartbeats 4000000 in
theorem c_X12_onsOf {E : ET} {I : MI} {L : ML} {R : MR} {Q : Option AV → MI → ML → MR → Prop} {r : F1} {ps cut : Int} (hT : Topo R) (er : I 141 = r) (hr : WFr r) (h : Q (some (vi (setOf (fun k => hasI ps (r (54 + 7 * k + 0)) ∧ ¬ hasI cut k) (r 7).toNat))) I L R) : CT E M_X12_onsOf 161 yX12_onsOf [(vr (138)), (vi (ps)), (vi (cut))] I L R Q := by
  refine CT_of rfl rfl (fun h => by cases h) (Nat.le_of_ble_eq_true rfl) (fun X => ?_)
  show V X _ z0 0 [some (vr (138)), some (vi (ps)), some (vi (cut)), none, none] [] I L R _
  have e0 := hr.1
  have loop : ∀ (f : Nat) (k : Int), r 7 - k < (f : Int) → 0 ≤ k → k ≤ r 7 → V X M_X12_onsOf z0 5 [some (vr (138)), some (vi (ps)), some (vi (cut)), some (vi (setOf (fun k => hasI ps (r (54 + 7 * k + 0)) ∧ ¬ hasI cut k) k.toNat)), some (vi (k))] [] (I) L R (RT X M_X12_onsOf Q) := by
    intro f
    induction f with
    | zero => intro k h1 h2 h3; omega
    | succ f ih =>
      intro k h1 h2 h3
      refine s_iload 7 dX12_onsOf_5 rfl rfl ?_
      refine s_aload_n 8 dX12_onsOf_7 rfl rfl ?_
      refine s_getR 11 dX12_onsOf_8 rfl fl_X12_20 (fun _ _ _ _ => rfl) (T_X12_r hT) sh_138 (Nat.le_of_ble_eq_true rfl) ?_
      refine s_bipush 13 dX12_onsOf_11 rfl (by decide) ?_
      refine s_iald 14 dX12_onsOf_13 rfl sh_141 (Nat.le_of_ble_eq_true rfl) (by omega) (by omega) (fun r_13 => ?_)
      rw [er] at r_13 ⊢
      refine s_icmp_ge 57 17 dX12_onsOf_14 rfl rfl (by first | omega | exact bI_r _ | exact iI_r _) (by first | omega | exact bI_r _ | exact iI_r _) (fun h_14 => ?_) (fun h_14 => ?_)
      · skip
        refine s_iload_n 58 dX12_onsOf_57 rfl rfl ?_
        refine s_iret dX12_onsOf_58 rfl rfl ?_
        have ek : k = r 7 := by omega
        subst ek
        exact h
      skip
      have e1 := hr.2.2.2.1 k (by omega) (by omega)
      refine s_iload_n 18 dX12_onsOf_17 rfl rfl ?_
      refine s_iload_n 19 dX12_onsOf_18 rfl rfl ?_
      refine s_aload_n 20 dX12_onsOf_19 rfl rfl ?_
      refine s_iload 22 dX12_onsOf_20 rfl rfl ?_
      refine s_iconst 23 dX12_onsOf_22 rfl ?_
      refine s_callV0 (M' := M_X12_onOf) (as := [_, _]) 26 dX12_onsOf_23 rfl cw_X12_302 rfl rfl sh_138 rfl (by decide) (Nat.le_of_ble_eq_true rfl) (Nat.le_of_ble_eq_true rfl) (Nat.le_of_ble_eq_true rfl) (Nat.le_of_ble_eq_true rfl) ⟨rfl, rfl, rfl⟩ ?_
      refine c_X12_onOf hT er (by omega) (by omega) ?_
      refine s_callS0 (M' := M_X12_has) (as := [_, _]) 29 dX12_onsOf_26 rfl cw_X12_278 rfl rfl (Nat.le_of_ble_eq_true rfl) (Nat.le_of_ble_eq_true rfl) (Nat.le_of_ble_eq_true rfl) ⟨rfl, rfl, rfl⟩ ?_
      refine c_X12_has ?_
      refine s_ifb_eq 48 32 dX12_onsOf_29 rfl rfl (fun h_29 => ?_) (fun h_29 => ?_)
      · skip
        refine s_iconst 49 dX12_onsOf_48 rfl ?_
        refine s_ior 50 dX12_onsOf_49 rfl ?_
        refine s_istore_n (ls' := [_, _, _, _, _]) 51 dX12_onsOf_50 rfl (Nat.le_of_ble_eq_true rfl) rfl rfl ?_
        refine s_iinc (ls' := [_, _, _, _, _]) 54 dX12_onsOf_51 rfl rfl (Nat.le_of_ble_eq_true rfl) rfl rfl ?_
        refine s_goto 5 dX12_onsOf_54 rfl ?_
        first | (rw [setOf_t h2 (by exact ⟨by assumption, by assumption⟩)]; exact ih (k + 1) (by omega) (by omega) (by omega)) | (rw [setOf_f h2 (by rintro ⟨q1, q2⟩; contradiction)]; exact ih (k + 1) (by omega) (by omega) (by omega))
      refine s_iload_n 33 dX12_onsOf_32 rfl rfl ?_
      refine s_iload 35 dX12_onsOf_33 rfl rfl ?_
      refine s_callS0 (M' := M_X12_has) (as := [_, _]) 38 dX12_onsOf_35 rfl cw_X12_278 rfl rfl (Nat.le_of_ble_eq_true rfl) (Nat.le_of_ble_eq_true rfl) (Nat.le_of_ble_eq_true rfl) ⟨rfl, rfl, rfl⟩ ?_
      refine c_X12_has ?_
      refine s_ifb_ne 48 41 dX12_onsOf_38 rfl rfl (fun h_38 => ?_) (fun h_38 => ?_)
      · skip
        refine s_iconst 49 dX12_onsOf_48 rfl ?_
        refine s_ior 50 dX12_onsOf_49 rfl ?_
        refine s_istore_n (ls' := [_, _, _, _, _]) 51 dX12_onsOf_50 rfl (Nat.le_of_ble_eq_true rfl) rfl rfl ?_
        refine s_iinc (ls' := [_, _, _, _, _]) 54 dX12_onsOf_51 rfl rfl (Nat.le_of_ble_eq_true rfl) rfl rfl ?_
        refine s_goto 5 dX12_onsOf_54 rfl ?_
        first | (rw [setOf_t h2 (by exact ⟨by assumption, by assumption⟩)]; exact ih (k + 1) (by omega) (by omega) (by omega)) | (rw [setOf_f h2 (by rintro ⟨q1, q2⟩; contradiction)]; exact ih (k + 1) (by omega) (by omega) (by omega))
      refine s_iconst 42 dX12_onsOf_41 rfl ?_
      refine s_iload 44 dX12_onsOf_42 rfl rfl ?_
      refine s_ishl 45 dX12_onsOf_44 rfl ?_
      refine s_goto 49 dX12_onsOf_45 rfl ?_
      refine s_ior 50 dX12_onsOf_49 rfl ?_
      refine s_istore_n (ls' := [_, _, _, _, _]) 51 dX12_onsOf_50 rfl (Nat.le_of_ble_eq_true rfl) rfl rfl ?_
      refine s_iinc (ls' := [_, _, _, _, _]) 54 dX12_onsOf_51 rfl rfl (Nat.le_of_ble_eq_true rfl) rfl rfl ?_
      refine s_goto 5 dX12_onsOf_54 rfl ?_
      first | (rw [setOf_t h2 (by exact ⟨by assumption, by assumption⟩)]; exact ih (k + 1) (by omega) (by omega) (by omega)) | (rw [setOf_f h2 (by rintro ⟨q1, q2⟩; contradiction)]; exact ih (k + 1) (by omega) (by omega) (by omega))
  refine s_iconst 1 dX12_onsOf_0 rfl ?_
  refine s_istore_n (ls' := [_, _, _, _, _]) 2 dX12_onsOf_1 rfl (Nat.le_of_ble_eq_true rfl) rfl rfl ?_
  refine s_iconst 3 dX12_onsOf_2 rfl ?_
  refine s_istore (ls' := [_, _, _, _, _]) 5 dX12_onsOf_3 rfl (Nat.le_of_ble_eq_true rfl) rfl rfl ?_
  exact loop (r 7 + 1).toNat 0 (by omega) (by omega) (by omega)
set_option maxHeartbeats 4000000 in
theorem c_X12_partsOf {E : ET} {I : MI} {L : ML} {R : MR} {Q : Option AV → MI → ML → MR → Prop} {r s : F1} {p : Int} (hT : Topo R) (er : I 141 = r) (es : I 143 = s) (hr : WFr r) (hs : ∀ k, 0 ≤ k → k < 7 → 0 ≤ s (5 + k) ∧ s (5 + k) ≤ 6) (hp : 0 ≤ p ∧ p ≤ 6) (h : Q (some (vi (setOf (fun k => s (5 + k) = p) (r 4).toNat))) I L R) : CT E M_X12_partsOf 161 yX12_partsOf [(vr (138)), (vi (p))] I L R Q := by
  refine CT_of rfl rfl (fun h => by cases h) (Nat.le_of_ble_eq_true rfl) (fun X => ?_)
  show V X _ z0 0 [some (vr (138)), some (vi (p)), none, none] [] I L R _
  have e0 := hr.1
  have loop : ∀ (f : Nat) (k : Int), r 4 - k < (f : Int) → 0 ≤ k → k ≤ r 4 → V X M_X12_partsOf z0 4 [some (vr (138)), some (vi (p)), some (vi (setOf (fun k => s (5 + k) = p) k.toNat)), some (vi (k))] [] (I) L R (RT X M_X12_partsOf Q) := by
    intro f
    induction f with
    | zero => intro k h1 h2 h3; omega
    | succ f ih =>
      intro k h1 h2 h3
      refine s_iload_n 5 dX12_partsOf_4 rfl rfl ?_
      refine s_aload_n 6 dX12_partsOf_5 rfl rfl ?_
      refine s_getR 9 dX12_partsOf_6 rfl fl_X12_20 (fun _ _ _ _ => rfl) (T_X12_r hT) sh_138 (Nat.le_of_ble_eq_true rfl) ?_
      refine s_iconst 10 dX12_partsOf_9 rfl ?_
      refine s_iald 11 dX12_partsOf_10 rfl sh_141 (Nat.le_of_ble_eq_true rfl) (by omega) (by omega) (fun r_10 => ?_)
      rw [er] at r_10 ⊢
      refine s_icmp_ge 42 14 dX12_partsOf_11 rfl rfl (by first | omega | exact bI_r _ | exact iI_r _) (by first | omega | exact bI_r _ | exact iI_r _) (fun h_11 => ?_) (fun h_11 => ?_)
      · skip
        refine s_iload_n 43 dX12_partsOf_42 rfl rfl ?_
        refine s_iret dX12_partsOf_43 rfl rfl ?_
        have ek : k = r 4 := by omega
        subst ek
        exact h
      skip
      have e1 := hs k (by omega) (by omega)
      refine s_iload_n 15 dX12_partsOf_14 rfl rfl ?_
      refine s_aload_n 16 dX12_partsOf_15 rfl rfl ?_
      refine s_getR 19 dX12_partsOf_16 rfl fl_X12_26 (fun _ _ _ _ => rfl) (T_X12_st hT) sh_138 (Nat.le_of_ble_eq_true rfl) ?_
      refine s_iconst 20 dX12_partsOf_19 rfl ?_
      refine s_iload_n 21 dX12_partsOf_20 rfl rfl ?_
      refine s_iadd 22 dX12_partsOf_21 rfl ?_
      refine s_iald 23 dX12_partsOf_22 rfl sh_143 (Nat.le_of_ble_eq_true rfl) (by omega) (by omega) (fun r_22 => ?_)
      rw [es] at r_22 ⊢
      refine s_iload_n 24 dX12_partsOf_23 rfl rfl ?_
      refine s_icmp_ne 33 27 dX12_partsOf_24 rfl rfl (by first | omega | exact bI_r _ | exact iI_r _) (by first | omega | exact bI_r _ | exact iI_r _) (fun h_24 => ?_) (fun h_24 => ?_)
      · skip
        refine s_iconst 34 dX12_partsOf_33 rfl ?_
        refine s_ior 35 dX12_partsOf_34 rfl ?_
        refine s_istore_n (ls' := [_, _, _, _]) 36 dX12_partsOf_35 rfl (Nat.le_of_ble_eq_true rfl) rfl rfl ?_
        refine s_iinc (ls' := [_, _, _, _]) 39 dX12_partsOf_36 rfl rfl (Nat.le_of_ble_eq_true rfl) rfl rfl ?_
        refine s_goto 4 dX12_partsOf_39 rfl ?_
        first | (rw [setOf_t h2 (by assumption)]; exact ih (k + 1) (by omega) (by omega) (by omega)) | (rw [setOf_f h2 (by assumption)]; exact ih (k + 1) (by omega) (by omega) (by omega))
      refine s_iconst 28 dX12_partsOf_27 rfl ?_
      refine s_iload_n 29 dX12_partsOf_28 rfl rfl ?_
      refine s_ishl 30 dX12_partsOf_29 rfl ?_
      refine s_goto 34 dX12_partsOf_30 rfl ?_
      refine s_ior 35 dX12_partsOf_34 rfl ?_
      refine s_istore_n (ls' := [_, _, _, _]) 36 dX12_partsOf_35 rfl (Nat.le_of_ble_eq_true rfl) rfl rfl ?_
      refine s_iinc (ls' := [_, _, _, _]) 39 dX12_partsOf_36 rfl rfl (Nat.le_of_ble_eq_true rfl) rfl rfl ?_
      refine s_goto 4 dX12_partsOf_39 rfl ?_
      first | (rw [setOf_t h2 (by assumption)]; exact ih (k + 1) (by omega) (by omega) (by omega)) | (rw [setOf_f h2 (by assumption)]; exact ih (k + 1) (by omega) (by omega) (by omega))
  refine s_iconst 1 dX12_partsOf_0 rfl ?_
  refine s_istore_n (ls' := [_, _, _, _]) 2 dX12_partsOf_1 rfl (Nat.le_of_ble_eq_true rfl) rfl rfl ?_
  refine s_iconst 3 dX12_partsOf_2 rfl ?_
  refine s_istore_n (ls' := [_, _, _, _]) 4 dX12_partsOf_3 rfl (Nat.le_of_ble_eq_true rfl) rfl rfl ?_
  exact loop (r 4 + 1).toNat 0 (by omega) (by omega) (by omega)
set_option maxHeartbeats 4000000 in
theorem c_X12_onsOfPlayer {E : ET} {I : MI} {L : ML} {R : MR} {Q : Option AV → MI → ML → MR → Prop} {r s : F1} {p : Int} (hT : Topo R) (er : I 141 = r) (es : I 143 = s) (hr : WFr r) (hs : ∀ k, 0 ≤ k → k < 7 → 0 ≤ s (5 + k) ∧ s (5 + k) ≤ 6) (hp : 0 ≤ p ∧ p ≤ 6) (h : Q (some (vi (setOf (fun k => s (5 + r (54 + 7 * k + 0)) = p ∧ ¬ hasI (s 12) k) (r 7).toNat))) I L R) : CT E M_X12_onsOfPlayer 161 yX12_onsOfPlayer [(vr (138)), (vi (p))] I L R Q := by
  refine CT_of rfl rfl (fun h => by cases h) (Nat.le_of_ble_eq_true rfl) (fun X => ?_)
  show V X _ z0 0 [some (vr (138)), some (vi (p))] [] I L R _
  have e0 := hr.1
  refine s_aload_n 1 dX12_onsOfPlayer_0 rfl rfl ?_
  refine s_aload_n 2 dX12_onsOfPlayer_1 rfl rfl ?_
  refine s_iload_n 3 dX12_onsOfPlayer_2 rfl rfl ?_
  refine s_callV0 (M' := M_X12_partsOf) (as := [_]) 6 dX12_onsOfPlayer_3 rfl cw_X12_339 rfl rfl sh_138 rfl (by decide) (Nat.le_of_ble_eq_true rfl) (Nat.le_of_ble_eq_true rfl) (Nat.le_of_ble_eq_true rfl) (Nat.le_of_ble_eq_true rfl) ⟨rfl, rfl, rfl⟩ ?_
  refine c_X12_partsOf hT er es hr hs (by omega) ?_
  refine s_aload_n 7 dX12_onsOfPlayer_6 rfl rfl ?_
  refine s_getR 10 dX12_onsOfPlayer_7 rfl fl_X12_26 (fun _ _ _ _ => rfl) (T_X12_st hT) sh_138 (Nat.le_of_ble_eq_true rfl) ?_
  refine s_bipush 12 dX12_onsOfPlayer_10 rfl (by decide) ?_
  refine s_iald 13 dX12_onsOfPlayer_12 rfl sh_143 (Nat.le_of_ble_eq_true rfl) (by omega) (by omega) (fun r_12 => ?_)
  rw [es] at r_12 ⊢
  refine s_callV0 (M' := M_X12_onsOf) (as := [_, _]) 16 dX12_onsOfPlayer_13 rfl cw_X12_342 rfl rfl sh_138 rfl (by decide) (Nat.le_of_ble_eq_true rfl) (Nat.le_of_ble_eq_true rfl) (Nat.le_of_ble_eq_true rfl) (Nat.le_of_ble_eq_true rfl) ⟨rfl, rfl, rfl⟩ ?_
  refine c_X12_onsOf hT er hr ?_
  refine s_iret dX12_onsOfPlayer_16 rfl rfl ?_
  have e : setOf (fun k => hasI (setOf (fun k => s (5 + k) = p) (r 4).toNat) (r (54 + 7 * k + 0)) ∧ ¬ hasI (s 12) k) (r 7).toNat = setOf (fun k => s (5 + r (54 + 7 * k + 0)) = p ∧ ¬ hasI (s 12) k) (r 7).toNat := setOf_c (fun k q1 q2 => by
    have e1 := hr.2.2.2.1 k (by omega) (by omega)
    rw [has_setOf (by omega) (by omega)]
    exact ⟨fun z => ⟨z.1.2, z.2⟩, fun z => ⟨⟨by omega, z.1⟩, z.2⟩⟩)
  rw [e]; exact h
