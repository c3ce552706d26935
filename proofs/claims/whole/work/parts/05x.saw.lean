/-! what was seen -/
theorem ipF_up {b a : F1} {k : Int} : ∀ {K j : Nat} (_ : ipF b a k K ≤ j) (_ : j < K), b (a j) > b k
  | 0, j, _, h => by omega
  | K + 1, j, h1, h2 => by
    unfold ipF at h1
    by_cases z : b (a K) > b k
    · rw [if_pos z] at h1
      by_cases e : j = K
      · subst e; exact z
      · exact ipF_up h1 (by omega)
    · rw [if_neg z] at h1; omega
theorem ipF_lo {b a : F1} {k : Int} : ∀ {K p : Nat} (_ : ipF b a k K = p + 1), ¬ b (a p) > b k
  | 0, p, h => by simp [ipF] at h
  | K + 1, p, h => by
    unfold ipF at h
    by_cases z : b (a K) > b k
    · rw [if_pos z] at h; exact ipF_lo h
    · rw [if_neg z] at h
      have e : K = p := by omega
      subst e; exact z
theorem srF_so (b : F1) : ∀ (K : Nat) (i j : Int), 0 ≤ i → i < j → j < K → b (srF b K i) < b (srF b K j) ∨ (b (srF b K i) = b (srF b K j) ∧ srF b K i < srF b K j)
  | 0, i, j, h1, h2, h3 => by omega
  | K + 1, i, j, h1, h2, h3 => by
    have ih := srF_so b K
    have hin := (srF_in b K).1
    have hle := ipF_le b (srF b K) (K : Int) K
    have up : ∀ m : Int, (ipF b (srF b K) (K : Int) K : Nat) ≤ m → m < K → b (srF b K m) > b K := fun m m1 m2 => by
      have := ipF_up (b := b) (a := srF b K) (k := (K : Int)) (K := K) (j := m.toNat) (by omega) (by omega)
      rw [show ((m.toNat : Nat) : Int) = m by omega] at this
      exact this
    have lo : ∀ m : Int, 0 ≤ m → m < (ipF b (srF b K) (K : Int) K : Nat) → b (srF b K m) ≤ b K := fun m m1 m2 => by
      obtain ⟨p, hp⟩ : ∃ p, ipF b (srF b K) (K : Int) K = p + 1 := ⟨ipF b (srF b K) (K : Int) K - 1, by omega⟩
      have h9 := ipF_lo hp
      by_cases e : m = p
      · subst e; omega
      · have := ih m p m1 (by omega) (by omega)
        omega
    show b (inF b (srF b K) K K i) < b (inF b (srF b K) K K j) ∨ _
    show b (inF b (srF b K) K K i) < b (inF b (srF b K) K K j) ∨ (b (inF b (srF b K) K K i) = b (inF b (srF b K) K K j) ∧ inF b (srF b K) K K i < inF b (srF b K) K K j)
    generalize hP : ipF b (srF b K) (K : Int) K = p at *
    unfold inF
    rw [hP]
    by_cases i1 : i < (p : Int)
    · rw [if_pos i1]
      have l1 := lo i h1 (by omega)
      have hi := hin i h1 (by omega)
      by_cases j1 : j < (p : Int)
      · rw [if_pos j1]; exact ih i j h1 h2 (by omega)
      · rw [if_neg j1]
        by_cases j2 : j = (p : Int)
        · rw [if_pos j2]; omega
        · rw [if_neg j2, if_pos (by omega)]
          have := up (j - 1) (by omega) (by omega)
          omega
    · rw [if_neg i1, if_neg (show ¬ j < (p : Int) by omega), if_neg (show ¬ j = (p : Int) by omega), if_pos (show j ≤ (K : Int) by omega)]
      have uj := up (j - 1) (by omega) (by omega)
      by_cases i2 : i = (p : Int)
      · rw [if_pos i2]; omega
      · rw [if_neg i2, if_pos (by omega)]
        exact ih (i - 1) (j - 1) (by omega) (by omega) (by omega)
def tiW (r : F1) (w : Int) : Int := r (152 + 3 * w + 1)
def sqW (r : F1) : F1 := srF (tiW r) (r 8).toNat
theorem sqW_P {r : F1} (hr : WFr r) : Perm (r 8) (sqW r) := by
  have h := srF_in (tiW r) (r 8).toNat
  have e : (((r 8).toNat : Nat) : Int) = r 8 := by have := hr.1; omega
  rw [e] at h
  exact h
theorem sqW_so {r : F1} (hr : WFr r) {i j : Int} (h1 : 0 ≤ i) (h2 : i < j) (h3 : j < r 8) : ErP r (sqW r i) (sqW r j) := srF_so (tiW r) (r 8).toNat i j h1 h2 (by omega)
set_option maxHeartbeats 4000000 in
theorem c_X8_timeOf {E : ET} {I : MI} {L : ML} {R : MR} {Q : Option AV → MI → ML → MR → Prop} {P : Nat} {r : F1} {w : Int} (hT : Topo R) (hP : isP P) (h8 : R 135 1 = some P) (hr : WFr r) (hR : PR I P r) (hw : 0 ≤ w ∧ w < r 8) (h : Q (some (vi (tiW r w))) I L R) : CT E M_X8_timeOf 161 yX8_timeOf [(vr (135)), (vi (w))] I L R Q := by
  refine CT_of rfl rfl (fun h => by cases h) (Nat.le_of_ble_eq_true rfl) (fun X => ?_)
  show V X _ z0 0 [some (vr (135)), some (vi (w))] [] I L R _
  have e0 := hr.1
  have rw9 := hR.2.2.2.2.1 w hw.1 hw.2
  unfold rowS at rw9
  refine s_aload_n 1 dX8_timeOf_0 rfl rfl ?_
  refine s_getR 4 dX8_timeOf_1 rfl fl_X8_15 (fun _ _ _ _ => rfl) (by assumption) sh_135 (Nat.le_of_ble_eq_true rfl) ?_
  refine s_getR 7 dX8_timeOf_4 rfl fl_X8_32 (fun _ _ _ _ => rfl) (T_X5_saws hT (by assumption)) (isP_sh (by assumption)) (isP_lt (by assumption)) ?_
  refine s_iload_n 8 dX8_timeOf_7 rfl rfl ?_
  refine s_aald 9 dX8_timeOf_8 rfl (shP_saws (by assumption)) (ltP_saws (by assumption)) (by omega) (by decide) (T_X5_saws_row hT (by assumption) (by omega)) ?_
  refine s_iconst 10 dX8_timeOf_9 rfl ?_
  refine s_iald 11 dX8_timeOf_10 rfl (shP_saws_row (by assumption) (by omega)) (ltP_saws_row (by assumption) (by omega)) (by omega) (by omega) (fun r_10 => ?_)
  rw [rw9.2.1]
  refine s_iret dX8_timeOf_11 rfl rfl ?_
  exact h
def beW (r : F1) (w v : Int) : Int := chF r (-1) (r (152 + 3 * w + 0)) (r (152 + 3 * v + 0)) + (if r (152 + 3 * w + 2) = r (152 + 3 * v + 2) then 0 else r 1)
set_option maxHeartbeats 4000000 in
theorem c_X8_between {E : ET} {I : MI} {L : ML} {R : MR} {Q : Option AV → MI → ML → MR → Prop} {P : Nat} {r : F1} {w v : Int} (hT : Topo R) (hP : isP P) (h8 : R 135 1 = some P) (hr : WFr r) (hh : wHr r) (hR : PR I P r) (hw : 0 ≤ w ∧ w < r 8) (hv : 0 ≤ v ∧ v < r 8) (h : Q (some (vi (beW r w v))) I L R) : CT E M_X8_between 161 yX8_between [(vr (135)), (vi (w)), (vi (v))] I L R Q := by
  refine CT_of rfl rfl (fun h => by cases h) (Nat.le_of_ble_eq_true rfl) (fun X => ?_)
  show V X _ z0 0 [some (vr (135)), some (vi (w)), some (vi (v)), none, none, none] [] I L R _
  have e0 := hr.1
  have rw9 := hR.2.2.2.2.1 w hw.1 hw.2
  have rv9 := hR.2.2.2.2.1 v hv.1 hv.2
  unfold rowS at rw9 rv9
  have ww := hr.2.2.2.2.1 w hw.1 hw.2
  have wv := hr.2.2.2.2.1 v hv.1 hv.2
  have cb := chF_b (rd := -1) (p := r (152 + 3 * w + 0)) (q := r (152 + 3 * v + 0)) hr ⟨by omega, by omega⟩ ⟨by omega, by omega⟩
  unfold beW at h
  refine s_aload_n 1 dX8_between_0 rfl rfl ?_
  refine s_getR 4 dX8_between_1 rfl fl_X8_15 (fun _ _ _ _ => rfl) (by assumption) sh_135 (Nat.le_of_ble_eq_true rfl) ?_
  refine s_getR 7 dX8_between_4 rfl fl_X8_32 (fun _ _ _ _ => rfl) (T_X5_saws hT (by assumption)) (isP_sh (by assumption)) (isP_lt (by assumption)) ?_
  refine s_iload_n 8 dX8_between_7 rfl rfl ?_
  refine s_aald 9 dX8_between_8 rfl (shP_saws (by assumption)) (ltP_saws (by assumption)) (by omega) (by decide) (T_X5_saws_row hT (by assumption) (by omega)) ?_
  refine s_astore_n (ls' := [_, _, _, _, _, _]) 10 dX8_between_9 rfl (Nat.le_of_ble_eq_true rfl) rfl rfl ?_
  refine s_aload_n 11 dX8_between_10 rfl rfl ?_
  refine s_getR 14 dX8_between_11 rfl fl_X8_15 (fun _ _ _ _ => rfl) (by assumption) sh_135 (Nat.le_of_ble_eq_true rfl) ?_
  refine s_getR 17 dX8_between_14 rfl fl_X8_32 (fun _ _ _ _ => rfl) (T_X5_saws hT (by assumption)) (isP_sh (by assumption)) (isP_lt (by assumption)) ?_
  refine s_iload_n 18 dX8_between_17 rfl rfl ?_
  refine s_aald 19 dX8_between_18 rfl (shP_saws (by assumption)) (ltP_saws (by assumption)) (by omega) (by decide) (T_X5_saws_row hT (by assumption) (by omega)) ?_
  refine s_astore (ls' := [_, _, _, _, _, _]) 21 dX8_between_19 rfl (Nat.le_of_ble_eq_true rfl) rfl rfl ?_
  refine s_aload_n 22 dX8_between_21 rfl rfl ?_
  refine s_getR 25 dX8_between_22 rfl fl_X8_15 (fun _ _ _ _ => rfl) (by assumption) sh_135 (Nat.le_of_ble_eq_true rfl) ?_
  refine s_aload_n 26 dX8_between_25 rfl rfl ?_
  refine s_iconst 27 dX8_between_26 rfl ?_
  refine s_iald 28 dX8_between_27 rfl (shP_saws_row (by assumption) (by omega)) (ltP_saws_row (by assumption) (by omega)) (by omega) (by omega) (fun r_27 => ?_)
  rw [rw9.1]
  refine s_aload 30 dX8_between_28 rfl rfl ?_
  refine s_iconst 31 dX8_between_30 rfl ?_
  refine s_iald 32 dX8_between_31 rfl (shP_saws_row (by assumption) (by omega)) (ltP_saws_row (by assumption) (by omega)) (by omega) (by omega) (fun r_31 => ?_)
  rw [rv9.1]
  refine s_iconst 33 dX8_between_32 rfl ?_
  refine s_callV0 (M' := M_X5_changeTime) (as := [_, _, _]) 36 dX8_between_33 rfl cw_X8_40 rfl rfl (isP_sh (by assumption)) rfl (by decide) (isP_lt (by assumption)) (Nat.le_of_ble_eq_true rfl) (Nat.le_of_ble_eq_true rfl) (Nat.le_of_ble_eq_true rfl) ⟨rfl, rfl, rfl⟩ ?_
  refine c_X5_changeTime hT hP hr hh hR ⟨by omega, by omega⟩ ⟨by omega, by omega⟩ (by decide) ?_
  refine s_istore (ls' := [_, _, _, _, _, _]) 38 dX8_between_36 rfl (Nat.le_of_ble_eq_true rfl) rfl rfl ?_
  refine s_aload_n 39 dX8_between_38 rfl rfl ?_
  refine s_iconst 40 dX8_between_39 rfl ?_
  refine s_iald 41 dX8_between_40 rfl (shP_saws_row (by assumption) (by omega)) (ltP_saws_row (by assumption) (by omega)) (by omega) (by omega) (fun r_40 => ?_)
  rw [rw9.2.2]
  refine s_aload 43 dX8_between_41 rfl rfl ?_
  refine s_iconst 44 dX8_between_43 rfl ?_
  refine s_iald 45 dX8_between_44 rfl (shP_saws_row (by assumption) (by omega)) (ltP_saws_row (by assumption) (by omega)) (by omega) (by omega) (fun r_44 => ?_)
  rw [rv9.2.2]
  refine s_icmp_eq 61 48 dX8_between_45 rfl rfl (by first | omega | exact bI_r _ | exact iI_r _) (by first | omega | exact bI_r _ | exact iI_r _) (fun h_45 => ?_) (fun h_45 => ?_)
  · skip
    refine s_iload 63 dX8_between_61 rfl rfl ?_
    refine s_iret dX8_between_63 rfl rfl ?_
    first | (rw [if_pos h_45, Int.add_zero] at h; exact h) | (rw [if_neg h_45] at h; exact h)
  refine s_iload 50 dX8_between_48 rfl rfl ?_
  refine s_aload_n 51 dX8_between_50 rfl rfl ?_
  refine s_getR 54 dX8_between_51 rfl fl_X8_15 (fun _ _ _ _ => rfl) (by assumption) sh_135 (Nat.le_of_ble_eq_true rfl) ?_
  refine s_getI 57 dX8_between_54 rfl fl_X8_44 (fun _ _ _ _ => rfl) (isP_sh (by assumption)) (isP_lt (by assumption)) (fun r_54 => ?_)
  rw [hR.1.1]
  refine s_iadd 58 dX8_between_57 rfl ?_
  refine s_goto 63 dX8_between_58 rfl ?_
  refine s_iret dX8_between_63 rfl rfl ?_
  first | (rw [if_pos h_45, Int.add_zero] at h; exact h) | (rw [if_neg h_45] at h; exact h)
def SrV (I : MI) (r : F1) : Prop := ∀ i, 0 ≤ i → i < r 8 → I 137 i = sqW r i
set_option maxHeartbeats 4000000 in
theorem c_X8_fits {E : ET} {I : MI} {L : ML} {R : MR} {Q : Option AV → MI → ML → MR → Prop} {P : Nat} {r : F1} {s : Int} (hT : Topo R) (hP : isP P) (h8 : R 135 1 = some P) (hr : WFr r) (hh : wHr r) (hR : PR I P r) (hV : SrV I r) (h : Q (some (vi (bI (SeenP r s)))) I L R) : CT E M_X8_fits 161 yX8_fits [(vr (135)), (vi (s))] I L R Q := by
  refine CT_of rfl rfl (fun h => by cases h) (Nat.le_of_ble_eq_true rfl) (fun X => ?_)
  show V X _ z0 0 [some (vr (135)), some (vi (s)), none, none, none] [] I L R _
  have e0 := hr.1
  have e7 := hR.1.2.2.2.2.2.2.2
  have hq := sqW_P hr
  have hso : ∀ i j, 0 ≤ i → i < r 8 → 0 ≤ j → j < r 8 → ErP r (sqW r i) (sqW r j) → i < j := fun i j i1 i2 j1 j2 z => by
    rcases Int.lt_trichotomy i j with e | e | e
    · exact e
    · subst e; exact absurd z ErP.ir
    · exact absurd (sqW_so hr j1 e i2) z.as
  have loop : ∀ (f : Nat) (i last j : Int) (w : Option AV), r 8 - i < (f : Int) → 0 ≤ i → i ≤ r 8 →
      ((last = -1 ∧ ∀ m, 0 ≤ m → m < i → ¬ hasI s (sqW r m)) ∨ (0 ≤ j ∧ j < i ∧ last = sqW r j ∧ hasI s (sqW r j) ∧ ∀ m, j < m → m < i → ¬ hasI s (sqW r m))) →
      (∀ i' j', 0 ≤ i' → i' < j' → j' < i → hasI s (sqW r i') → hasI s (sqW r j') → (∀ m, i' < m → m < j' → ¬ hasI s (sqW r m)) → ThP r (sqW r i') (sqW r j')) →
      V X M_X8_fits z0 4 [some (vr (135)), some (vi (s)), some (vi (last)), some (vi (i)), w] [] (I) L R (RT X M_X8_fits Q) := by
    intro f
    induction f with
    | zero => intro i last j w h1 h2 h3; omega
    | succ f ih =>
      intro i last j w h1 h2 h3 hl hc
      by_cases hi : i < r 8
      · have qi := hq.1 i h2 hi
        have eqi := hV i h2 hi
        by_cases hs : hasI s (sqW r i)
        · have next : (∀ i', 0 ≤ i' → i' < i → hasI s (sqW r i') → (∀ m, i' < m → m < i → ¬ hasI s (sqW r m)) → ThP r (sqW r i') (sqW r i)) → V X M_X8_fits z0 4 [some (vr (135)), some (vi (s)), some (vi (sqW r i)), some (vi (i + 1)), some (vi (sqW r i))] [] (I) L R (RT X M_X8_fits Q) := by
            intro hci
            refine ih (i + 1) (sqW r i) i _ (by omega) (by omega) (by omega) (Or.inr ⟨h2, by omega, rfl, hs, fun m a1 a2 => by omega⟩) (fun i' j' a1 a2 a3 a4 a5 a6 => ?_)
            by_cases ej : j' = i
            · subst ej; exact hci i' a1 a2 a4 a6
            · exact hc i' j' a1 a2 (by omega) a4 a5 a6
          rcases hl with ⟨hl1, hl2⟩ | ⟨hj1, hj2, hj3, hj4, hj5⟩
          · skip
            refine s_iload_n 5 dX8_fits_4 rfl rfl ?_
            refine s_aload_n 6 dX8_fits_5 rfl rfl ?_
            refine s_getR 9 dX8_fits_6 rfl fl_X8_15 (fun _ _ _ _ => rfl) (by assumption) sh_135 (Nat.le_of_ble_eq_true rfl) ?_
            refine s_getI 12 dX8_fits_9 rfl fl_X8_22 (fun _ _ _ _ => rfl) (isP_sh (by assumption)) (isP_lt (by assumption)) (fun r_9 => ?_)
            rw [e7]
            refine s_icmp_ge 71 15 dX8_fits_12 rfl rfl (by first | omega | exact bI_r _ | exact iI_r _) (by first | omega | exact bI_r _ | exact iI_r _) (fun h_12 => by exfalso; omega) (fun h_12 => ?_)
            refine s_aload_n 16 dX8_fits_15 rfl rfl ?_
            refine s_getR 19 dX8_fits_16 rfl fl_X8_9 (fun _ _ _ _ => rfl) (T_X8_row hT) sh_135 (Nat.le_of_ble_eq_true rfl) ?_
            refine s_iload_n 20 dX8_fits_19 rfl rfl ?_
            refine s_iald 21 dX8_fits_20 rfl sh_137 (Nat.le_of_ble_eq_true rfl) (by omega) (by omega) (fun r_20 => ?_)
            rw [eqi]
            refine s_istore (ls' := [_, _, _, _, _]) 23 dX8_fits_21 rfl (Nat.le_of_ble_eq_true rfl) rfl rfl ?_
            refine s_iload_n 24 dX8_fits_23 rfl rfl ?_
            refine s_iload 26 dX8_fits_24 rfl rfl ?_
            refine s_ishr 27 dX8_fits_26 rfl ?_
            refine s_iconst 28 dX8_fits_27 rfl ?_
            refine s_iand 29 dX8_fits_28 rfl ?_
            refine s_iconst 30 dX8_fits_29 rfl ?_
            refine s_icmp_ne 65 33 dX8_fits_30 rfl rfl (by first | omega | exact iand_r _ _) (by first | omega | exact iand_r _ _) (fun h_30 => by exfalso; exact h_30 hs) (fun h_30 => ?_)
            refine s_iload_n 34 dX8_fits_33 rfl rfl ?_
            refine s_iconst 35 dX8_fits_34 rfl ?_
            refine s_icmp_eq 62 38 dX8_fits_35 rfl rfl (by first | omega | exact bI_r _ | exact iI_r _) (by first | omega | exact bI_r _ | exact iI_r _) (fun h_35 => ?_) (fun h_35 => by exfalso; omega)
            refine s_iload 64 dX8_fits_62 rfl rfl ?_
            refine s_istore_n (ls' := [_, _, _, _, _]) 65 dX8_fits_64 rfl (Nat.le_of_ble_eq_true rfl) rfl rfl ?_
            refine s_iinc (ls' := [_, _, _, _, _]) 68 dX8_fits_65 rfl rfl (Nat.le_of_ble_eq_true rfl) rfl rfl ?_
            refine s_goto 4 dX8_fits_68 rfl ?_
            exact next (fun i' a1 a2 a3 a4 => absurd a3 (hl2 i' a1 a2))
          · have qj := hq.1 j hj1 (by omega)
            have ti := hr.2.2.2.2.1 (sqW r i) qi.1 qi.2
            have tj := hr.2.2.2.2.1 (sqW r j) qj.1 qj.2
            have cb : 0 ≤ beW r (sqW r j) (sqW r i) ∧ beW r (sqW r j) (sqW r i) ≤ 400 := by
              have := chF_b (rd := -1) (p := r (152 + 3 * sqW r j + 0)) (q := r (152 + 3 * sqW r i + 0)) hr ⟨by omega, by omega⟩ ⟨by omega, by omega⟩
              unfold beW
              split <;> omega
            have eT : ThP r (sqW r j) (sqW r i) ↔ tiW r (sqW r i) - tiW r (sqW r j) ≥ beW r (sqW r j) (sqW r i) := Iff.rfl
            have t1 : 0 ≤ tiW r (sqW r i) ∧ tiW r (sqW r i) ≤ 999 := ⟨ti.2.2.1, ti.2.2.2.1⟩
            have t2 : 0 ≤ tiW r (sqW r j) ∧ tiW r (sqW r j) ≤ 999 := ⟨tj.2.2.1, tj.2.2.2.1⟩
            have hon : ∀ i', 0 ≤ i' → i' < i → hasI s (sqW r i') → (∀ m, i' < m → m < i → ¬ hasI s (sqW r m)) → i' = j := by
              intro i' a1 a2 a3 a4
              rcases Int.lt_trichotomy i' j with g | g | g
              · exact absurd hj4 (a4 j g hj2)
              · exact g
              · exact absurd a3 (hj5 i' g a2)
            subst hj3
            refine s_iload_n 5 dX8_fits_4 rfl rfl ?_
            refine s_aload_n 6 dX8_fits_5 rfl rfl ?_
            refine s_getR 9 dX8_fits_6 rfl fl_X8_15 (fun _ _ _ _ => rfl) (by assumption) sh_135 (Nat.le_of_ble_eq_true rfl) ?_
            refine s_getI 12 dX8_fits_9 rfl fl_X8_22 (fun _ _ _ _ => rfl) (isP_sh (by assumption)) (isP_lt (by assumption)) (fun r_9 => ?_)
            rw [e7]
            refine s_icmp_ge 71 15 dX8_fits_12 rfl rfl (by first | omega | exact bI_r _ | exact iI_r _) (by first | omega | exact bI_r _ | exact iI_r _) (fun h_12 => by exfalso; omega) (fun h_12 => ?_)
            refine s_aload_n 16 dX8_fits_15 rfl rfl ?_
            refine s_getR 19 dX8_fits_16 rfl fl_X8_9 (fun _ _ _ _ => rfl) (T_X8_row hT) sh_135 (Nat.le_of_ble_eq_true rfl) ?_
            refine s_iload_n 20 dX8_fits_19 rfl rfl ?_
            refine s_iald 21 dX8_fits_20 rfl sh_137 (Nat.le_of_ble_eq_true rfl) (by omega) (by omega) (fun r_20 => ?_)
            rw [eqi]
            refine s_istore (ls' := [_, _, _, _, _]) 23 dX8_fits_21 rfl (Nat.le_of_ble_eq_true rfl) rfl rfl ?_
            refine s_iload_n 24 dX8_fits_23 rfl rfl ?_
            refine s_iload 26 dX8_fits_24 rfl rfl ?_
            refine s_ishr 27 dX8_fits_26 rfl ?_
            refine s_iconst 28 dX8_fits_27 rfl ?_
            refine s_iand 29 dX8_fits_28 rfl ?_
            refine s_iconst 30 dX8_fits_29 rfl ?_
            refine s_icmp_ne 65 33 dX8_fits_30 rfl rfl (by first | omega | exact iand_r _ _) (by first | omega | exact iand_r _ _) (fun h_30 => by exfalso; exact h_30 hs) (fun h_30 => ?_)
            refine s_iload_n 34 dX8_fits_33 rfl rfl ?_
            refine s_iconst 35 dX8_fits_34 rfl ?_
            refine s_icmp_eq 62 38 dX8_fits_35 rfl rfl (by first | omega | exact bI_r _ | exact iI_r _) (by first | omega | exact bI_r _ | exact iI_r _) (fun h_35 => by exfalso; omega) (fun h_35 => ?_)
            refine s_aload_n 39 dX8_fits_38 rfl rfl ?_
            refine s_iload 41 dX8_fits_39 rfl rfl ?_
            refine s_callV0 (M' := M_X8_timeOf) (as := [_]) 44 dX8_fits_41 rfl cw_X8_28 rfl rfl sh_135 rfl (by decide) (Nat.le_of_ble_eq_true rfl) (Nat.le_of_ble_eq_true rfl) (Nat.le_of_ble_eq_true rfl) (Nat.le_of_ble_eq_true rfl) ⟨rfl, rfl, rfl⟩ ?_
            refine c_X8_timeOf hT hP h8 hr hR qi ?_
            refine s_aload_n 45 dX8_fits_44 rfl rfl ?_
            refine s_iload_n 46 dX8_fits_45 rfl rfl ?_
            refine s_callV0 (M' := M_X8_timeOf) (as := [_]) 49 dX8_fits_46 rfl cw_X8_28 rfl rfl sh_135 rfl (by decide) (Nat.le_of_ble_eq_true rfl) (Nat.le_of_ble_eq_true rfl) (Nat.le_of_ble_eq_true rfl) (Nat.le_of_ble_eq_true rfl) ⟨rfl, rfl, rfl⟩ ?_
            refine c_X8_timeOf hT hP h8 hr hR qj ?_
            refine s_isub 50 dX8_fits_49 rfl ?_
            refine s_aload_n 51 dX8_fits_50 rfl rfl ?_
            refine s_iload_n 52 dX8_fits_51 rfl rfl ?_
            refine s_iload 54 dX8_fits_52 rfl rfl ?_
            refine s_callV0 (M' := M_X8_between) (as := [_, _]) 57 dX8_fits_54 rfl cw_X8_36 rfl rfl sh_135 rfl (by decide) (Nat.le_of_ble_eq_true rfl) (Nat.le_of_ble_eq_true rfl) (Nat.le_of_ble_eq_true rfl) (Nat.le_of_ble_eq_true rfl) ⟨rfl, rfl, rfl⟩ ?_
            refine c_X8_between hT hP h8 hr hh hR qj qi ?_
            refine s_icmp_ge 62 60 dX8_fits_57 rfl rfl (by first | omega | exact bI_r _ | exact iI_r _) (by first | omega | exact bI_r _ | exact iI_r _) (fun h_57 => ?_) (fun h_57 => ?_)
            · skip
              refine s_iload 64 dX8_fits_62 rfl rfl ?_
              refine s_istore_n (ls' := [_, _, _, _, _]) 65 dX8_fits_64 rfl (Nat.le_of_ble_eq_true rfl) rfl rfl ?_
              refine s_iinc (ls' := [_, _, _, _, _]) 68 dX8_fits_65 rfl rfl (Nat.le_of_ble_eq_true rfl) rfl rfl ?_
              refine s_goto 4 dX8_fits_68 rfl ?_
              refine next (fun i' a1 a2 a3 a4 => ?_)
              rw [hon i' a1 a2 a3 a4]
              exact eT.mpr h_57
            refine s_iconst 61 dX8_fits_60 rfl ?_
            refine s_zret dX8_fits_61 rfl (by first | omega | exact bI_b _) rfl ?_
            refine ret_f (fun z => ?_) h
            have := eT.mp (z (sqW r j) (sqW r i) qj.1 qj.2 qi.1 qi.2 hj4 hs (sqW_so hr hj1 hj2 hi) (fun u u1 u2 u3 u4 => by
              obtain ⟨m, m1, m2, m3⟩ := hq.2.2 u u1 u2
              subst m3
              exact hj5 m (hso j m hj1 (by omega) m1 m2 u4.1) (hso m i m1 m2 h2 hi u4.2) u3))
            omega
        · skip
          refine s_iload_n 5 dX8_fits_4 rfl rfl ?_
          refine s_aload_n 6 dX8_fits_5 rfl rfl ?_
          refine s_getR 9 dX8_fits_6 rfl fl_X8_15 (fun _ _ _ _ => rfl) (by assumption) sh_135 (Nat.le_of_ble_eq_true rfl) ?_
          refine s_getI 12 dX8_fits_9 rfl fl_X8_22 (fun _ _ _ _ => rfl) (isP_sh (by assumption)) (isP_lt (by assumption)) (fun r_9 => ?_)
          rw [e7]
          refine s_icmp_ge 71 15 dX8_fits_12 rfl rfl (by first | omega | exact bI_r _ | exact iI_r _) (by first | omega | exact bI_r _ | exact iI_r _) (fun h_12 => by exfalso; omega) (fun h_12 => ?_)
          refine s_aload_n 16 dX8_fits_15 rfl rfl ?_
          refine s_getR 19 dX8_fits_16 rfl fl_X8_9 (fun _ _ _ _ => rfl) (T_X8_row hT) sh_135 (Nat.le_of_ble_eq_true rfl) ?_
          refine s_iload_n 20 dX8_fits_19 rfl rfl ?_
          refine s_iald 21 dX8_fits_20 rfl sh_137 (Nat.le_of_ble_eq_true rfl) (by omega) (by omega) (fun r_20 => ?_)
          rw [eqi]
          refine s_istore (ls' := [_, _, _, _, _]) 23 dX8_fits_21 rfl (Nat.le_of_ble_eq_true rfl) rfl rfl ?_
          refine s_iload_n 24 dX8_fits_23 rfl rfl ?_
          refine s_iload 26 dX8_fits_24 rfl rfl ?_
          refine s_ishr 27 dX8_fits_26 rfl ?_
          refine s_iconst 28 dX8_fits_27 rfl ?_
          refine s_iand 29 dX8_fits_28 rfl ?_
          refine s_iconst 30 dX8_fits_29 rfl ?_
          refine s_icmp_ne 65 33 dX8_fits_30 rfl rfl (by first | omega | exact iand_r _ _) (by first | omega | exact iand_r _ _) (fun h_30 => ?_) (fun h_30 => by exfalso; exact hs h_30)
          refine s_iinc (ls' := [_, _, _, _, _]) 68 dX8_fits_65 rfl rfl (Nat.le_of_ble_eq_true rfl) rfl rfl ?_
          refine s_goto 4 dX8_fits_68 rfl ?_
          refine ih (i + 1) last j _ (by omega) (by omega) (by omega) ?_ (fun i' j' a1 a2 a3 a4 a5 a6 => ?_)
          · rcases hl with ⟨g1, g2⟩ | ⟨g1, g2, g3, g4, g5⟩
            · refine Or.inl ⟨g1, fun m a1 a2 => ?_⟩
              by_cases em : m = i
              · subst em; exact hs
              · exact g2 m a1 (by omega)
            · refine Or.inr ⟨g1, by omega, g3, g4, fun m a1 a2 => ?_⟩
              by_cases em : m = i
              · subst em; exact hs
              · exact g5 m a1 (by omega)
          · by_cases ej : j' = i
            · subst ej; exact absurd a5 hs
            · exact hc i' j' a1 a2 (by omega) a4 a5 a6
      · have ei : i = r 8 := by omega
        subst ei
        have hS : SeenP r s := by
          intro w v w1 w2 v1 v2 w3 v3 hwv hn
          obtain ⟨i, i1, i2, i3⟩ := hq.2.2 w w1 w2
          obtain ⟨j, j1, j2, j3⟩ := hq.2.2 v v1 v2
          subst i3; subst j3
          have hij := hso i j i1 i2 j1 j2 hwv
          refine hc i j i1 hij j2 w3 v3 (fun m m1 m2 m3 => ?_)
          have qm := hq.1 m (by omega) (by omega)
          exact hn (sqW r m) qm.1 qm.2 m3 ⟨sqW_so hr i1 m1 (by omega), sqW_so hr (by omega) m2 j2⟩
        refine s_iload_n 5 dX8_fits_4 rfl rfl ?_
        refine s_aload_n 6 dX8_fits_5 rfl rfl ?_
        refine s_getR 9 dX8_fits_6 rfl fl_X8_15 (fun _ _ _ _ => rfl) (by assumption) sh_135 (Nat.le_of_ble_eq_true rfl) ?_
        refine s_getI 12 dX8_fits_9 rfl fl_X8_22 (fun _ _ _ _ => rfl) (isP_sh (by assumption)) (isP_lt (by assumption)) (fun r_9 => ?_)
        rw [e7]
        refine s_icmp_ge 71 15 dX8_fits_12 rfl rfl (by first | omega | exact bI_r _ | exact iI_r _) (by first | omega | exact bI_r _ | exact iI_r _) (fun h_12 => ?_) (fun h_12 => by exfalso; omega)
        refine s_iconst 72 dX8_fits_71 rfl ?_
        refine s_zret dX8_fits_72 rfl (by first | omega | exact bI_b _) rfl ?_
        exact ret_t hS h
  refine s_iconst 1 dX8_fits_0 rfl ?_
  refine s_istore_n (ls' := [_, _, _, _, _]) 2 dX8_fits_1 rfl (Nat.le_of_ble_eq_true rfl) rfl rfl ?_
  refine s_iconst 3 dX8_fits_2 rfl ?_
  refine s_istore_n (ls' := [_, _, _, _, _]) 4 dX8_fits_3 rfl (Nat.le_of_ble_eq_true rfl) rfl rfl ?_
  exact loop 9 0 (-1) 0 _ (by omega) (by omega) (by omega) (Or.inl ⟨rfl, fun m a1 a2 => by omega⟩) (fun i' j' a1 a2 a3 => by omega)
theorem Topo_8 {R : MR} {v : Option Nat} (hT : Topo R) : Topo (up R 135 1 v) := Topo_up hT (fun b hb => absurd (List.mem_map_of_mem (f := fun t : Nat × Int × Nat => (t.1, t.2.1)) hb) (show ¬ ((135, 1) : Nat × Int) ∈ TOPO.map (fun t : Nat × Int × Nat => (t.1, t.2.1)) by decide +kernel))
set_option maxHeartbeats 4000000 in
theorem c_X8_take {E : ET} {I : MI} {L : ML} {R : MR} {Q : Option AV → MI → ML → MR → Prop} {P : Nat} {r : F1} (hT : Topo R) (hP : isP P) (hr : WFr r) (hR : PR I P r) (h : ∀ I', Eqo [136, 137] I I' → SrV I' r → KnG I' 136 (SeenP r) → Q none I' L (up R 135 1 (some P))) : CT E M_X8_take 161 yX8_take [(vr (135)), (vr (P))] I L R Q := by
  refine CT_of rfl rfl (fun h => by cases h) (Nat.le_of_ble_eq_true rfl) (fun X => ?_)
  show V X _ z0 0 [some (vr (135)), some (vr (P)), none, none] [] I L R _
  have hp : P = 3 ∨ P = 39 := hP
  have e0 := hr.1
  have body : ∀ R1 : MR, R1 = up R 135 1 (some P) → Topo R1 → R1 135 1 = some P → V X M_X8_take z0 5 [some (vr (135)), some (vr (P)), none, none] [] (I) L R1 (RT X M_X8_take Q) := by
    intro R1 eR hT h8
    rw [← eR] at h
    have loop : ∀ (f : Nat) (k : Int) (I1 : MI) (w : Option AV), r 8 - k < (f : Int) → 0 ≤ k → k ≤ r 8 → Eqo [137] (flI I 136 128 0) I1 → (∀ i, 0 ≤ i → i < k → I1 137 i = srF (tiW r) k.toNat i) → V X M_X8_take z0 11 [some (vr (135)), some (vr (P)), some (vi (k)), w] [] (I1) L R1 (RT X M_X8_take Q) := by
      intro f
      induction f with
      | zero => intro k I1 w h1 h2 h3; omega
      | succ f ih =>
        intro k I1 w h1 h2 h3 h4 h7
        have pr : ∀ J : MI, Eqo [137] (flI I 136 128 0) J → PR J P r := fun J z => hR.c (by omega) (fun c a b => by rw [z c (by simp; omega), flI_n (by omega)])
        have hR1 := pr I1 h4
        have e7 := hR1.1.2.2.2.2.2.2.2
        by_cases hk : k < r 8
        · have rS := (srF_in (tiW r) k.toNat).1
          have hK : ((k.toNat : Nat) : Int) = k := by omega
          have exit3 : ∀ (i : Int) (I3 : MI), 0 ≤ i → i ≤ k → Eqo [137] (flI I 136 128 0) I3 → ipF (tiW r) (I1 137) k k.toNat = i.toNat →
              (∀ j, 0 ≤ j → j ≤ k → j ≠ i → I3 137 j = if i < j then I1 137 (j - 1) else I1 137 j) → V X M_X8_take z0 68 [some (vr (135)), some (vr (P)), some (vi (k)), some (vi (i))] [] (I3) L R1 (RT X M_X8_take Q) := by
            intro i I3 k2 k3 k4 k5 k6
            refine s_aload_n 69 dX8_take_68 rfl rfl ?_
            refine s_getR 72 dX8_take_69 rfl fl_X8_9 (fun _ _ _ _ => rfl) (T_X8_row hT) sh_135 (Nat.le_of_ble_eq_true rfl) ?_
            refine s_iload_n 73 dX8_take_72 rfl rfl ?_
            refine s_iload_n 74 dX8_take_73 rfl rfl ?_
            refine s_iast 75 dX8_take_74 rfl sh_137 (Nat.le_of_ble_eq_true rfl) (by omega) (by omega) (by first | omega | exact bI_r _ | exact iI_r _) ?_
            refine s_iinc (ls' := [_, _, _, _]) 78 dX8_take_75 rfl rfl (Nat.le_of_ble_eq_true rfl) rfl rfl ?_
            refine s_goto 11 dX8_take_78 rfl ?_
            refine ih (k + 1) _ _ (by omega) (by omega) (by omega) (k4.st (by simp)) (fun j q1 q2 => ?_)
            rw [show (k + 1).toNat = k.toNat + 1 by omega]
            show _ = inF (tiW r) (srF (tiW r) k.toNat) (k.toNat : Int) k.toNat j
            rw [hK, ← inF_c (a := I1 137) (fun j q1 q2 => h7 j q1 (by omega)) (by omega)]
            unfold inF
            rw [k5, upd9]
            by_cases ej : j = i
            · rw [if_pos ej, if_neg (by omega), if_pos (by omega)]
            · rw [if_neg ej, k6 j q1 (by omega) ej]
              by_cases e2 : i < j
              · rw [if_pos e2, if_neg (by omega), if_neg (by omega), if_pos (by omega)]
              · rw [if_neg e2, if_pos (by omega)]
          have loop3 : ∀ (f : Nat) (i : Int) (I3 : MI), i < (f : Int) → 0 ≤ i → i ≤ k → Eqo [137] (flI I 136 128 0) I3 → ipF (tiW r) (I1 137) k k.toNat = ipF (tiW r) (I1 137) k i.toNat →
              (∀ j, 0 ≤ j → j ≤ k → j ≠ i → I3 137 j = if i < j then I1 137 (j - 1) else I1 137 j) → V X M_X8_take z0 24 [some (vr (135)), some (vr (P)), some (vi (k)), some (vi (i))] [] (I3) L R1 (RT X M_X8_take Q) := by
            intro f
            induction f with
            | zero => intro i I3 k1 k2; omega
            | succ f ih3 =>
              intro i I3 k1 k2 k3 k4 k5 k6
              by_cases hi : i = 0
              · subst hi
                refine s_iload_n 25 dX8_take_24 rfl rfl ?_
                refine s_if_le 68 28 dX8_take_25 rfl rfl (by first | omega | exact bI_r _ | exact iI_r _) (fun h_25 => ?_) (fun h_25 => by exfalso; omega)
                exact exit3 0 I3 k2 k3 k4 k5 k6
              · have j1 := k6 (i - 1) (by omega) (by omega) (by omega)
                rw [if_neg (by omega)] at j1
                have j2 := rS (i - 1) (by omega) (by omega)
                rw [← h7 (i - 1) (by omega) (by omega)] at j2
                have hR3 := pr I3 k4
                have t1 := hr.2.2.2.2.1 (I1 137 (i - 1)) j2.1 (by omega)
                have t2 := hr.2.2.2.2.1 k h2 hk
                have u1 : 0 ≤ tiW r (I1 137 (i - 1)) ∧ tiW r (I1 137 (i - 1)) ≤ 999 := ⟨t1.2.2.1, t1.2.2.2.1⟩
                have u2 : 0 ≤ tiW r k ∧ tiW r k ≤ 999 := ⟨t2.2.2.1, t2.2.2.2.1⟩
                have ip : ipF (tiW r) (I1 137) k i.toNat = if tiW r (I1 137 (i - 1)) > tiW r k then ipF (tiW r) (I1 137) k (i - 1).toNat else i.toNat := by
                  rw [show i.toNat = (i - 1).toNat + 1 by omega]
                  show (if tiW r (I1 137 (((i - 1).toNat : Nat) : Int)) > _ then _ else _) = _
                  rw [show (((i - 1).toNat : Nat) : Int) = i - 1 by omega]
                refine s_iload_n 25 dX8_take_24 rfl rfl ?_
                refine s_if_le 68 28 dX8_take_25 rfl rfl (by first | omega | exact bI_r _ | exact iI_r _) (fun h_25 => by exfalso; omega) (fun h_25 => ?_)
                refine s_aload_n 29 dX8_take_28 rfl rfl ?_
                refine s_aload_n 30 dX8_take_29 rfl rfl ?_
                refine s_getR 33 dX8_take_30 rfl fl_X8_9 (fun _ _ _ _ => rfl) (T_X8_row hT) sh_135 (Nat.le_of_ble_eq_true rfl) ?_
                refine s_iload_n 34 dX8_take_33 rfl rfl ?_
                refine s_iconst 35 dX8_take_34 rfl ?_
                refine s_isub 36 dX8_take_35 rfl ?_
                refine s_iald 37 dX8_take_36 rfl sh_137 (Nat.le_of_ble_eq_true rfl) (by omega) (by omega) (fun r_36 => ?_)
                rw [j1]
                refine s_callV0 (M' := M_X8_timeOf) (as := [_]) 40 dX8_take_37 rfl cw_X8_28 rfl rfl sh_135 rfl (by decide) (Nat.le_of_ble_eq_true rfl) (Nat.le_of_ble_eq_true rfl) (Nat.le_of_ble_eq_true rfl) (Nat.le_of_ble_eq_true rfl) ⟨rfl, rfl, rfl⟩ ?_
                refine c_X8_timeOf hT hP h8 hr hR3 ⟨j2.1, by omega⟩ ?_
                refine s_aload_n 41 dX8_take_40 rfl rfl ?_
                refine s_iload_n 42 dX8_take_41 rfl rfl ?_
                refine s_callV0 (M' := M_X8_timeOf) (as := [_]) 45 dX8_take_42 rfl cw_X8_28 rfl rfl sh_135 rfl (by decide) (Nat.le_of_ble_eq_true rfl) (Nat.le_of_ble_eq_true rfl) (Nat.le_of_ble_eq_true rfl) (Nat.le_of_ble_eq_true rfl) ⟨rfl, rfl, rfl⟩ ?_
                refine c_X8_timeOf hT hP h8 hr hR3 ⟨h2, hk⟩ ?_
                refine s_icmp_le 68 48 dX8_take_45 rfl rfl (by first | omega | exact bI_r _ | exact iI_r _) (by first | omega | exact bI_r _ | exact iI_r _) (fun h_45 => ?_) (fun h_45 => ?_)
                · skip
                  rw [ip, if_neg (by omega)] at k5
                  exact exit3 i I3 k2 k3 k4 k5 k6
                refine s_aload_n 49 dX8_take_48 rfl rfl ?_
                refine s_getR 52 dX8_take_49 rfl fl_X8_9 (fun _ _ _ _ => rfl) (T_X8_row hT) sh_135 (Nat.le_of_ble_eq_true rfl) ?_
                refine s_iload_n 53 dX8_take_52 rfl rfl ?_
                refine s_aload_n 54 dX8_take_53 rfl rfl ?_
                refine s_getR 57 dX8_take_54 rfl fl_X8_9 (fun _ _ _ _ => rfl) (T_X8_row hT) sh_135 (Nat.le_of_ble_eq_true rfl) ?_
                refine s_iload_n 58 dX8_take_57 rfl rfl ?_
                refine s_iconst 59 dX8_take_58 rfl ?_
                refine s_isub 60 dX8_take_59 rfl ?_
                refine s_iald 61 dX8_take_60 rfl sh_137 (Nat.le_of_ble_eq_true rfl) (by omega) (by omega) (fun r_60 => ?_)
                rw [j1]
                refine s_iast 62 dX8_take_61 rfl sh_137 (Nat.le_of_ble_eq_true rfl) (by omega) (by omega) (by first | omega | exact bI_r _ | exact iI_r _) ?_
                refine s_iinc (ls' := [_, _, _, _]) 65 dX8_take_62 rfl rfl (Nat.le_of_ble_eq_true rfl) rfl rfl ?_
                refine s_goto 24 dX8_take_65 rfl ?_
                rw [ip, if_pos (by omega)] at k5
                refine ih3 (i - 1) _ (by omega) (by omega) (by omega) (k4.st (by simp)) k5 (fun j q1 q2 q3 => ?_)
                rw [upd9]
                by_cases ej : j = i
                · rw [if_pos ej, if_pos (by omega), ej]
                · rw [if_neg ej, k6 j q1 q2 ej]
                  by_cases e2 : i < j
                  · rw [if_pos e2, if_pos (by omega)]
                  · rw [if_neg e2, if_neg (by omega)]
          refine s_iload_n 12 dX8_take_11 rfl rfl ?_
          refine s_aload_n 13 dX8_take_12 rfl rfl ?_
          refine s_getR 16 dX8_take_13 rfl fl_X8_15 (fun _ _ _ _ => rfl) (by assumption) sh_135 (Nat.le_of_ble_eq_true rfl) ?_
          refine s_getI 19 dX8_take_16 rfl fl_X8_22 (fun _ _ _ _ => rfl) (isP_sh (by assumption)) (isP_lt (by assumption)) (fun r_16 => ?_)
          rw [e7]
          refine s_icmp_ge 81 22 dX8_take_19 rfl rfl (by first | omega | exact bI_r _ | exact iI_r _) (by first | omega | exact bI_r _ | exact iI_r _) (fun h_19 => by exfalso; omega) (fun h_19 => ?_)
          refine s_iload_n 23 dX8_take_22 rfl rfl ?_
          refine s_istore_n (ls' := [_, _, _, _]) 24 dX8_take_23 rfl (Nat.le_of_ble_eq_true rfl) rfl rfl ?_
          refine loop3 (k + 1).toNat k I1 (by omega) h2 (Int.le_refl _) h4 rfl (fun j q1 q2 q3 => ?_)
          rw [if_neg (by omega)]
        · have ek : k = r 8 := by omega
          subst ek
          refine s_iload_n 12 dX8_take_11 rfl rfl ?_
          refine s_aload_n 13 dX8_take_12 rfl rfl ?_
          refine s_getR 16 dX8_take_13 rfl fl_X8_15 (fun _ _ _ _ => rfl) (by assumption) sh_135 (Nat.le_of_ble_eq_true rfl) ?_
          refine s_getI 19 dX8_take_16 rfl fl_X8_22 (fun _ _ _ _ => rfl) (isP_sh (by assumption)) (isP_lt (by assumption)) (fun r_16 => ?_)
          rw [e7]
          refine s_icmp_ge 81 22 dX8_take_19 rfl rfl (by first | omega | exact bI_r _ | exact iI_r _) (by first | omega | exact bI_r _ | exact iI_r _) (fun h_19 => ?_) (fun h_19 => by exfalso; omega)
          refine s_vret dX8_take_81 rfl rfl ?_
          refine h I1 (fun c hc => ?_) h7 (fun s s1 s2 => Or.inl ?_)
          · rw [h4 c (by simp at hc ⊢; exact hc.2), flI_n (by simp at hc; exact hc.1)]
          · rw [h4 136 (by decide)]; exact flI_e ⟨s1, s2⟩
    refine s_aload_n 6 dX8_take_5 rfl rfl ?_
    refine s_callU0 (M' := M_X3_forget) (as := []) 9 dX8_take_6 rfl cw_X8_19_7 rfl rfl sh_135 rfl (by decide) (Nat.le_of_ble_eq_true rfl) (Nat.le_of_ble_eq_true rfl) (Nat.le_of_ble_eq_true rfl) (Nat.le_of_ble_eq_true rfl) ⟨rfl, rfl, rfl⟩ ?_
    refine c_X3_forget7 hT ?_
    refine s_iconst 10 dX8_take_9 rfl ?_
    refine s_istore_n (ls' := [_, _, _, _]) 11 dX8_take_10 rfl (Nat.le_of_ble_eq_true rfl) rfl rfl ?_
    exact loop 9 0 _ _ (by omega) (by omega) (by omega) Eqo.rf (fun i q1 q2 => by omega)
  refine s_aload_n 1 dX8_take_0 rfl rfl ?_
  refine s_aload_n 2 dX8_take_1 rfl rfl ?_
  refine s_putR 5 dX8_take_2 rfl fl_X8_15 (fun _ => rfl) (fun _ => rfl) (fun _ _ _ _ => rfl) sh_135 (Nat.le_of_ble_eq_true rfl) ?_
  exact body _ rfl (Topo_8 hT) upsR
