/-! a NIGHT: what else it answers -/
set_option maxHeartbeats 4000000 in
theorem c_X4_allParts {E : ET} {I : MI} {L : ML} {R : MR} {Q : Option AV → MI → ML → MR → Prop} {N P : Nat} {r : F1} (hT : Topo R) (hN : isN N) (hP : isP P) (hNP : R N 1 = some P) (hR : PR I P r) (h : Q (some (vi (allF (r 4)))) I L R) : CT E M_X4_allParts 161 yX4_allParts [(vr (N))] I L R Q := by
  refine CT_of rfl rfl (fun h => by cases h) (Nat.le_of_ble_eq_true rfl) (fun X => ?_)
  show V X _ z0 0 [some (vr (N))] [] I L R _
  refine s_aload_n 1 dX4_allParts_0 rfl rfl ?_
  refine s_getR 4 dX4_allParts_1 rfl fl_X4_49 (fun _ _ _ _ => rfl) (by assumption) (isN_sh hN) (isN_lt hN) ?_
  refine s_callV0 (M' := M_X5_allParts) (as := []) 7 dX4_allParts_4 rfl cw_X4_140 rfl rfl (isP_sh (by assumption)) rfl (by decide) (isP_lt (by assumption)) (Nat.le_of_ble_eq_true rfl) (Nat.le_of_ble_eq_true rfl) (Nat.le_of_ble_eq_true rfl) ⟨rfl, rfl, rfl⟩ ?_
  refine c_X5_allParts hP hR ?_
  refine s_iret dX4_allParts_7 rfl rfl ?_
  exact h
set_option maxHeartbeats 4000000 in
theorem c_X4_partCount {E : ET} {I : MI} {L : ML} {R : MR} {Q : Option AV → MI → ML → MR → Prop} {N P : Nat} {r : F1} (hT : Topo R) (hN : isN N) (hP : isP P) (hNP : R N 1 = some P) (hR : PR I P r) (h : Q (some (vi (r 4))) I L R) : CT E M_X4_partCount 161 yX4_partCount [(vr (N))] I L R Q := by
  refine CT_of rfl rfl (fun h => by cases h) (Nat.le_of_ble_eq_true rfl) (fun X => ?_)
  show V X _ z0 0 [some (vr (N))] [] I L R _
  rw [← hR.1.2.2.2.1] at h
  refine s_aload_n 1 dX4_partCount_0 rfl rfl ?_
  refine s_getR 4 dX4_partCount_1 rfl fl_X4_49 (fun _ _ _ _ => rfl) (by assumption) (isN_sh hN) (isN_lt hN) ?_
  refine s_getI 7 dX4_partCount_4 rfl fl_X4_144 (fun _ _ _ _ => rfl) (isP_sh (by assumption)) (isP_lt (by assumption)) (fun r_4 => ?_)
  refine s_iret dX4_partCount_7 rfl rfl ?_
  exact h
set_option maxHeartbeats 4000000 in
theorem c_X4_playersTold {E : ET} {I : MI} {L : ML} {R : MR} {Q : Option AV → MI → ML → MR → Prop} {N P : Nat} {r : F1} (hT : Topo R) (hN : isN N) (hP : isP P) (hNP : R N 1 = some P) (hR : PR I P r) (h : Q (some (vi (r 3))) I L R) : CT E M_X4_playersTold 161 yX4_playersTold [(vr (N))] I L R Q := by
  refine CT_of rfl rfl (fun h => by cases h) (Nat.le_of_ble_eq_true rfl) (fun X => ?_)
  show V X _ z0 0 [some (vr (N))] [] I L R _
  rw [← hR.1.2.2.1] at h
  refine s_aload_n 1 dX4_playersTold_0 rfl rfl ?_
  refine s_getR 4 dX4_playersTold_1 rfl fl_X4_49 (fun _ _ _ _ => rfl) (by assumption) (isN_sh hN) (isN_lt hN) ?_
  refine s_getI 7 dX4_playersTold_4 rfl fl_X4_147 (fun _ _ _ _ => rfl) (isP_sh (by assumption)) (isP_lt (by assumption)) (fun r_4 => ?_)
  refine s_iret dX4_playersTold_7 rfl rfl ?_
  exact h
set_option maxHeartbeats 4000000 in
theorem c_X4_seconds {E : ET} {I : MI} {L : ML} {R : MR} {Q : Option AV → MI → ML → MR → Prop} {N P : Nat} {r sc : F1} {rd g cut s : Int} (hT : Topo R) (hN : isN N) (hP : isP P) (hNP : R N 1 = some P) (hr : WFr r) (hR : PR I P r) (hV : NtV I N r rd g sc cut) (hsc : Perm (r 5) sc) (hg : 0 ≤ g ∧ g ≤ 99) (h : Q (some (vi (secF (fun k => hasI s k) (bgF r g sc) (clF r g sc) (r 7).toNat))) I L R) : CT E M_X4_seconds 161 yX4_seconds [(vr (N)), (vi (s))] I L R Q := by
  refine CT_of rfl rfl (fun h => by cases h) (Nat.le_of_ble_eq_true rfl) (fun X => ?_)
  show V X _ z0 0 [some (vr (N)), some (vi (s)), none, none] [] I L R _
  have e0 := hr.1
  have e7 := hR.1.2.2.2.2.2.2.1
  have hbc := NtV.bc hr hsc hg
  have sb : ∀ n : Nat, (n : Int) ≤ r 7 → -4000 * (n : Int) ≤ secF (fun k => hasI s k) (bgF r g sc) (clF r g sc) n ∧ secF (fun k => hasI s k) (bgF r g sc) (clF r g sc) n ≤ 4000 * n := by
    intro n
    induction n with
    | zero => intro _; simp [secF]
    | succ n ih =>
      intro hn
      have h1 := ih (by omega)
      have h2 := hbc n (by omega) (by omega)
      unfold secF
      by_cases z : hasI s (n : Int)
      · rw [pick_t z]; omega
      · rw [pick_f z]; omega
  have loop : ∀ (f : Nat) (k : Int), r 7 - k < (f : Int) → 0 ≤ k → k ≤ r 7 → V X M_X4_seconds z0 4 [some (vr (N)), some (vi (s)), some (vi (secF (fun k => hasI s k) (bgF r g sc) (clF r g sc) k.toNat)), some (vi (k))] [] (I) L R (RT X M_X4_seconds Q) := by
    intro f
    induction f with
    | zero => intro k h1 h2 h3; omega
    | succ f ih =>
      intro k h1 h2 h3
      by_cases hk : k < r 7
      · have st := ih (k + 1) (by omega) (by omega) (by omega)
        rw [secF_s h2] at st
        have a1 := hV.2.1.2 k h2 hk
        have s1 := sb k.toNat (by omega)
        have b1 := hbc k h2 hk
        by_cases z : hasI s k
        · rw [pick_t z] at st
          refine s_iload_n 5 dX4_seconds_4 rfl rfl ?_
          refine s_aload_n 6 dX4_seconds_5 rfl rfl ?_
          refine s_getR 9 dX4_seconds_6 rfl fl_X4_49 (fun _ _ _ _ => rfl) (by assumption) (isN_sh hN) (isN_lt hN) ?_
          refine s_getI 12 dX4_seconds_9 rfl fl_X4_53 (fun _ _ _ _ => rfl) (isP_sh (by assumption)) (isP_lt (by assumption)) (fun r_9 => ?_)
          rw [e7]
          refine s_icmp_ge 46 15 dX4_seconds_12 rfl rfl (by first | omega | exact bI_r _ | exact iI_r _) (by first | omega | exact bI_r _ | exact iI_r _) (fun h_12 => by exfalso; omega) (fun h_12 => ?_)
          refine s_iload_n 16 dX4_seconds_15 rfl rfl ?_
          refine s_iload_n 17 dX4_seconds_16 rfl rfl ?_
          refine s_ishr 18 dX4_seconds_17 rfl ?_
          refine s_iconst 19 dX4_seconds_18 rfl ?_
          refine s_iand 20 dX4_seconds_19 rfl ?_
          refine s_iconst 21 dX4_seconds_20 rfl ?_
          refine s_icmp_ne 40 24 dX4_seconds_21 rfl rfl (by first | omega | exact iand_r _ _) (by first | omega | exact iand_r _ _) (fun h_21 => by exfalso; exact h_21 z) (fun h_21 => ?_)
          refine s_iload_n 25 dX4_seconds_24 rfl rfl ?_
          refine s_aload_n 26 dX4_seconds_25 rfl rfl ?_
          refine s_getR 29 dX4_seconds_26 rfl fl_X4_26 (fun _ _ _ _ => rfl) (T_X4_onEnds hT hN) (isN_sh hN) (isN_lt hN) ?_
          refine s_iload_n 30 dX4_seconds_29 rfl rfl ?_
          refine s_iald 31 dX4_seconds_30 rfl (shN_onEnds hN) (ltN_onEnds hN) (by omega) (by omega) (fun r_30 => ?_)
          rw [a1.2]
          refine s_aload_n 32 dX4_seconds_31 rfl rfl ?_
          refine s_getR 35 dX4_seconds_32 rfl fl_X4_23 (fun _ _ _ _ => rfl) (T_X4_onBegins hT hN) (isN_sh hN) (isN_lt hN) ?_
          refine s_iload_n 36 dX4_seconds_35 rfl rfl ?_
          refine s_iald 37 dX4_seconds_36 rfl (shN_onBegins hN) (ltN_onBegins hN) (by omega) (by omega) (fun r_36 => ?_)
          rw [a1.1]
          refine s_isub 38 dX4_seconds_37 rfl ?_
          refine s_iadd 39 dX4_seconds_38 rfl ?_
          refine s_istore_n (ls' := [_, _, _, _]) 40 dX4_seconds_39 rfl (Nat.le_of_ble_eq_true rfl) rfl rfl ?_
          refine s_iinc (ls' := [_, _, _, _]) 43 dX4_seconds_40 rfl rfl (Nat.le_of_ble_eq_true rfl) rfl rfl ?_
          refine s_goto 4 dX4_seconds_43 rfl ?_
          exact st
        · rw [pick_f z, Int.add_zero] at st
          refine s_iload_n 5 dX4_seconds_4 rfl rfl ?_
          refine s_aload_n 6 dX4_seconds_5 rfl rfl ?_
          refine s_getR 9 dX4_seconds_6 rfl fl_X4_49 (fun _ _ _ _ => rfl) (by assumption) (isN_sh hN) (isN_lt hN) ?_
          refine s_getI 12 dX4_seconds_9 rfl fl_X4_53 (fun _ _ _ _ => rfl) (isP_sh (by assumption)) (isP_lt (by assumption)) (fun r_9 => ?_)
          rw [e7]
          refine s_icmp_ge 46 15 dX4_seconds_12 rfl rfl (by first | omega | exact bI_r _ | exact iI_r _) (by first | omega | exact bI_r _ | exact iI_r _) (fun h_12 => by exfalso; omega) (fun h_12 => ?_)
          refine s_iload_n 16 dX4_seconds_15 rfl rfl ?_
          refine s_iload_n 17 dX4_seconds_16 rfl rfl ?_
          refine s_ishr 18 dX4_seconds_17 rfl ?_
          refine s_iconst 19 dX4_seconds_18 rfl ?_
          refine s_iand 20 dX4_seconds_19 rfl ?_
          refine s_iconst 21 dX4_seconds_20 rfl ?_
          refine s_icmp_ne 40 24 dX4_seconds_21 rfl rfl (by first | omega | exact iand_r _ _) (by first | omega | exact iand_r _ _) (fun h_21 => ?_) (fun h_21 => by exfalso; exact z h_21)
          refine s_iinc (ls' := [_, _, _, _]) 43 dX4_seconds_40 rfl rfl (Nat.le_of_ble_eq_true rfl) rfl rfl ?_
          refine s_goto 4 dX4_seconds_43 rfl ?_
          exact st
      · have ek : k = r 7 := by omega
        subst ek
        refine s_iload_n 5 dX4_seconds_4 rfl rfl ?_
        refine s_aload_n 6 dX4_seconds_5 rfl rfl ?_
        refine s_getR 9 dX4_seconds_6 rfl fl_X4_49 (fun _ _ _ _ => rfl) (by assumption) (isN_sh hN) (isN_lt hN) ?_
        refine s_getI 12 dX4_seconds_9 rfl fl_X4_53 (fun _ _ _ _ => rfl) (isP_sh (by assumption)) (isP_lt (by assumption)) (fun r_9 => ?_)
        rw [e7]
        refine s_icmp_ge 46 15 dX4_seconds_12 rfl rfl (by first | omega | exact bI_r _ | exact iI_r _) (by first | omega | exact bI_r _ | exact iI_r _) (fun h_12 => ?_) (fun h_12 => by exfalso; omega)
        refine s_iload_n 47 dX4_seconds_46 rfl rfl ?_
        refine s_iret dX4_seconds_47 rfl rfl ?_
        exact h
  refine s_iconst 1 dX4_seconds_0 rfl ?_
  refine s_istore_n (ls' := [_, _, _, _]) 2 dX4_seconds_1 rfl (Nat.le_of_ble_eq_true rfl) rfl rfl ?_
  refine s_iconst 3 dX4_seconds_2 rfl ?_
  refine s_istore_n (ls' := [_, _, _, _]) 4 dX4_seconds_3 rfl (Nat.le_of_ble_eq_true rfl) rfl rfl ?_
  exact loop 16 0 (by omega) (by omega) (by omega)
set_option maxHeartbeats 4000000 in
theorem c_X4_slackOf {E : ET} {I : MI} {L : ML} {R : MR} {Q : Option AV → MI → ML → MR → Prop} {N P : Nat} {r sc : F1} {g cut ons : Int} (hT : Topo R) (hN : isN N) (hP : isP P) (hNP : R N 1 = some P) (hr : WFr r) (hR : PR I P r) (hV : NtV I N r (-1) g sc cut) (hsc : Perm (r 5) sc) (hg : 0 ≤ g ∧ g ≤ 99) (hons : ∀ k, r 7 ≤ k → k < 32 → ¬ hasI ons k) (h : Q (some (vi (slF r (bgF r g sc) (clF r g sc) (Bod r (sqF r g sc) (fun k => hasI ons k)) (sqF r g sc) (r 7).toNat))) I L R) : CT E M_X4_slackOf 161 yX4_slackOf [(vr (N)), (vi (ons))] I L R Q := by
  refine CT_of rfl rfl (fun h => by cases h) (Nat.le_of_ble_eq_true rfl) (fun X => ?_)
  show V X _ z0 0 [some (vr (N)), some (vi (ons)), none, none, none, none, none, none, none] [] I L R _
  have e0 := hr.1
  have e7 := hR.1.2.2.2.2.2.2.1
  have hq := sq_P (g := g) (sc := sc) hr
  have hbc := NtV.bc hr hsc hg
  have main : ∀ B : Int, BodS r (sqF r g sc) (fun k => hasI ons k) B → V X M_X4_slackOf z0 5 [some (vr (N)), some (vi (ons)), none, none, none, none, none, none, none] [(vi (B))] (I) L R (RT X M_X4_slackOf Q) := by
    intro B hB
    have loop : ∀ (f : Nat) (i : Int) (w7 w8 : Option AV), r 7 - i < (f : Int) → 0 ≤ i → i ≤ r 7 → V X M_X4_slackOf z0 19 [some (vr (N)), some (vi (ons)), some (vi (B)), some (vi (laF (Bod r (sqF r g sc) (fun k => hasI ons k)) (sqF r g sc) i.toNat)), some (vi (bI (smF (Bod r (sqF r g sc) (fun k => hasI ons k)) (sqF r g sc) i.toNat))), some (vi (slF r (bgF r g sc) (clF r g sc) (Bod r (sqF r g sc) (fun k => hasI ons k)) (sqF r g sc) i.toNat)), some (vi (i)), w7, w8] [] (I) L R (RT X M_X4_slackOf Q) := by
      intro f
      induction f with
      | zero => intro i w7 w8 h1 h2 h3; omega
      | succ f ih =>
        intro i w7 w8 h1 h2 h3
        by_cases hi : i < r 7
        · have qi := hq.1 i h2 hi
          have eqi := hV.2.2.1 i h2 hi
          have lb := laF_b (B := Bod r (sqF r g sc) (fun k => hasI ons k)) (q := sqF r g sc) hq.1 i.toNat (by omega)
          have sb := slF_b (b := bgF r g sc) (c := clF r g sc) (B := Bod r (sqF r g sc) (fun k => hasI ons k)) (q := sqF r g sc) hr hq.1 hbc i.toNat (by omega)
          have st := fun w7 w8 => ih (i + 1) w7 w8 (by omega) (by omega) (by omega)
          rw [laF_s h2, bI_c (smF_s h2), slF_s h2] at st
          have hBk := hB.2 (sqF r g sc i) qi.1 (by omega)
          generalize hla : laF (Bod r (sqF r g sc) (fun k => hasI ons k)) (sqF r g sc) i.toNat = la at *
          generalize hsm : smF (Bod r (sqF r g sc) (fun k => hasI ons k)) (sqF r g sc) i.toNat = sm at *
          generalize hsl : slF r (bgF r g sc) (clF r g sc) (Bod r (sqF r g sc) (fun k => hasI ons k)) (sqF r g sc) i.toNat = sl at *
          by_cases z : Bod r (sqF r g sc) (fun k => hasI ons k) (sqF r g sc i)
          · rw [pick_t z] at st
            by_cases z2 : 0 ≤ la
            · have bl := hbc la z2 (by omega)
              have bq := hbc (sqF r g sc i) qi.1 qi.2
              have nb := neF_b (rd := -1) hr ⟨z2, by omega⟩ qi
              rw [pick_t ⟨z, z2⟩, bI_t (Or.inr ⟨z, z2⟩)] at st
              by_cases z3 : sm
              · rw [show bI sm = 1 from bI_t z3]
                have ev : pick (sm ∧ ¬ bgF r g sc (sqF r g sc i) - clF r g sc la - neF r (-1) la (sqF r g sc i) < sl) sl (bgF r g sc (sqF r g sc i) - clF r g sc la - neF r (-1) la (sqF r g sc i)) = if bgF r g sc (sqF r g sc i) - clF r g sc la - neF r (-1) la (sqF r g sc i) < sl then bgF r g sc (sqF r g sc i) - clF r g sc la - neF r (-1) la (sqF r g sc i) else sl := by
                  by_cases y : bgF r g sc (sqF r g sc i) - clF r g sc la - neF r (-1) la (sqF r g sc i) < sl
                  · rw [pick_f (fun w => w.2 y), if_pos y]
                  · rw [pick_t ⟨z3, y⟩, if_neg y]
                rw [ev] at st
                refine s_iload 21 dX4_slackOf_19 rfl rfl ?_
                refine s_aload_n 22 dX4_slackOf_21 rfl rfl ?_
                refine s_getR 25 dX4_slackOf_22 rfl fl_X4_49 (fun _ _ _ _ => rfl) (by assumption) (isN_sh hN) (isN_lt hN) ?_
                refine s_getI 28 dX4_slackOf_25 rfl fl_X4_53 (fun _ _ _ _ => rfl) (isP_sh (by assumption)) (isP_lt (by assumption)) (fun r_25 => ?_)
                rw [e7]
                refine s_icmp_ge 95 31 dX4_slackOf_28 rfl rfl (by first | omega | exact bI_r _ | exact iI_r _) (by first | omega | exact bI_r _ | exact iI_r _) (fun h_28 => by exfalso; omega) (fun h_28 => ?_)
                refine s_aload_n 32 dX4_slackOf_31 rfl rfl ?_
                refine s_getR 35 dX4_slackOf_32 rfl fl_X4_29 (fun _ _ _ _ => rfl) (T_X4_row hT hN) (isN_sh hN) (isN_lt hN) ?_
                refine s_iload 37 dX4_slackOf_35 rfl rfl ?_
                refine s_iald 38 dX4_slackOf_37 rfl (shN_row hN) (ltN_row hN) (by omega) (by omega) (fun r_37 => ?_)
                rw [eqi]
                refine s_istore (ls' := [_, _, _, _, _, _, _, _, _]) 40 dX4_slackOf_38 rfl (Nat.le_of_ble_eq_true rfl) rfl rfl ?_
                refine s_iload_n 41 dX4_slackOf_40 rfl rfl ?_
                refine s_iload 43 dX4_slackOf_41 rfl rfl ?_
                refine s_ishr 44 dX4_slackOf_43 rfl ?_
                refine s_iconst 45 dX4_slackOf_44 rfl ?_
                refine s_iand 46 dX4_slackOf_45 rfl ?_
                refine s_iconst 47 dX4_slackOf_46 rfl ?_
                refine s_icmp_ne 89 50 dX4_slackOf_47 rfl rfl (by first | omega | exact iand_r _ _) (by first | omega | exact iand_r _ _) (fun h_47 => by exfalso; exact h_47 (hBk.mpr z)) (fun h_47 => ?_)
                refine s_iload_n 51 dX4_slackOf_50 rfl rfl ?_
                refine s_iconst 52 dX4_slackOf_51 rfl ?_
                refine s_icmp_eq 86 55 dX4_slackOf_52 rfl rfl (by first | omega | exact bI_r _ | exact iI_r _) (by first | omega | exact bI_r _ | exact iI_r _) (fun h_52 => by exfalso; omega) (fun h_52 => ?_)
                refine s_aload_n 56 dX4_slackOf_55 rfl rfl ?_
                refine s_iload_n 57 dX4_slackOf_56 rfl rfl ?_
                refine s_iload 59 dX4_slackOf_57 rfl rfl ?_
                refine s_callV0 (M' := M_X4_spare) (as := [_, _]) 62 dX4_slackOf_59 rfl cw_X4_113 rfl rfl (isN_sh hN) rfl (by decide) (isN_lt hN) (Nat.le_of_ble_eq_true rfl) (Nat.le_of_ble_eq_true rfl) (Nat.le_of_ble_eq_true rfl) ⟨rfl, rfl, rfl⟩ ?_
                refine c_X4_spare hT hN hr hV ⟨z2, by omega⟩ qi ?_
                refine s_istore (ls' := [_, _, _, _, _, _, _, _, _]) 64 dX4_slackOf_62 rfl (Nat.le_of_ble_eq_true rfl) rfl rfl ?_
                refine s_iload 66 dX4_slackOf_64 rfl rfl ?_
                refine s_if_eq 79 69 dX4_slackOf_66 rfl rfl (by first | omega | exact bI_r _ | exact iI_r _) (fun h_66 => by exfalso; omega) (fun h_66 => ?_)
                refine s_iload 71 dX4_slackOf_69 rfl rfl ?_
                refine s_iload 73 dX4_slackOf_71 rfl rfl ?_
                refine s_mmin 76 dX4_slackOf_73 rfl w_m_X4_123 (by first | exact Nat.le_of_ble_eq_true rfl | (simp only [mrk]; omega)) (Nat.le_of_ble_eq_true rfl) (by first | omega | exact bI_r _ | exact iI_r _) (by first | omega | exact bI_r _ | exact iI_r _) ?_
                refine s_goto 81 dX4_slackOf_76 rfl ?_
                refine s_istore (ls' := [_, _, _, _, _, _, _, _, _]) 83 dX4_slackOf_81 rfl (Nat.le_of_ble_eq_true rfl) rfl rfl ?_
                refine s_iconst 84 dX4_slackOf_83 rfl ?_
                refine s_istore (ls' := [_, _, _, _, _, _, _, _, _]) 86 dX4_slackOf_84 rfl (Nat.le_of_ble_eq_true rfl) rfl rfl ?_
                refine s_iload 88 dX4_slackOf_86 rfl rfl ?_
                refine s_istore_n (ls' := [_, _, _, _, _, _, _, _, _]) 89 dX4_slackOf_88 rfl (Nat.le_of_ble_eq_true rfl) rfl rfl ?_
                refine s_iinc (ls' := [_, _, _, _, _, _, _, _, _]) 92 dX4_slackOf_89 rfl rfl (Nat.le_of_ble_eq_true rfl) rfl rfl ?_
                refine s_goto 19 dX4_slackOf_92 rfl ?_
                exact st _ _
              · rw [show bI sm = 0 from bI_f z3]
                rw [pick_f (fun w => z3 w.1)] at st
                refine s_iload 21 dX4_slackOf_19 rfl rfl ?_
                refine s_aload_n 22 dX4_slackOf_21 rfl rfl ?_
                refine s_getR 25 dX4_slackOf_22 rfl fl_X4_49 (fun _ _ _ _ => rfl) (by assumption) (isN_sh hN) (isN_lt hN) ?_
                refine s_getI 28 dX4_slackOf_25 rfl fl_X4_53 (fun _ _ _ _ => rfl) (isP_sh (by assumption)) (isP_lt (by assumption)) (fun r_25 => ?_)
                rw [e7]
                refine s_icmp_ge 95 31 dX4_slackOf_28 rfl rfl (by first | omega | exact bI_r _ | exact iI_r _) (by first | omega | exact bI_r _ | exact iI_r _) (fun h_28 => by exfalso; omega) (fun h_28 => ?_)
                refine s_aload_n 32 dX4_slackOf_31 rfl rfl ?_
                refine s_getR 35 dX4_slackOf_32 rfl fl_X4_29 (fun _ _ _ _ => rfl) (T_X4_row hT hN) (isN_sh hN) (isN_lt hN) ?_
                refine s_iload 37 dX4_slackOf_35 rfl rfl ?_
                refine s_iald 38 dX4_slackOf_37 rfl (shN_row hN) (ltN_row hN) (by omega) (by omega) (fun r_37 => ?_)
                rw [eqi]
                refine s_istore (ls' := [_, _, _, _, _, _, _, _, _]) 40 dX4_slackOf_38 rfl (Nat.le_of_ble_eq_true rfl) rfl rfl ?_
                refine s_iload_n 41 dX4_slackOf_40 rfl rfl ?_
                refine s_iload 43 dX4_slackOf_41 rfl rfl ?_
                refine s_ishr 44 dX4_slackOf_43 rfl ?_
                refine s_iconst 45 dX4_slackOf_44 rfl ?_
                refine s_iand 46 dX4_slackOf_45 rfl ?_
                refine s_iconst 47 dX4_slackOf_46 rfl ?_
                refine s_icmp_ne 89 50 dX4_slackOf_47 rfl rfl (by first | omega | exact iand_r _ _) (by first | omega | exact iand_r _ _) (fun h_47 => by exfalso; exact h_47 (hBk.mpr z)) (fun h_47 => ?_)
                refine s_iload_n 51 dX4_slackOf_50 rfl rfl ?_
                refine s_iconst 52 dX4_slackOf_51 rfl ?_
                refine s_icmp_eq 86 55 dX4_slackOf_52 rfl rfl (by first | omega | exact bI_r _ | exact iI_r _) (by first | omega | exact bI_r _ | exact iI_r _) (fun h_52 => by exfalso; omega) (fun h_52 => ?_)
                refine s_aload_n 56 dX4_slackOf_55 rfl rfl ?_
                refine s_iload_n 57 dX4_slackOf_56 rfl rfl ?_
                refine s_iload 59 dX4_slackOf_57 rfl rfl ?_
                refine s_callV0 (M' := M_X4_spare) (as := [_, _]) 62 dX4_slackOf_59 rfl cw_X4_113 rfl rfl (isN_sh hN) rfl (by decide) (isN_lt hN) (Nat.le_of_ble_eq_true rfl) (Nat.le_of_ble_eq_true rfl) (Nat.le_of_ble_eq_true rfl) ⟨rfl, rfl, rfl⟩ ?_
                refine c_X4_spare hT hN hr hV ⟨z2, by omega⟩ qi ?_
                refine s_istore (ls' := [_, _, _, _, _, _, _, _, _]) 64 dX4_slackOf_62 rfl (Nat.le_of_ble_eq_true rfl) rfl rfl ?_
                refine s_iload 66 dX4_slackOf_64 rfl rfl ?_
                refine s_if_eq 79 69 dX4_slackOf_66 rfl rfl (by first | omega | exact bI_r _ | exact iI_r _) (fun h_66 => ?_) (fun h_66 => by exfalso; omega)
                refine s_iload 81 dX4_slackOf_79 rfl rfl ?_
                refine s_istore (ls' := [_, _, _, _, _, _, _, _, _]) 83 dX4_slackOf_81 rfl (Nat.le_of_ble_eq_true rfl) rfl rfl ?_
                refine s_iconst 84 dX4_slackOf_83 rfl ?_
                refine s_istore (ls' := [_, _, _, _, _, _, _, _, _]) 86 dX4_slackOf_84 rfl (Nat.le_of_ble_eq_true rfl) rfl rfl ?_
                refine s_iload 88 dX4_slackOf_86 rfl rfl ?_
                refine s_istore_n (ls' := [_, _, _, _, _, _, _, _, _]) 89 dX4_slackOf_88 rfl (Nat.le_of_ble_eq_true rfl) rfl rfl ?_
                refine s_iinc (ls' := [_, _, _, _, _, _, _, _, _]) 92 dX4_slackOf_89 rfl rfl (Nat.le_of_ble_eq_true rfl) rfl rfl ?_
                refine s_goto 19 dX4_slackOf_92 rfl ?_
                exact st _ _
            · rw [pick_f (fun w => z2 w.2)] at st
              have em : (sm ∨ (Bod r (sqF r g sc) (fun k => hasI ons k) (sqF r g sc i) ∧ 0 ≤ la)) ↔ sm := ⟨fun w => w.elim id (fun y => absurd y.2 z2), Or.inl⟩
              rw [bI_c em] at st
              refine s_iload 21 dX4_slackOf_19 rfl rfl ?_
              refine s_aload_n 22 dX4_slackOf_21 rfl rfl ?_
              refine s_getR 25 dX4_slackOf_22 rfl fl_X4_49 (fun _ _ _ _ => rfl) (by assumption) (isN_sh hN) (isN_lt hN) ?_
              refine s_getI 28 dX4_slackOf_25 rfl fl_X4_53 (fun _ _ _ _ => rfl) (isP_sh (by assumption)) (isP_lt (by assumption)) (fun r_25 => ?_)
              rw [e7]
              refine s_icmp_ge 95 31 dX4_slackOf_28 rfl rfl (by first | omega | exact bI_r _ | exact iI_r _) (by first | omega | exact bI_r _ | exact iI_r _) (fun h_28 => by exfalso; omega) (fun h_28 => ?_)
              refine s_aload_n 32 dX4_slackOf_31 rfl rfl ?_
              refine s_getR 35 dX4_slackOf_32 rfl fl_X4_29 (fun _ _ _ _ => rfl) (T_X4_row hT hN) (isN_sh hN) (isN_lt hN) ?_
              refine s_iload 37 dX4_slackOf_35 rfl rfl ?_
              refine s_iald 38 dX4_slackOf_37 rfl (shN_row hN) (ltN_row hN) (by omega) (by omega) (fun r_37 => ?_)
              rw [eqi]
              refine s_istore (ls' := [_, _, _, _, _, _, _, _, _]) 40 dX4_slackOf_38 rfl (Nat.le_of_ble_eq_true rfl) rfl rfl ?_
              refine s_iload_n 41 dX4_slackOf_40 rfl rfl ?_
              refine s_iload 43 dX4_slackOf_41 rfl rfl ?_
              refine s_ishr 44 dX4_slackOf_43 rfl ?_
              refine s_iconst 45 dX4_slackOf_44 rfl ?_
              refine s_iand 46 dX4_slackOf_45 rfl ?_
              refine s_iconst 47 dX4_slackOf_46 rfl ?_
              refine s_icmp_ne 89 50 dX4_slackOf_47 rfl rfl (by first | omega | exact iand_r _ _) (by first | omega | exact iand_r _ _) (fun h_47 => by exfalso; exact h_47 (hBk.mpr z)) (fun h_47 => ?_)
              refine s_iload_n 51 dX4_slackOf_50 rfl rfl ?_
              refine s_iconst 52 dX4_slackOf_51 rfl ?_
              refine s_icmp_eq 86 55 dX4_slackOf_52 rfl rfl (by first | omega | exact bI_r _ | exact iI_r _) (by first | omega | exact bI_r _ | exact iI_r _) (fun h_52 => ?_) (fun h_52 => by exfalso; omega)
              refine s_iload 88 dX4_slackOf_86 rfl rfl ?_
              refine s_istore_n (ls' := [_, _, _, _, _, _, _, _, _]) 89 dX4_slackOf_88 rfl (Nat.le_of_ble_eq_true rfl) rfl rfl ?_
              refine s_iinc (ls' := [_, _, _, _, _, _, _, _, _]) 92 dX4_slackOf_89 rfl rfl (Nat.le_of_ble_eq_true rfl) rfl rfl ?_
              refine s_goto 19 dX4_slackOf_92 rfl ?_
              exact st _ _
          · rw [pick_f z, pick_f (fun w => z w.1)] at st
            have em : (sm ∨ (Bod r (sqF r g sc) (fun k => hasI ons k) (sqF r g sc i) ∧ 0 ≤ la)) ↔ sm := ⟨fun w => w.elim id (fun y => absurd y.1 z), Or.inl⟩
            rw [bI_c em] at st
            refine s_iload 21 dX4_slackOf_19 rfl rfl ?_
            refine s_aload_n 22 dX4_slackOf_21 rfl rfl ?_
            refine s_getR 25 dX4_slackOf_22 rfl fl_X4_49 (fun _ _ _ _ => rfl) (by assumption) (isN_sh hN) (isN_lt hN) ?_
            refine s_getI 28 dX4_slackOf_25 rfl fl_X4_53 (fun _ _ _ _ => rfl) (isP_sh (by assumption)) (isP_lt (by assumption)) (fun r_25 => ?_)
            rw [e7]
            refine s_icmp_ge 95 31 dX4_slackOf_28 rfl rfl (by first | omega | exact bI_r _ | exact iI_r _) (by first | omega | exact bI_r _ | exact iI_r _) (fun h_28 => by exfalso; omega) (fun h_28 => ?_)
            refine s_aload_n 32 dX4_slackOf_31 rfl rfl ?_
            refine s_getR 35 dX4_slackOf_32 rfl fl_X4_29 (fun _ _ _ _ => rfl) (T_X4_row hT hN) (isN_sh hN) (isN_lt hN) ?_
            refine s_iload 37 dX4_slackOf_35 rfl rfl ?_
            refine s_iald 38 dX4_slackOf_37 rfl (shN_row hN) (ltN_row hN) (by omega) (by omega) (fun r_37 => ?_)
            rw [eqi]
            refine s_istore (ls' := [_, _, _, _, _, _, _, _, _]) 40 dX4_slackOf_38 rfl (Nat.le_of_ble_eq_true rfl) rfl rfl ?_
            refine s_iload_n 41 dX4_slackOf_40 rfl rfl ?_
            refine s_iload 43 dX4_slackOf_41 rfl rfl ?_
            refine s_ishr 44 dX4_slackOf_43 rfl ?_
            refine s_iconst 45 dX4_slackOf_44 rfl ?_
            refine s_iand 46 dX4_slackOf_45 rfl ?_
            refine s_iconst 47 dX4_slackOf_46 rfl ?_
            refine s_icmp_ne 89 50 dX4_slackOf_47 rfl rfl (by first | omega | exact iand_r _ _) (by first | omega | exact iand_r _ _) (fun h_47 => ?_) (fun h_47 => by exfalso; exact z (hBk.mp h_47))
            refine s_iinc (ls' := [_, _, _, _, _, _, _, _, _]) 92 dX4_slackOf_89 rfl rfl (Nat.le_of_ble_eq_true rfl) rfl rfl ?_
            refine s_goto 19 dX4_slackOf_92 rfl ?_
            exact st _ _
        · have ei : i = r 7 := by omega
          subst ei
          refine s_iload 21 dX4_slackOf_19 rfl rfl ?_
          refine s_aload_n 22 dX4_slackOf_21 rfl rfl ?_
          refine s_getR 25 dX4_slackOf_22 rfl fl_X4_49 (fun _ _ _ _ => rfl) (by assumption) (isN_sh hN) (isN_lt hN) ?_
          refine s_getI 28 dX4_slackOf_25 rfl fl_X4_53 (fun _ _ _ _ => rfl) (isP_sh (by assumption)) (isP_lt (by assumption)) (fun r_25 => ?_)
          rw [e7]
          refine s_icmp_ge 95 31 dX4_slackOf_28 rfl rfl (by first | omega | exact bI_r _ | exact iI_r _) (by first | omega | exact bI_r _ | exact iI_r _) (fun h_28 => ?_) (fun h_28 => by exfalso; omega)
          refine s_iload 97 dX4_slackOf_95 rfl rfl ?_
          refine s_iret dX4_slackOf_97 rfl rfl ?_
          exact h
    have l0 := fun w7 w8 => loop 16 0 w7 w8 (by omega) (by omega) (by omega)
    rw [show laF (Bod r (sqF r g sc) (fun k => hasI ons k)) (sqF r g sc) (0 : Int).toNat = -1 from rfl, bI_f (show ¬ smF (Bod r (sqF r g sc) (fun k => hasI ons k)) (sqF r g sc) (0 : Int).toNat from fun z => z), show slF r (bgF r g sc) (clF r g sc) (Bod r (sqF r g sc) (fun k => hasI ons k)) (sqF r g sc) (0 : Int).toNat = 999 from rfl] at l0
    refine s_istore_n (ls' := [_, _, _, _, _, _, _, _, _]) 6 dX4_slackOf_5 rfl (Nat.le_of_ble_eq_true rfl) rfl rfl ?_
    refine s_iconst 7 dX4_slackOf_6 rfl ?_
    refine s_istore_n (ls' := [_, _, _, _, _, _, _, _, _]) 8 dX4_slackOf_7 rfl (Nat.le_of_ble_eq_true rfl) rfl rfl ?_
    refine s_iconst 9 dX4_slackOf_8 rfl ?_
    refine s_istore (ls' := [_, _, _, _, _, _, _, _, _]) 11 dX4_slackOf_9 rfl (Nat.le_of_ble_eq_true rfl) rfl rfl ?_
    refine s_sipush 14 dX4_slackOf_11 rfl (by decide) ?_
    refine s_istore (ls' := [_, _, _, _, _, _, _, _, _]) 16 dX4_slackOf_14 rfl (Nat.le_of_ble_eq_true rfl) rfl rfl ?_
    refine s_iconst 17 dX4_slackOf_16 rfl ?_
    refine s_istore (ls' := [_, _, _, _, _, _, _, _, _]) 19 dX4_slackOf_17 rfl (Nat.le_of_ble_eq_true rfl) rfl rfl ?_
    exact l0 _ _
  refine s_aload_n 1 dX4_slackOf_0 rfl rfl ?_
  refine s_iload_n 2 dX4_slackOf_1 rfl rfl ?_
  refine s_callV0 (M' := M_X4_bodilyOf) (as := [_]) 5 dX4_slackOf_2 rfl cw_X4_109 rfl rfl (isN_sh hN) rfl (by decide) (isN_lt hN) (Nat.le_of_ble_eq_true rfl) (Nat.le_of_ble_eq_true rfl) (Nat.le_of_ble_eq_true rfl) ⟨rfl, rfl, rfl⟩ ?_
  refine c_X4_bodilyOf hT hN hP hNP hr hR hV.2.2.1 hq hons (fun B hB => ?_)
  exact main B hB
set_option maxHeartbeats 4000000 in
theorem c_X4_changeOf {E : ET} {I : MI} {L : ML} {R : MR} {Q : Option AV → MI → ML → MR → Prop} {N P : Nat} {r : F1} {k l w : Int} (hT : Topo R) (hN : isN N) (hP : isP P) (hNP : R N 1 = some P) (hr : WFr r) (hh : wHr r) (hR : PR I P r) (hk : 0 ≤ k ∧ k < r 7) (hl : 0 ≤ l ∧ l < r 7) (hw : 1 ≤ w ∧ w ≤ 3) (h : Q (some (vi (tmS r w k l))) I L R) : CT E M_X4_changeOf 161 yX4_changeOf [(vr (N)), (vi (k)), (vi (l)), (vi (w))] I L R Q := by
  refine CT_of rfl rfl (fun h => by cases h) (Nat.le_of_ble_eq_true rfl) (fun X => ?_)
  show V X _ z0 0 [some (vr (N)), some (vi (k)), some (vi (l)), some (vi (w)), none, none] [] I L R _
  have e0 := hr.1
  have rk := hR.2.2.2.1 k hk.1 hk.2
  have rl := hR.2.2.2.1 l hl.1 hl.2
  unfold rowO at rk rl
  have wk := hr.2.2.2.1 k hk.1 hk.2
  have wl := hr.2.2.2.1 l hl.1 hl.2
  unfold tmS at h
  refine s_iload_n 1 dX4_changeOf_0 rfl rfl ?_
  refine s_iconst 2 dX4_changeOf_1 rfl ?_
  refine s_icmp_ne 23 5 dX4_changeOf_2 rfl rfl (by first | omega | exact bI_r _ | exact iI_r _) (by first | omega | exact bI_r _ | exact iI_r _) (fun h_2 => ?_) (fun h_2 => ?_)
  · skip
    refine s_aload_n 24 dX4_changeOf_23 rfl rfl ?_
    refine s_getR 27 dX4_changeOf_24 rfl fl_X4_49 (fun _ _ _ _ => rfl) (by assumption) (isN_sh hN) (isN_lt hN) ?_
    refine s_getR 30 dX4_changeOf_27 rfl fl_X4_84 (fun _ _ _ _ => rfl) (T_X5_ons hT (by assumption)) (isP_sh (by assumption)) (isP_lt (by assumption)) ?_
    refine s_iload_n 31 dX4_changeOf_30 rfl rfl ?_
    refine s_aald 32 dX4_changeOf_31 rfl (shP_ons (by assumption)) (ltP_ons (by assumption)) (by omega) (by decide) (T_X5_ons_row hT (by assumption) (by omega)) ?_
    refine s_iconst 33 dX4_changeOf_32 rfl ?_
    refine s_iald 34 dX4_changeOf_33 rfl (shP_ons_row (by assumption) (by omega)) (ltP_ons_row (by assumption) (by omega)) (by omega) (by omega) (fun r_33 => ?_)
    rw [rk.1]
    refine s_istore (ls' := [_, _, _, _, _, _]) 36 dX4_changeOf_34 rfl (Nat.le_of_ble_eq_true rfl) rfl rfl ?_
    refine s_aload_n 37 dX4_changeOf_36 rfl rfl ?_
    refine s_getR 40 dX4_changeOf_37 rfl fl_X4_49 (fun _ _ _ _ => rfl) (by assumption) (isN_sh hN) (isN_lt hN) ?_
    refine s_getR 43 dX4_changeOf_40 rfl fl_X4_84 (fun _ _ _ _ => rfl) (T_X5_ons hT (by assumption)) (isP_sh (by assumption)) (isP_lt (by assumption)) ?_
    refine s_iload_n 44 dX4_changeOf_43 rfl rfl ?_
    refine s_aald 45 dX4_changeOf_44 rfl (shP_ons (by assumption)) (ltP_ons (by assumption)) (by omega) (by decide) (T_X5_ons_row hT (by assumption) (by omega)) ?_
    refine s_iconst 46 dX4_changeOf_45 rfl ?_
    refine s_iald 47 dX4_changeOf_46 rfl (shP_ons_row (by assumption) (by omega)) (ltP_ons_row (by assumption) (by omega)) (by omega) (by omega) (fun r_46 => ?_)
    rw [rl.1]
    refine s_istore (ls' := [_, _, _, _, _, _]) 49 dX4_changeOf_47 rfl (Nat.le_of_ble_eq_true rfl) rfl rfl ?_
    refine s_iload_n 50 dX4_changeOf_49 rfl rfl ?_
    refine s_iconst 51 dX4_changeOf_50 rfl ?_
    refine s_icmp_ne 67 54 dX4_changeOf_51 rfl rfl (by first | omega | exact bI_r _ | exact iI_r _) (by first | omega | exact bI_r _ | exact iI_r _) (fun h_51 => ?_) (fun h_51 => ?_)
    · skip
      refine s_aload_n 68 dX4_changeOf_67 rfl rfl ?_
      refine s_getR 71 dX4_changeOf_68 rfl fl_X4_49 (fun _ _ _ _ => rfl) (by assumption) (isN_sh hN) (isN_lt hN) ?_
      refine s_iload 73 dX4_changeOf_71 rfl rfl ?_
      refine s_iload 75 dX4_changeOf_73 rfl rfl ?_
      refine s_iconst 76 dX4_changeOf_75 rfl ?_
      refine s_callV0 (M' := M_X5_changeTime) (as := [_, _, _]) 79 dX4_changeOf_76 rfl cw_X4_134 rfl rfl (isP_sh (by assumption)) rfl (by decide) (isP_lt (by assumption)) (Nat.le_of_ble_eq_true rfl) (Nat.le_of_ble_eq_true rfl) (Nat.le_of_ble_eq_true rfl) ⟨rfl, rfl, rfl⟩ ?_
      refine c_X5_changeTime hT hP hr hh hR ⟨by omega, by omega⟩ ⟨by omega, by omega⟩ (by decide) ?_
      refine s_iret dX4_changeOf_79 rfl rfl ?_
      rw [if_neg h_2, if_neg h_51] at h; exact h
    refine s_iload 56 dX4_changeOf_54 rfl rfl ?_
    refine s_iload 58 dX4_changeOf_56 rfl rfl ?_
    refine s_icmp_eq 65 61 dX4_changeOf_58 rfl rfl (by first | omega | exact bI_r _ | exact iI_r _) (by first | omega | exact bI_r _ | exact iI_r _) (fun h_58 => ?_) (fun h_58 => ?_)
    · skip
      refine s_iconst 66 dX4_changeOf_65 rfl ?_
      refine s_iret dX4_changeOf_66 rfl rfl ?_
      rw [if_neg h_2, if_pos h_51] at h; first | (rw [if_pos h_58] at h; exact h) | (rw [if_neg h_58] at h; exact h)
    refine s_iconst 62 dX4_changeOf_61 rfl ?_
    refine s_goto 66 dX4_changeOf_62 rfl ?_
    refine s_iret dX4_changeOf_66 rfl rfl ?_
    rw [if_neg h_2, if_pos h_51] at h; first | (rw [if_pos h_58] at h; exact h) | (rw [if_neg h_58] at h; exact h)
  refine s_aload_n 6 dX4_changeOf_5 rfl rfl ?_
  refine s_getR 9 dX4_changeOf_6 rfl fl_X4_49 (fun _ _ _ _ => rfl) (by assumption) (isN_sh hN) (isN_lt hN) ?_
  refine s_iload_n 10 dX4_changeOf_9 rfl rfl ?_
  refine s_iload_n 11 dX4_changeOf_10 rfl rfl ?_
  refine s_callV0 (M' := M_X5_doesWalk) (as := [_, _]) 14 dX4_changeOf_11 rfl cw_X4_131 rfl rfl (isP_sh (by assumption)) rfl (by decide) (isP_lt (by assumption)) (Nat.le_of_ble_eq_true rfl) (Nat.le_of_ble_eq_true rfl) (Nat.le_of_ble_eq_true rfl) ⟨rfl, rfl, rfl⟩ ?_
  refine c_X5_doesWalk hT hP hr hR hk hl ?_
  refine s_ifb_eq 21 17 dX4_changeOf_14 rfl rfl (fun h_14 => ?_) (fun h_14 => ?_)
  · skip
    refine s_iconst 22 dX4_changeOf_21 rfl ?_
    refine s_iret dX4_changeOf_22 rfl rfl ?_
    rw [if_pos h_2] at h; first | (rw [if_neg h_14] at h; exact h) | (rw [if_pos (nn_n h_14)] at h; exact h)
  refine s_iconst 18 dX4_changeOf_17 rfl ?_
  refine s_goto 22 dX4_changeOf_18 rfl ?_
  refine s_iret dX4_changeOf_22 rfl rfl ?_
  rw [if_pos h_2] at h; first | (rw [if_neg h_14] at h; exact h) | (rw [if_pos (nn_n h_14)] at h; exact h)
theorem tmS_b {r : F1} {w k l : Int} (hr : WFr r) (hk : 0 ≤ k ∧ k < r 7) (hl : 0 ≤ l ∧ l < r 7) : 0 ≤ tmS r w k l ∧ tmS r w k l ≤ 300 := by
  have e0 := hr.1
  have wk := hr.2.2.2.1 k hk.1 hk.2
  have wl := hr.2.2.2.1 l hl.1 hl.2
  have := chF_b (rd := -1) (p := r (54 + 7 * k + 0)) (q := r (54 + 7 * l + 0)) hr ⟨by omega, by omega⟩ ⟨by omega, by omega⟩
  unfold tmS
  split
  · split <;> omega
  · split
    · split <;> omega
    · exact this
theorem chS_b {r : F1} {w : Int} {B : Int → Prop} {q : F1} (hr : WFr r) (hq : ∀ i, 0 ≤ i → i < r 7 → 0 ≤ q i ∧ q i < r 7) : ∀ i : Nat, (i : Int) ≤ r 7 → 0 ≤ chS r w B q i ∧ chS r w B q i ≤ 300 * i
  | 0, _ => by simp [chS]
  | i + 1, h => by
    have ih := chS_b (w := w) (B := B) (q := q) hr hq i (by omega)
    have qi := hq i (by omega) (by omega)
    have lb := laF_b (B := B) hq i (by omega)
    unfold chS
    by_cases z : B (q i) ∧ 0 ≤ laF B q i
    · rw [pick_t z]
      have := tmS_b (w := w) hr ⟨z.2, lb.2 z.2⟩ qi
      omega
    · rw [pick_f z]; omega
set_option maxHeartbeats 4000000 in
theorem c_X4_changesOf {E : ET} {I : MI} {L : ML} {R : MR} {Q : Option AV → MI → ML → MR → Prop} {N P : Nat} {r sc : F1} {rd g cut ons w : Int} (hT : Topo R) (hN : isN N) (hP : isP P) (hNP : R N 1 = some P) (hr : WFr r) (hh : wHr r) (hR : PR I P r) (hV : NtV I N r rd g sc cut) (hons : ∀ k, r 7 ≤ k → k < 32 → ¬ hasI ons k) (hw : 1 ≤ w ∧ w ≤ 3) (h : Q (some (vi (chS r w (Bod r (sqF r g sc) (fun k => hasI ons k)) (sqF r g sc) (r 7).toNat))) I L R) : CT E M_X4_changesOf 161 yX4_changesOf [(vr (N)), (vi (ons)), (vi (w))] I L R Q := by
  refine CT_of rfl rfl (fun h => by cases h) (Nat.le_of_ble_eq_true rfl) (fun X => ?_)
  show V X _ z0 0 [some (vr (N)), some (vi (ons)), some (vi (w)), none, none, none, none, none] [] I L R _
  have e0 := hr.1
  have e7 := hR.1.2.2.2.2.2.2.1
  have hq := sq_P (g := g) (sc := sc) hr
  have main : ∀ B : Int, BodS r (sqF r g sc) (fun k => hasI ons k) B → V X M_X4_changesOf z0 5 [some (vr (N)), some (vi (ons)), some (vi (w)), none, none, none, none, none] [(vi (B))] (I) L R (RT X M_X4_changesOf Q) := by
    intro B hB
    have loop : ∀ (f : Nat) (i : Int) (w7 : Option AV), r 7 - i < (f : Int) → 0 ≤ i → i ≤ r 7 → V X M_X4_changesOf z0 15 [some (vr (N)), some (vi (ons)), some (vi (w)), some (vi (B)), some (vi (laF (Bod r (sqF r g sc) (fun k => hasI ons k)) (sqF r g sc) i.toNat)), some (vi (chS r w (Bod r (sqF r g sc) (fun k => hasI ons k)) (sqF r g sc) i.toNat)), some (vi (i)), w7] [] (I) L R (RT X M_X4_changesOf Q) := by
      intro f
      induction f with
      | zero => intro i w7 h1 h2 h3; omega
      | succ f ih =>
        intro i w7 h1 h2 h3
        by_cases hi : i < r 7
        · have qi := hq.1 i h2 hi
          have eqi := hV.2.2.1 i h2 hi
          have lb := laF_b (B := Bod r (sqF r g sc) (fun k => hasI ons k)) (q := sqF r g sc) hq.1 i.toNat (by omega)
          have sb := chS_b (w := w) (B := Bod r (sqF r g sc) (fun k => hasI ons k)) (q := sqF r g sc) hr hq.1 i.toNat (by omega)
          have st := fun w7 => ih (i + 1) w7 (by omega) (by omega) (by omega)
          rw [laF_s h2, chS_s h2] at st
          have hBk := hB.2 (sqF r g sc i) qi.1 (by omega)
          generalize hla : laF (Bod r (sqF r g sc) (fun k => hasI ons k)) (sqF r g sc) i.toNat = la at *
          generalize hsl : chS r w (Bod r (sqF r g sc) (fun k => hasI ons k)) (sqF r g sc) i.toNat = sl at *
          by_cases z : Bod r (sqF r g sc) (fun k => hasI ons k) (sqF r g sc i)
          · rw [pick_t z] at st
            by_cases z2 : 0 ≤ la
            · have tb := tmS_b (w := w) hr ⟨z2, lb.2 z2⟩ qi
              rw [pick_t ⟨z, z2⟩] at st
              refine s_iload 17 dX4_changesOf_15 rfl rfl ?_
              refine s_aload_n 18 dX4_changesOf_17 rfl rfl ?_
              refine s_getR 21 dX4_changesOf_18 rfl fl_X4_49 (fun _ _ _ _ => rfl) (by assumption) (isN_sh hN) (isN_lt hN) ?_
              refine s_getI 24 dX4_changesOf_21 rfl fl_X4_53 (fun _ _ _ _ => rfl) (isP_sh (by assumption)) (isP_lt (by assumption)) (fun r_21 => ?_)
              rw [e7]
              refine s_icmp_ge 76 27 dX4_changesOf_24 rfl rfl (by first | omega | exact bI_r _ | exact iI_r _) (by first | omega | exact bI_r _ | exact iI_r _) (fun h_24 => by exfalso; omega) (fun h_24 => ?_)
              refine s_aload_n 28 dX4_changesOf_27 rfl rfl ?_
              refine s_getR 31 dX4_changesOf_28 rfl fl_X4_29 (fun _ _ _ _ => rfl) (T_X4_row hT hN) (isN_sh hN) (isN_lt hN) ?_
              refine s_iload 33 dX4_changesOf_31 rfl rfl ?_
              refine s_iald 34 dX4_changesOf_33 rfl (shN_row hN) (ltN_row hN) (by omega) (by omega) (fun r_33 => ?_)
              rw [eqi]
              refine s_istore (ls' := [_, _, _, _, _, _, _, _]) 36 dX4_changesOf_34 rfl (Nat.le_of_ble_eq_true rfl) rfl rfl ?_
              refine s_iload_n 37 dX4_changesOf_36 rfl rfl ?_
              refine s_iload 39 dX4_changesOf_37 rfl rfl ?_
              refine s_ishr 40 dX4_changesOf_39 rfl ?_
              refine s_iconst 41 dX4_changesOf_40 rfl ?_
              refine s_iand 42 dX4_changesOf_41 rfl ?_
              refine s_iconst 43 dX4_changesOf_42 rfl ?_
              refine s_icmp_ne 70 46 dX4_changesOf_43 rfl rfl (by first | omega | exact iand_r _ _) (by first | omega | exact iand_r _ _) (fun h_43 => by exfalso; exact h_43 (hBk.mpr z)) (fun h_43 => ?_)
              refine s_iload 48 dX4_changesOf_46 rfl rfl ?_
              refine s_iconst 49 dX4_changesOf_48 rfl ?_
              refine s_icmp_eq 66 52 dX4_changesOf_49 rfl rfl (by first | omega | exact bI_r _ | exact iI_r _) (by first | omega | exact bI_r _ | exact iI_r _) (fun h_49 => by exfalso; omega) (fun h_49 => ?_)
              refine s_iload 54 dX4_changesOf_52 rfl rfl ?_
              refine s_aload_n 55 dX4_changesOf_54 rfl rfl ?_
              refine s_iload 57 dX4_changesOf_55 rfl rfl ?_
              refine s_iload 59 dX4_changesOf_57 rfl rfl ?_
              refine s_iload_n 60 dX4_changesOf_59 rfl rfl ?_
              refine s_callV0 (M' := M_X4_changeOf) (as := [_, _, _]) 63 dX4_changesOf_60 rfl cw_X4_128 rfl rfl (isN_sh hN) rfl (by decide) (isN_lt hN) (Nat.le_of_ble_eq_true rfl) (Nat.le_of_ble_eq_true rfl) (Nat.le_of_ble_eq_true rfl) ⟨rfl, rfl, rfl⟩ ?_
              refine c_X4_changeOf hT hN hP hNP hr hh hR ⟨z2, by omega⟩ qi hw ?_
              refine s_iadd 64 dX4_changesOf_63 rfl ?_
              refine s_istore (ls' := [_, _, _, _, _, _, _, _]) 66 dX4_changesOf_64 rfl (Nat.le_of_ble_eq_true rfl) rfl rfl ?_
              refine s_iload 68 dX4_changesOf_66 rfl rfl ?_
              refine s_istore (ls' := [_, _, _, _, _, _, _, _]) 70 dX4_changesOf_68 rfl (Nat.le_of_ble_eq_true rfl) rfl rfl ?_
              refine s_iinc (ls' := [_, _, _, _, _, _, _, _]) 73 dX4_changesOf_70 rfl rfl (Nat.le_of_ble_eq_true rfl) rfl rfl ?_
              refine s_goto 15 dX4_changesOf_73 rfl ?_
              exact st _
            · rw [pick_f (fun w => z2 w.2), Int.add_zero] at st
              refine s_iload 17 dX4_changesOf_15 rfl rfl ?_
              refine s_aload_n 18 dX4_changesOf_17 rfl rfl ?_
              refine s_getR 21 dX4_changesOf_18 rfl fl_X4_49 (fun _ _ _ _ => rfl) (by assumption) (isN_sh hN) (isN_lt hN) ?_
              refine s_getI 24 dX4_changesOf_21 rfl fl_X4_53 (fun _ _ _ _ => rfl) (isP_sh (by assumption)) (isP_lt (by assumption)) (fun r_21 => ?_)
              rw [e7]
              refine s_icmp_ge 76 27 dX4_changesOf_24 rfl rfl (by first | omega | exact bI_r _ | exact iI_r _) (by first | omega | exact bI_r _ | exact iI_r _) (fun h_24 => by exfalso; omega) (fun h_24 => ?_)
              refine s_aload_n 28 dX4_changesOf_27 rfl rfl ?_
              refine s_getR 31 dX4_changesOf_28 rfl fl_X4_29 (fun _ _ _ _ => rfl) (T_X4_row hT hN) (isN_sh hN) (isN_lt hN) ?_
              refine s_iload 33 dX4_changesOf_31 rfl rfl ?_
              refine s_iald 34 dX4_changesOf_33 rfl (shN_row hN) (ltN_row hN) (by omega) (by omega) (fun r_33 => ?_)
              rw [eqi]
              refine s_istore (ls' := [_, _, _, _, _, _, _, _]) 36 dX4_changesOf_34 rfl (Nat.le_of_ble_eq_true rfl) rfl rfl ?_
              refine s_iload_n 37 dX4_changesOf_36 rfl rfl ?_
              refine s_iload 39 dX4_changesOf_37 rfl rfl ?_
              refine s_ishr 40 dX4_changesOf_39 rfl ?_
              refine s_iconst 41 dX4_changesOf_40 rfl ?_
              refine s_iand 42 dX4_changesOf_41 rfl ?_
              refine s_iconst 43 dX4_changesOf_42 rfl ?_
              refine s_icmp_ne 70 46 dX4_changesOf_43 rfl rfl (by first | omega | exact iand_r _ _) (by first | omega | exact iand_r _ _) (fun h_43 => by exfalso; exact h_43 (hBk.mpr z)) (fun h_43 => ?_)
              refine s_iload 48 dX4_changesOf_46 rfl rfl ?_
              refine s_iconst 49 dX4_changesOf_48 rfl ?_
              refine s_icmp_eq 66 52 dX4_changesOf_49 rfl rfl (by first | omega | exact bI_r _ | exact iI_r _) (by first | omega | exact bI_r _ | exact iI_r _) (fun h_49 => ?_) (fun h_49 => by exfalso; omega)
              refine s_iload 68 dX4_changesOf_66 rfl rfl ?_
              refine s_istore (ls' := [_, _, _, _, _, _, _, _]) 70 dX4_changesOf_68 rfl (Nat.le_of_ble_eq_true rfl) rfl rfl ?_
              refine s_iinc (ls' := [_, _, _, _, _, _, _, _]) 73 dX4_changesOf_70 rfl rfl (Nat.le_of_ble_eq_true rfl) rfl rfl ?_
              refine s_goto 15 dX4_changesOf_73 rfl ?_
              exact st _
          · rw [pick_f z, pick_f (fun w => z w.1), Int.add_zero] at st
            refine s_iload 17 dX4_changesOf_15 rfl rfl ?_
            refine s_aload_n 18 dX4_changesOf_17 rfl rfl ?_
            refine s_getR 21 dX4_changesOf_18 rfl fl_X4_49 (fun _ _ _ _ => rfl) (by assumption) (isN_sh hN) (isN_lt hN) ?_
            refine s_getI 24 dX4_changesOf_21 rfl fl_X4_53 (fun _ _ _ _ => rfl) (isP_sh (by assumption)) (isP_lt (by assumption)) (fun r_21 => ?_)
            rw [e7]
            refine s_icmp_ge 76 27 dX4_changesOf_24 rfl rfl (by first | omega | exact bI_r _ | exact iI_r _) (by first | omega | exact bI_r _ | exact iI_r _) (fun h_24 => by exfalso; omega) (fun h_24 => ?_)
            refine s_aload_n 28 dX4_changesOf_27 rfl rfl ?_
            refine s_getR 31 dX4_changesOf_28 rfl fl_X4_29 (fun _ _ _ _ => rfl) (T_X4_row hT hN) (isN_sh hN) (isN_lt hN) ?_
            refine s_iload 33 dX4_changesOf_31 rfl rfl ?_
            refine s_iald 34 dX4_changesOf_33 rfl (shN_row hN) (ltN_row hN) (by omega) (by omega) (fun r_33 => ?_)
            rw [eqi]
            refine s_istore (ls' := [_, _, _, _, _, _, _, _]) 36 dX4_changesOf_34 rfl (Nat.le_of_ble_eq_true rfl) rfl rfl ?_
            refine s_iload_n 37 dX4_changesOf_36 rfl rfl ?_
            refine s_iload 39 dX4_changesOf_37 rfl rfl ?_
            refine s_ishr 40 dX4_changesOf_39 rfl ?_
            refine s_iconst 41 dX4_changesOf_40 rfl ?_
            refine s_iand 42 dX4_changesOf_41 rfl ?_
            refine s_iconst 43 dX4_changesOf_42 rfl ?_
            refine s_icmp_ne 70 46 dX4_changesOf_43 rfl rfl (by first | omega | exact iand_r _ _) (by first | omega | exact iand_r _ _) (fun h_43 => ?_) (fun h_43 => by exfalso; exact z (hBk.mp h_43))
            refine s_iinc (ls' := [_, _, _, _, _, _, _, _]) 73 dX4_changesOf_70 rfl rfl (Nat.le_of_ble_eq_true rfl) rfl rfl ?_
            refine s_goto 15 dX4_changesOf_73 rfl ?_
            exact st _
        · have ei : i = r 7 := by omega
          subst ei
          refine s_iload 17 dX4_changesOf_15 rfl rfl ?_
          refine s_aload_n 18 dX4_changesOf_17 rfl rfl ?_
          refine s_getR 21 dX4_changesOf_18 rfl fl_X4_49 (fun _ _ _ _ => rfl) (by assumption) (isN_sh hN) (isN_lt hN) ?_
          refine s_getI 24 dX4_changesOf_21 rfl fl_X4_53 (fun _ _ _ _ => rfl) (isP_sh (by assumption)) (isP_lt (by assumption)) (fun r_21 => ?_)
          rw [e7]
          refine s_icmp_ge 76 27 dX4_changesOf_24 rfl rfl (by first | omega | exact bI_r _ | exact iI_r _) (by first | omega | exact bI_r _ | exact iI_r _) (fun h_24 => ?_) (fun h_24 => by exfalso; omega)
          refine s_iload 78 dX4_changesOf_76 rfl rfl ?_
          refine s_iret dX4_changesOf_78 rfl rfl ?_
          exact h
    have l0 := fun w7 => loop 16 0 w7 (by omega) (by omega) (by omega)
    rw [show laF (Bod r (sqF r g sc) (fun k => hasI ons k)) (sqF r g sc) (0 : Int).toNat = -1 from rfl, show chS r w (Bod r (sqF r g sc) (fun k => hasI ons k)) (sqF r g sc) (0 : Int).toNat = 0 from rfl] at l0
    refine s_istore_n (ls' := [_, _, _, _, _, _, _, _]) 6 dX4_changesOf_5 rfl (Nat.le_of_ble_eq_true rfl) rfl rfl ?_
    refine s_iconst 7 dX4_changesOf_6 rfl ?_
    refine s_istore (ls' := [_, _, _, _, _, _, _, _]) 9 dX4_changesOf_7 rfl (Nat.le_of_ble_eq_true rfl) rfl rfl ?_
    refine s_iconst 10 dX4_changesOf_9 rfl ?_
    refine s_istore (ls' := [_, _, _, _, _, _, _, _]) 12 dX4_changesOf_10 rfl (Nat.le_of_ble_eq_true rfl) rfl rfl ?_
    refine s_iconst 13 dX4_changesOf_12 rfl ?_
    refine s_istore (ls' := [_, _, _, _, _, _, _, _]) 15 dX4_changesOf_13 rfl (Nat.le_of_ble_eq_true rfl) rfl rfl ?_
    exact l0 _
  refine s_aload_n 1 dX4_changesOf_0 rfl rfl ?_
  refine s_iload_n 2 dX4_changesOf_1 rfl rfl ?_
  refine s_callV0 (M' := M_X4_bodilyOf) (as := [_]) 5 dX4_changesOf_2 rfl cw_X4_109 rfl rfl (isN_sh hN) rfl (by decide) (isN_lt hN) (Nat.le_of_ble_eq_true rfl) (Nat.le_of_ble_eq_true rfl) (Nat.le_of_ble_eq_true rfl) ⟨rfl, rfl, rfl⟩ ?_
  refine c_X4_bodilyOf hT hN hP hNP hr hR hV.2.2.1 hq hons (fun B hB => ?_)
  exact main B hB
set_option maxHeartbeats 4000000 in
theorem c_X4_inRow {E : ET} {I : MI} {L : ML} {R : MR} {Q : Option AV → MI → ML → MR → Prop} {N P : Nat} {r sc : F1} {rd g cut s m : Int} (hT : Topo R) (hN : isN N) (hP : isP P) (hNP : R N 1 = some P) (hr : WFr r) (hR : PR I P r) (hV : NtV I N r rd g sc cut) (hm : 0 ≤ m ∧ m ≤ 2147483647) (h : ∀ x, ((x = -1 ∧ ∀ j, 0 ≤ j → j < r 7 → hasI s (sqF r g sc j) → cnF (fun k => hasI s k) (sqF r g sc) j.toNat ≠ m) ∨ ∃ j, 0 ≤ j ∧ j < r 7 ∧ hasI s (sqF r g sc j) ∧ cnF (fun k => hasI s k) (sqF r g sc) j.toNat = m ∧ x = sqF r g sc j) → Q (some (vi x)) I L R) : CT E M_X4_inRow 161 yX4_inRow [(vr (N)), (vi (s)), (vi (m))] I L R Q := by
  refine CT_of rfl rfl (fun h => by cases h) (Nat.le_of_ble_eq_true rfl) (fun X => ?_)
  show V X _ z0 0 [some (vr (N)), some (vi (s)), some (vi (m)), none, none, none] [] I L R _
  have e0 := hr.1
  have e7 := hR.1.2.2.2.2.2.2.1
  have hq := sq_P (g := g) (sc := sc) hr
  have loop : ∀ (f : Nat) (i : Int) (w : Option AV), r 7 - i < (f : Int) → 0 ≤ i → i ≤ r 7 → cnF (fun k => hasI s k) (sqF r g sc) i.toNat ≤ m → (∀ j, 0 ≤ j → j < i → hasI s (sqF r g sc j) → cnF (fun k => hasI s k) (sqF r g sc) j.toNat ≠ m) → V X M_X4_inRow z0 5 [some (vr (N)), some (vi (s)), some (vi (m)), some (vi (m - cnF (fun k => hasI s k) (sqF r g sc) i.toNat)), some (vi (i)), w] [] (I) L R (RT X M_X4_inRow Q) := by
    intro f
    induction f with
    | zero => intro i w h1 h2 h3; omega
    | succ f ih =>
      intro i w h1 h2 h3 h4 h5
      have cb := cnF_b (S := fun k => hasI s k) (q := sqF r g sc) i.toNat
      by_cases hi : i < r 7
      · have qi := hq.1 i h2 hi
        have eqi := hV.2.2.1 i h2 hi
        have st := ih (i + 1)
        rw [cnF_s h2] at st
        generalize hcn : cnF (fun k => hasI s k) (sqF r g sc) i.toNat = cn9 at *
        by_cases z : hasI s (sqF r g sc i)
        · rw [pick_t z] at st
          by_cases z2 : cn9 = m
          · skip
            refine s_iload 7 dX4_inRow_5 rfl rfl ?_
            refine s_aload_n 8 dX4_inRow_7 rfl rfl ?_
            refine s_getR 11 dX4_inRow_8 rfl fl_X4_49 (fun _ _ _ _ => rfl) (by assumption) (isN_sh hN) (isN_lt hN) ?_
            refine s_getI 14 dX4_inRow_11 rfl fl_X4_53 (fun _ _ _ _ => rfl) (isP_sh (by assumption)) (isP_lt (by assumption)) (fun r_11 => ?_)
            rw [e7]
            refine s_icmp_ge 52 17 dX4_inRow_14 rfl rfl (by first | omega | exact bI_r _ | exact iI_r _) (by first | omega | exact bI_r _ | exact iI_r _) (fun h_14 => by exfalso; omega) (fun h_14 => ?_)
            refine s_aload_n 18 dX4_inRow_17 rfl rfl ?_
            refine s_getR 21 dX4_inRow_18 rfl fl_X4_29 (fun _ _ _ _ => rfl) (T_X4_row hT hN) (isN_sh hN) (isN_lt hN) ?_
            refine s_iload 23 dX4_inRow_21 rfl rfl ?_
            refine s_iald 24 dX4_inRow_23 rfl (shN_row hN) (ltN_row hN) (by omega) (by omega) (fun r_23 => ?_)
            rw [eqi]
            refine s_istore (ls' := [_, _, _, _, _, _]) 26 dX4_inRow_24 rfl (Nat.le_of_ble_eq_true rfl) rfl rfl ?_
            refine s_iload_n 27 dX4_inRow_26 rfl rfl ?_
            refine s_iload 29 dX4_inRow_27 rfl rfl ?_
            refine s_ishr 30 dX4_inRow_29 rfl ?_
            refine s_iconst 31 dX4_inRow_30 rfl ?_
            refine s_iand 32 dX4_inRow_31 rfl ?_
            refine s_iconst 33 dX4_inRow_32 rfl ?_
            refine s_icmp_ne 46 36 dX4_inRow_33 rfl rfl (by first | omega | exact iand_r _ _) (by first | omega | exact iand_r _ _) (fun h_33 => by exfalso; exact h_33 z) (fun h_33 => ?_)
            refine s_iload_n 37 dX4_inRow_36 rfl rfl ?_
            refine s_if_ne 43 40 dX4_inRow_37 rfl rfl (by first | omega | exact bI_r _ | exact iI_r _) (fun h_37 => by exfalso; omega) (fun h_37 => ?_)
            refine s_iload 42 dX4_inRow_40 rfl rfl ?_
            refine s_iret dX4_inRow_42 rfl rfl ?_
            exact h _ (Or.inr ⟨i, h2, hi, z, hcn.trans z2, rfl⟩)
          · rw [show m - (cn9 + 1) = m - cn9 + -1 by omega] at st
            refine s_iload 7 dX4_inRow_5 rfl rfl ?_
            refine s_aload_n 8 dX4_inRow_7 rfl rfl ?_
            refine s_getR 11 dX4_inRow_8 rfl fl_X4_49 (fun _ _ _ _ => rfl) (by assumption) (isN_sh hN) (isN_lt hN) ?_
            refine s_getI 14 dX4_inRow_11 rfl fl_X4_53 (fun _ _ _ _ => rfl) (isP_sh (by assumption)) (isP_lt (by assumption)) (fun r_11 => ?_)
            rw [e7]
            refine s_icmp_ge 52 17 dX4_inRow_14 rfl rfl (by first | omega | exact bI_r _ | exact iI_r _) (by first | omega | exact bI_r _ | exact iI_r _) (fun h_14 => by exfalso; omega) (fun h_14 => ?_)
            refine s_aload_n 18 dX4_inRow_17 rfl rfl ?_
            refine s_getR 21 dX4_inRow_18 rfl fl_X4_29 (fun _ _ _ _ => rfl) (T_X4_row hT hN) (isN_sh hN) (isN_lt hN) ?_
            refine s_iload 23 dX4_inRow_21 rfl rfl ?_
            refine s_iald 24 dX4_inRow_23 rfl (shN_row hN) (ltN_row hN) (by omega) (by omega) (fun r_23 => ?_)
            rw [eqi]
            refine s_istore (ls' := [_, _, _, _, _, _]) 26 dX4_inRow_24 rfl (Nat.le_of_ble_eq_true rfl) rfl rfl ?_
            refine s_iload_n 27 dX4_inRow_26 rfl rfl ?_
            refine s_iload 29 dX4_inRow_27 rfl rfl ?_
            refine s_ishr 30 dX4_inRow_29 rfl ?_
            refine s_iconst 31 dX4_inRow_30 rfl ?_
            refine s_iand 32 dX4_inRow_31 rfl ?_
            refine s_iconst 33 dX4_inRow_32 rfl ?_
            refine s_icmp_ne 46 36 dX4_inRow_33 rfl rfl (by first | omega | exact iand_r _ _) (by first | omega | exact iand_r _ _) (fun h_33 => by exfalso; exact h_33 z) (fun h_33 => ?_)
            refine s_iload_n 37 dX4_inRow_36 rfl rfl ?_
            refine s_if_ne 43 40 dX4_inRow_37 rfl rfl (by first | omega | exact bI_r _ | exact iI_r _) (fun h_37 => ?_) (fun h_37 => by exfalso; omega)
            refine s_iinc (ls' := [_, _, _, _, _, _]) 46 dX4_inRow_43 rfl rfl (Nat.le_of_ble_eq_true rfl) rfl rfl ?_
            refine s_iinc (ls' := [_, _, _, _, _, _]) 49 dX4_inRow_46 rfl rfl (Nat.le_of_ble_eq_true rfl) rfl rfl ?_
            refine s_goto 5 dX4_inRow_49 rfl ?_
            refine st _ (by omega) (by omega) (by omega) (by omega) (fun j j1 j2 j3 => ?_)
            by_cases e : j = i
            · rw [e, hcn]; exact z2
            · exact h5 j j1 (by omega) j3
        · rw [pick_f z, Int.add_zero] at st
          refine s_iload 7 dX4_inRow_5 rfl rfl ?_
          refine s_aload_n 8 dX4_inRow_7 rfl rfl ?_
          refine s_getR 11 dX4_inRow_8 rfl fl_X4_49 (fun _ _ _ _ => rfl) (by assumption) (isN_sh hN) (isN_lt hN) ?_
          refine s_getI 14 dX4_inRow_11 rfl fl_X4_53 (fun _ _ _ _ => rfl) (isP_sh (by assumption)) (isP_lt (by assumption)) (fun r_11 => ?_)
          rw [e7]
          refine s_icmp_ge 52 17 dX4_inRow_14 rfl rfl (by first | omega | exact bI_r _ | exact iI_r _) (by first | omega | exact bI_r _ | exact iI_r _) (fun h_14 => by exfalso; omega) (fun h_14 => ?_)
          refine s_aload_n 18 dX4_inRow_17 rfl rfl ?_
          refine s_getR 21 dX4_inRow_18 rfl fl_X4_29 (fun _ _ _ _ => rfl) (T_X4_row hT hN) (isN_sh hN) (isN_lt hN) ?_
          refine s_iload 23 dX4_inRow_21 rfl rfl ?_
          refine s_iald 24 dX4_inRow_23 rfl (shN_row hN) (ltN_row hN) (by omega) (by omega) (fun r_23 => ?_)
          rw [eqi]
          refine s_istore (ls' := [_, _, _, _, _, _]) 26 dX4_inRow_24 rfl (Nat.le_of_ble_eq_true rfl) rfl rfl ?_
          refine s_iload_n 27 dX4_inRow_26 rfl rfl ?_
          refine s_iload 29 dX4_inRow_27 rfl rfl ?_
          refine s_ishr 30 dX4_inRow_29 rfl ?_
          refine s_iconst 31 dX4_inRow_30 rfl ?_
          refine s_iand 32 dX4_inRow_31 rfl ?_
          refine s_iconst 33 dX4_inRow_32 rfl ?_
          refine s_icmp_ne 46 36 dX4_inRow_33 rfl rfl (by first | omega | exact iand_r _ _) (by first | omega | exact iand_r _ _) (fun h_33 => ?_) (fun h_33 => by exfalso; exact z h_33)
          refine s_iinc (ls' := [_, _, _, _, _, _]) 49 dX4_inRow_46 rfl rfl (Nat.le_of_ble_eq_true rfl) rfl rfl ?_
          refine s_goto 5 dX4_inRow_49 rfl ?_
          refine st _ (by omega) (by omega) (by omega) (by omega) (fun j j1 j2 j3 => ?_)
          by_cases e : j = i
          · subst e; exact absurd j3 z
          · exact h5 j j1 (by omega) j3
      · have ei : i = r 7 := by omega
        subst ei
        refine s_iload 7 dX4_inRow_5 rfl rfl ?_
        refine s_aload_n 8 dX4_inRow_7 rfl rfl ?_
        refine s_getR 11 dX4_inRow_8 rfl fl_X4_49 (fun _ _ _ _ => rfl) (by assumption) (isN_sh hN) (isN_lt hN) ?_
        refine s_getI 14 dX4_inRow_11 rfl fl_X4_53 (fun _ _ _ _ => rfl) (isP_sh (by assumption)) (isP_lt (by assumption)) (fun r_11 => ?_)
        rw [e7]
        refine s_icmp_ge 52 17 dX4_inRow_14 rfl rfl (by first | omega | exact bI_r _ | exact iI_r _) (by first | omega | exact bI_r _ | exact iI_r _) (fun h_14 => ?_) (fun h_14 => by exfalso; omega)
        refine s_iconst 53 dX4_inRow_52 rfl ?_
        refine s_iret dX4_inRow_53 rfl rfl ?_
        exact h _ (Or.inl ⟨rfl, h5⟩)
  have l0 := fun w => loop 16 0 w (by omega) (by omega) (by omega) (by rw [show cnF (fun k => hasI s k) (sqF r g sc) (0 : Int).toNat = 0 from rfl]; omega) (fun j j1 j2 => by omega)
  rw [show cnF (fun k => hasI s k) (sqF r g sc) (0 : Int).toNat = 0 from rfl, Int.sub_zero] at l0
  refine s_iload_n 1 dX4_inRow_0 rfl rfl ?_
  refine s_istore_n (ls' := [_, _, _, _, _, _]) 2 dX4_inRow_1 rfl (Nat.le_of_ble_eq_true rfl) rfl rfl ?_
  refine s_iconst 3 dX4_inRow_2 rfl ?_
  refine s_istore (ls' := [_, _, _, _, _, _]) 5 dX4_inRow_3 rfl (Nat.le_of_ble_eq_true rfl) rfl rfl ?_
  exact l0 _
