/-! undo, redo, image, back, by the reference -/
def stO (x : List Int) (s : F1) : F1 := fun k => if 0 ≤ k ∧ k < 13 then vL x k else s k
theorem MV.mk {I I' : MI} {bt : F1} {n ft pl w w' : Int} {HP : Prop} {r s s' : F1} {U D K U' D' K' : List (List Int)} (h : MV I bt n ft pl w HP r s U D K)
    (f : ∀ k, k ≠ 0 → k ≠ 11 → k ≠ 22 → k ≠ 23 → k ≠ 24 → I' 138 k = I 138 k) (o : ∀ c, c ∉ 143 :: 145 :: 146 :: 147 :: MS → c ≠ 138 → I' c = I c) (w1 : I' 138 11 = w') (es : I' 143 = s')
    (eu : I' 138 22 = U'.length ∧ hist (I' 145) U'.length = U') (ed : I' 138 23 = D'.length ∧ hist (I' 146) D'.length = D') (ek : I' 138 24 = K'.length ∧ hist (I' 147) K'.length = K') : Lo I I' ∧ MV I' bt n ft pl w' HP r s' U' D' K' := by
  obtain ⟨⟨a1, a2, a3, a4, a5, a6⟩, b, c, d, ⟨e1, e2⟩, ⟨f1, f2⟩, g1, g2⟩ := h
  refine ⟨fun c hc => o c (fun z => by simp [MS] at z; omega) (by omega), ⟨?_, fun k z1 z2 => ?_, ?_, ?_, w1, ?_⟩, ?_, ?_, es, eu, ed, ek.1, ek.2⟩
  · rw [f _ (by decide) (by decide) (by decide) (by decide) (by decide)]; exact a1
  · rw [o _ (by decide) (by decide)]; exact a2 k z1 z2
  · rw [f _ (by decide) (by decide) (by decide) (by decide) (by decide)]; exact a3
  · rw [f _ (by decide) (by decide) (by decide) (by decide) (by decide)]; exact a4
  · rw [f _ (by decide) (by decide) (by decide) (by decide) (by decide)]; exact a6
  · rw [f _ (by decide) (by decide) (by decide) (by decide) (by decide)]; exact b
  · rw [o _ (by decide) (by decide)]; exact c
theorem kp_len {U : List (List Int)} {x : List Int} (h : U.length ≤ 12) : (kp U x).length ≤ 12 := by
  unfold kp
  rw [List.length_append]
  split
  · simp; omega
  · simp; omega
theorem gd_11 {I : MI} {w : Int} : gd I w 138 11 = w := by unfold gd; rw [upd9, if_pos rfl]
set_option maxHeartbeats 4000000 in
theorem c_X12_undo {E : ET} {I : MI} {L : ML} {R : MR} {Q : Option AV → MI → ML → MR → Prop} {bt r s : F1} {n ft pl w : Int} {HP : Prop} {U D K : List (List Int)} (hT : Topo R) (hM : MV I bt n ft pl w HP r s U D K) (hu : U.length ≤ 12) (hd : D.length ≤ 12) (h : ∀ C, C = (U ≠ []) → ∀ I', (Lo I I' ∧ MV I' bt n ft pl (pick C 0 6) HP r (pick C (stO (lastR U) s) s) (pick C U.dropLast U) (pick C (kp D (rowAt s 0)) D) K) → Q (some (vi (bI C))) I' L R) : CT E M_X12_undo 161 yX12_undo [(vr (138))] I L R Q := by
  refine CT_of rfl rfl (fun h => by cases h) (Nat.le_of_ble_eq_true rfl) (fun X => ?_)
  show V X _ z0 0 [some (vr (138))] [] I L R _
  have h := h _ rfl
  have hM0 := hM
  obtain ⟨⟨a1, a2, a3, a4, a5, ehp⟩, erd, er, es, ⟨e1, e2⟩, ⟨f1, f2⟩, g1, g2⟩ := hM
  obtain ⟨C, hC⟩ : ∃ C, C = (U ≠ []) := ⟨_, rfl⟩
  rw [← hC] at h
  by_cases z : C
  · obtain ⟨m, hm⟩ : ∃ m, U.length = m + 1 := by
      rw [hC] at z
      exact ⟨U.length - 1, by have := List.length_pos_iff.mpr z; omega⟩
    have hl := hist_last (M := I 145) (m := m) (U := U) (by rw [← hm]; exact e2)
    have hdl : U.dropLast.length = m := by rw [List.length_dropLast]; omega
    have hk := kp_len (x := rowAt s 0) (U := D) hd
    rw [pick_t z, pick_t z, pick_t z, pick_t z, bI_t z] at h
    refine s_aload_n 1 dX12_undo_0 rfl rfl ?_
    refine s_callV0 (M' := M_X12_good) (as := []) 4 dX12_undo_1 rfl cw_X12_190 rfl rfl sh_138 rfl (by decide) (Nat.le_of_ble_eq_true rfl) (Nat.le_of_ble_eq_true rfl) (Nat.le_of_ble_eq_true rfl) (Nat.le_of_ble_eq_true rfl) ⟨rfl, rfl, rfl⟩ ?_
    refine c_X12_good ?_
    refine s_aload_n 5 dX12_undo_4 rfl rfl ?_
    refine s_getI 8 dX12_undo_5 rfl fl_X12_206 (fun _ _ _ _ => rfl) sh_138 (Nat.le_of_ble_eq_true rfl) (fun r_5 => ?_)
    rw [show up (up I 138 0 0) 138 11 0 138 22 = U.length from (gd_f (by decide)).trans e1]
    refine s_if_ne 18 11 dX12_undo_8 rfl rfl (by first | omega | exact bI_r _ | exact iI_r _) (fun h_8 => ?_) (fun h_8 => by exfalso; omega)
    refine s_aload_n 19 dX12_undo_18 rfl rfl ?_
    refine s_aload_n 20 dX12_undo_19 rfl rfl ?_
    refine s_getR 23 dX12_undo_20 rfl fl_X12_35 (fun _ _ _ _ => rfl) (T_X12_redone hT) sh_138 (Nat.le_of_ble_eq_true rfl) ?_
    refine s_aload_n 24 dX12_undo_23 rfl rfl ?_
    refine s_getI 27 dX12_undo_24 rfl fl_X12_209 (fun _ _ _ _ => rfl) sh_138 (Nat.le_of_ble_eq_true rfl) (fun r_24 => ?_)
    rw [show up (up I 138 0 0) 138 11 0 138 23 = D.length from (gd_f (by decide)).trans f1]
    refine s_aload_n 28 dX12_undo_27 rfl rfl ?_
    refine s_getR 31 dX12_undo_28 rfl fl_X12_26 (fun _ _ _ _ => rfl) (T_X12_st hT) sh_138 (Nat.le_of_ble_eq_true rfl) ?_
    refine s_callS0 (M' := M_X12_keep) (as := [_, _, _]) 34 dX12_undo_31 rfl cw_X12_420 rfl rfl (Nat.le_of_ble_eq_true rfl) (Nat.le_of_ble_eq_true rfl) (Nat.le_of_ble_eq_true rfl) ⟨rfl, rfl, rfl⟩ ?_
    refine c_X12_keep (U := D) sh_146 (by decide) sh_143 (by decide) (by decide) (by decide) rfl hd (by rw [show up (up I 138 0 0) 138 11 0 = gd I 0 from rfl, gd_n (by decide)]; exact f2) (fun I2 k1 k2 => ?_)
    rw [show up (up I 138 0 0) 138 11 0 = gd I 0 from rfl, gd_n (by decide), es] at k2
    rw [show up (up I 138 0 0) 138 11 0 = gd I 0 from rfl, gd_n (by decide), es]
    refine s_putI 37 dX12_undo_34 rfl fl_X12_209 (fun _ => rfl) (fun _ => rfl) (fun _ _ _ _ => rfl) sh_138 (Nat.le_of_ble_eq_true rfl) (by first | omega | exact bI_r _ | exact iI_r _) ?_
    refine s_aload_n 38 dX12_undo_37 rfl rfl ?_
    refine s_dup 39 dX12_undo_38 rfl rfl ?_
    refine s_getI 42 dX12_undo_39 rfl fl_X12_206 (fun _ _ _ _ => rfl) sh_138 (Nat.le_of_ble_eq_true rfl) (fun r_39 => ?_)
    rw [show up I2 138 23 (kp D (rowAt s 0)).length 138 22 = (m : Int) + 1 from by rw [upn (by decide), k1 138 (by decide)]; exact (gd_f (by decide)).trans (by rw [e1, hm]; rfl)]
    refine s_iconst 43 dX12_undo_42 rfl ?_
    refine s_isub 44 dX12_undo_43 rfl ?_
    refine s_putI 47 dX12_undo_44 rfl fl_X12_206 (fun _ => rfl) (fun _ => rfl) (fun _ _ _ _ => rfl) sh_138 (Nat.le_of_ble_eq_true rfl) (by first | omega | exact bI_r _ | exact iI_r _) ?_
    refine s_aload_n 48 dX12_undo_47 rfl rfl ?_
    refine s_getR 51 dX12_undo_48 rfl fl_X12_32 (fun _ _ _ _ => rfl) (T_X12_undone hT) sh_138 (Nat.le_of_ble_eq_true rfl) ?_
    refine s_bipush 53 dX12_undo_51 rfl (by decide) ?_
    refine s_aload_n 54 dX12_undo_53 rfl rfl ?_
    refine s_getI 57 dX12_undo_54 rfl fl_X12_206 (fun _ _ _ _ => rfl) sh_138 (Nat.le_of_ble_eq_true rfl) (fun r_54 => ?_)
    rw [show up (up I2 138 23 (kp D (rowAt s 0)).length) 138 22 ((m : Int) + 1 - 1) 138 22 = (m : Int) from by rw [ups]; omega]
    refine s_imul 58 dX12_undo_57 rfl ?_
    refine s_aload_n 59 dX12_undo_58 rfl rfl ?_
    refine s_getR 62 dX12_undo_59 rfl fl_X12_26 (fun _ _ _ _ => rfl) (T_X12_st hT) sh_138 (Nat.le_of_ble_eq_true rfl) ?_
    refine s_iconst 63 dX12_undo_62 rfl ?_
    refine s_bipush 65 dX12_undo_63 rfl (by decide) ?_
    refine s_callS0 (M' := M_X12_copy) (as := [_, _, _, _, _]) 68 dX12_undo_65 rfl cw_X12_199 rfl rfl (Nat.le_of_ble_eq_true rfl) (Nat.le_of_ble_eq_true rfl) (Nat.le_of_ble_eq_true rfl) ⟨rfl, rfl, rfl⟩ ?_
    refine c_X12_copy sh_145 sh_143 (by decide) (by decide) (by decide) (by decide) (by omega) (by omega) (by omega) ?_
    refine s_iconst 69 dX12_undo_68 rfl ?_
    refine s_zret dX12_undo_69 rfl (by first | omega | exact bI_b _) rfl ?_
    refine h _ ?_
    have n1 : ∀ c, c ≠ 143 → c ≠ 138 → c ≠ 146 → cpI (up (up I2 138 23 (kp D (rowAt s 0)).length) 138 22 ((m : Int) + 1 - 1)) 145 (13 * m) 143 0 13 c = I c := fun c q1 q2 q3 => by
      rw [cpI_ne q1, up_ne q2, up_ne q2, k1 c (by simpa using q3)]
      exact gd_n q2
    have n2 : ∀ k, cpI (up (up I2 138 23 (kp D (rowAt s 0)).length) 138 22 ((m : Int) + 1 - 1)) 145 (13 * m) 143 0 13 138 k = (if k = 22 then (m : Int) + 1 - 1 else if k = 23 then ((kp D (rowAt s 0)).length : Int) else gd I 0 138 k) := fun k => by
      rw [cpI_ne (by decide), upd9, upd9, k1 138 (by decide)]
      rfl
    exact hM0.mk (fun k q1 q2 q3 q4 q5 => by rw [n2, if_neg (by omega), if_neg (by omega)]; exact gd_f ⟨q1, q2⟩) (fun c q1 q2 => n1 c (fun e => q1 (by rw [e]; decide)) q2 (fun e => q1 (by rw [e]; decide))) (by rw [n2, if_neg (by decide), if_neg (by decide)]; exact gd_11)
      (by
        funext k
        rw [cpI_eq]
        simp only []
        unfold stO
        by_cases hk : 0 ≤ k ∧ k < 13
        · rw [if_pos (by omega), if_pos hk, hl.2, vL_row hk, up_ne (by decide), up_ne (by decide), k1 145 (by decide)]
          show gd I 0 145 _ = _
          rw [gd_n (by decide), show (13 * (m : Int) + (k - 0)) = 13 * m + k by omega]
        · rw [if_neg (by omega), if_neg hk, up_ne (by decide), up_ne (by decide), k1 143 (by decide)]
          show gd I 0 143 k = _
          rw [gd_n (by decide), es])
      ⟨by rw [n2, if_pos rfl, hdl]; omega, by rw [n1 145 (by decide) (by decide) (by decide), hdl]; exact hl.1⟩ ⟨by rw [n2, if_neg (by decide), if_pos rfl], by rw [cpI_ne (by decide), up_ne (by decide), up_ne (by decide)]; exact k2⟩ ⟨by rw [n2, if_neg (by decide), if_neg (by decide)]; exact (gd_f (by decide)).trans g1, by rw [n1 147 (by decide) (by decide) (by decide)]; exact g2⟩
  · have hU : U = [] := by
      apply Classical.byContradiction
      intro q
      exact z (by rw [hC]; exact q)
    refine s_aload_n 1 dX12_undo_0 rfl rfl ?_
    refine s_callV0 (M' := M_X12_good) (as := []) 4 dX12_undo_1 rfl cw_X12_190 rfl rfl sh_138 rfl (by decide) (Nat.le_of_ble_eq_true rfl) (Nat.le_of_ble_eq_true rfl) (Nat.le_of_ble_eq_true rfl) (Nat.le_of_ble_eq_true rfl) ⟨rfl, rfl, rfl⟩ ?_
    refine c_X12_good ?_
    refine s_aload_n 5 dX12_undo_4 rfl rfl ?_
    refine s_getI 8 dX12_undo_5 rfl fl_X12_206 (fun _ _ _ _ => rfl) sh_138 (Nat.le_of_ble_eq_true rfl) (fun r_5 => ?_)
    rw [show up (up I 138 0 0) 138 11 0 138 22 = 0 from (gd_f (by decide)).trans (by rw [e1, hU]; rfl)]
    refine s_if_ne 18 11 dX12_undo_8 rfl rfl (by first | omega | exact bI_r _ | exact iI_r _) (fun h_8 => by exfalso; exact absurd rfl h_8) (fun h_8 => ?_)
    refine s_aload_n 12 dX12_undo_11 rfl rfl ?_
    refine s_bipush 14 dX12_undo_12 rfl (by decide) ?_
    refine s_callV0 (M' := M_X12_isNot) (as := [_]) 17 dX12_undo_14 rfl cw_X12_424 rfl rfl sh_138 rfl (by decide) (Nat.le_of_ble_eq_true rfl) (Nat.le_of_ble_eq_true rfl) (Nat.le_of_ble_eq_true rfl) (Nat.le_of_ble_eq_true rfl) ⟨rfl, rfl, rfl⟩ ?_
    refine c_X12_isNot (by decide) ?_
    rw [show up (up (up I 138 0 0) 138 11 0) 138 11 6 = gd I 6 from gd_no]
    refine s_zret dX12_undo_17 rfl (by first | omega | exact bI_b _) rfl ?_
    have q := h (gd I 6) ⟨Lo.gd Eqo.rf, by rw [pick_f z, pick_f z, pick_f z, pick_f z]; exact hM0.q Eqo.rf⟩
    rw [bI_f z, ← bI_f (b := False) id] at q
    exact q
set_option maxHeartbeats 4000000 in
theorem c_X12_redo {E : ET} {I : MI} {L : ML} {R : MR} {Q : Option AV → MI → ML → MR → Prop} {bt r s : F1} {n ft pl w : Int} {HP : Prop} {U D K : List (List Int)} (hT : Topo R) (hM : MV I bt n ft pl w HP r s U D K) (hu : U.length ≤ 12) (hd : D.length ≤ 12) (h : ∀ C, C = (D ≠ []) → ∀ I', (Lo I I' ∧ MV I' bt n ft pl (pick C 0 6) HP r (pick C (stO (lastR D) s) s) (pick C (kp U (rowAt s 0)) U) (pick C D.dropLast D) K) → Q (some (vi (bI C))) I' L R) : CT E M_X12_redo 161 yX12_redo [(vr (138))] I L R Q := by
  refine CT_of rfl rfl (fun h => by cases h) (Nat.le_of_ble_eq_true rfl) (fun X => ?_)
  show V X _ z0 0 [some (vr (138))] [] I L R _
  have h := h _ rfl
  have hM0 := hM
  obtain ⟨⟨a1, a2, a3, a4, a5, ehp⟩, erd, er, es, ⟨e1, e2⟩, ⟨f1, f2⟩, g1, g2⟩ := hM
  obtain ⟨C, hC⟩ : ∃ C, C = (D ≠ []) := ⟨_, rfl⟩
  rw [← hC] at h
  by_cases z : C
  · obtain ⟨m, hm⟩ : ∃ m, D.length = m + 1 := by
      rw [hC] at z
      exact ⟨D.length - 1, by have := List.length_pos_iff.mpr z; omega⟩
    have hl := hist_last (M := I 146) (m := m) (U := D) (by rw [← hm]; exact f2)
    have hdl : D.dropLast.length = m := by rw [List.length_dropLast]; omega
    have hk := kp_len (x := rowAt s 0) (U := U) hu
    rw [pick_t z, pick_t z, pick_t z, pick_t z, bI_t z] at h
    refine s_aload_n 1 dX12_redo_0 rfl rfl ?_
    refine s_callV0 (M' := M_X12_good) (as := []) 4 dX12_redo_1 rfl cw_X12_190 rfl rfl sh_138 rfl (by decide) (Nat.le_of_ble_eq_true rfl) (Nat.le_of_ble_eq_true rfl) (Nat.le_of_ble_eq_true rfl) (Nat.le_of_ble_eq_true rfl) ⟨rfl, rfl, rfl⟩ ?_
    refine c_X12_good ?_
    refine s_aload_n 5 dX12_redo_4 rfl rfl ?_
    refine s_getI 8 dX12_redo_5 rfl fl_X12_209 (fun _ _ _ _ => rfl) sh_138 (Nat.le_of_ble_eq_true rfl) (fun r_5 => ?_)
    rw [show up (up I 138 0 0) 138 11 0 138 23 = D.length from (gd_f (by decide)).trans f1]
    refine s_if_ne 18 11 dX12_redo_8 rfl rfl (by first | omega | exact bI_r _ | exact iI_r _) (fun h_8 => ?_) (fun h_8 => by exfalso; omega)
    refine s_aload_n 19 dX12_redo_18 rfl rfl ?_
    refine s_aload_n 20 dX12_redo_19 rfl rfl ?_
    refine s_getR 23 dX12_redo_20 rfl fl_X12_32 (fun _ _ _ _ => rfl) (T_X12_undone hT) sh_138 (Nat.le_of_ble_eq_true rfl) ?_
    refine s_aload_n 24 dX12_redo_23 rfl rfl ?_
    refine s_getI 27 dX12_redo_24 rfl fl_X12_206 (fun _ _ _ _ => rfl) sh_138 (Nat.le_of_ble_eq_true rfl) (fun r_24 => ?_)
    rw [show up (up I 138 0 0) 138 11 0 138 22 = U.length from (gd_f (by decide)).trans e1]
    refine s_aload_n 28 dX12_redo_27 rfl rfl ?_
    refine s_getR 31 dX12_redo_28 rfl fl_X12_26 (fun _ _ _ _ => rfl) (T_X12_st hT) sh_138 (Nat.le_of_ble_eq_true rfl) ?_
    refine s_callS0 (M' := M_X12_keep) (as := [_, _, _]) 34 dX12_redo_31 rfl cw_X12_420 rfl rfl (Nat.le_of_ble_eq_true rfl) (Nat.le_of_ble_eq_true rfl) (Nat.le_of_ble_eq_true rfl) ⟨rfl, rfl, rfl⟩ ?_
    refine c_X12_keep (U := U) sh_145 (by decide) sh_143 (by decide) (by decide) (by decide) rfl hu (by rw [show up (up I 138 0 0) 138 11 0 = gd I 0 from rfl, gd_n (by decide)]; exact e2) (fun I2 k1 k2 => ?_)
    rw [show up (up I 138 0 0) 138 11 0 = gd I 0 from rfl, gd_n (by decide), es] at k2
    rw [show up (up I 138 0 0) 138 11 0 = gd I 0 from rfl, gd_n (by decide), es]
    refine s_putI 37 dX12_redo_34 rfl fl_X12_206 (fun _ => rfl) (fun _ => rfl) (fun _ _ _ _ => rfl) sh_138 (Nat.le_of_ble_eq_true rfl) (by first | omega | exact bI_r _ | exact iI_r _) ?_
    refine s_aload_n 38 dX12_redo_37 rfl rfl ?_
    refine s_dup 39 dX12_redo_38 rfl rfl ?_
    refine s_getI 42 dX12_redo_39 rfl fl_X12_209 (fun _ _ _ _ => rfl) sh_138 (Nat.le_of_ble_eq_true rfl) (fun r_39 => ?_)
    rw [show up I2 138 22 (kp U (rowAt s 0)).length 138 23 = (m : Int) + 1 from by rw [upn (by decide), k1 138 (by decide)]; exact (gd_f (by decide)).trans (by rw [f1, hm]; rfl)]
    refine s_iconst 43 dX12_redo_42 rfl ?_
    refine s_isub 44 dX12_redo_43 rfl ?_
    refine s_putI 47 dX12_redo_44 rfl fl_X12_209 (fun _ => rfl) (fun _ => rfl) (fun _ _ _ _ => rfl) sh_138 (Nat.le_of_ble_eq_true rfl) (by first | omega | exact bI_r _ | exact iI_r _) ?_
    refine s_aload_n 48 dX12_redo_47 rfl rfl ?_
    refine s_getR 51 dX12_redo_48 rfl fl_X12_35 (fun _ _ _ _ => rfl) (T_X12_redone hT) sh_138 (Nat.le_of_ble_eq_true rfl) ?_
    refine s_bipush 53 dX12_redo_51 rfl (by decide) ?_
    refine s_aload_n 54 dX12_redo_53 rfl rfl ?_
    refine s_getI 57 dX12_redo_54 rfl fl_X12_209 (fun _ _ _ _ => rfl) sh_138 (Nat.le_of_ble_eq_true rfl) (fun r_54 => ?_)
    rw [show up (up I2 138 22 (kp U (rowAt s 0)).length) 138 23 ((m : Int) + 1 - 1) 138 23 = (m : Int) from by rw [ups]; omega]
    refine s_imul 58 dX12_redo_57 rfl ?_
    refine s_aload_n 59 dX12_redo_58 rfl rfl ?_
    refine s_getR 62 dX12_redo_59 rfl fl_X12_26 (fun _ _ _ _ => rfl) (T_X12_st hT) sh_138 (Nat.le_of_ble_eq_true rfl) ?_
    refine s_iconst 63 dX12_redo_62 rfl ?_
    refine s_bipush 65 dX12_redo_63 rfl (by decide) ?_
    refine s_callS0 (M' := M_X12_copy) (as := [_, _, _, _, _]) 68 dX12_redo_65 rfl cw_X12_199 rfl rfl (Nat.le_of_ble_eq_true rfl) (Nat.le_of_ble_eq_true rfl) (Nat.le_of_ble_eq_true rfl) ⟨rfl, rfl, rfl⟩ ?_
    refine c_X12_copy sh_146 sh_143 (by decide) (by decide) (by decide) (by decide) (by omega) (by omega) (by omega) ?_
    refine s_iconst 69 dX12_redo_68 rfl ?_
    refine s_zret dX12_redo_69 rfl (by first | omega | exact bI_b _) rfl ?_
    refine h _ ?_
    have n1 : ∀ c, c ≠ 143 → c ≠ 138 → c ≠ 145 → cpI (up (up I2 138 22 (kp U (rowAt s 0)).length) 138 23 ((m : Int) + 1 - 1)) 146 (13 * m) 143 0 13 c = I c := fun c q1 q2 q3 => by
      rw [cpI_ne q1, up_ne q2, up_ne q2, k1 c (by simpa using q3)]
      exact gd_n q2
    have n2 : ∀ k, cpI (up (up I2 138 22 (kp U (rowAt s 0)).length) 138 23 ((m : Int) + 1 - 1)) 146 (13 * m) 143 0 13 138 k = (if k = 23 then (m : Int) + 1 - 1 else if k = 22 then ((kp U (rowAt s 0)).length : Int) else gd I 0 138 k) := fun k => by
      rw [cpI_ne (by decide), upd9, upd9, k1 138 (by decide)]
      rfl
    exact hM0.mk (fun k q1 q2 q3 q4 q5 => by rw [n2, if_neg (by omega), if_neg (by omega)]; exact gd_f ⟨q1, q2⟩) (fun c q1 q2 => n1 c (fun e => q1 (by rw [e]; decide)) q2 (fun e => q1 (by rw [e]; decide))) (by rw [n2, if_neg (by decide), if_neg (by decide)]; exact gd_11)
      (by
        funext k
        rw [cpI_eq]
        simp only []
        unfold stO
        by_cases hk : 0 ≤ k ∧ k < 13
        · rw [if_pos (by omega), if_pos hk, hl.2, vL_row hk, up_ne (by decide), up_ne (by decide), k1 146 (by decide)]
          show gd I 0 146 _ = _
          rw [gd_n (by decide), show (13 * (m : Int) + (k - 0)) = 13 * m + k by omega]
        · rw [if_neg (by omega), if_neg hk, up_ne (by decide), up_ne (by decide), k1 143 (by decide)]
          show gd I 0 143 k = _
          rw [gd_n (by decide), es])
      ⟨by rw [n2, if_neg (by decide), if_pos rfl], by rw [cpI_ne (by decide), up_ne (by decide), up_ne (by decide)]; exact k2⟩ ⟨by rw [n2, if_pos rfl, hdl]; omega, by rw [n1 146 (by decide) (by decide) (by decide), hdl]; exact hl.1⟩ ⟨by rw [n2, if_neg (by decide), if_neg (by decide)]; exact (gd_f (by decide)).trans g1, by rw [n1 147 (by decide) (by decide) (by decide)]; exact g2⟩
  · have hU : D = [] := by
      apply Classical.byContradiction
      intro q
      exact z (by rw [hC]; exact q)
    refine s_aload_n 1 dX12_redo_0 rfl rfl ?_
    refine s_callV0 (M' := M_X12_good) (as := []) 4 dX12_redo_1 rfl cw_X12_190 rfl rfl sh_138 rfl (by decide) (Nat.le_of_ble_eq_true rfl) (Nat.le_of_ble_eq_true rfl) (Nat.le_of_ble_eq_true rfl) (Nat.le_of_ble_eq_true rfl) ⟨rfl, rfl, rfl⟩ ?_
    refine c_X12_good ?_
    refine s_aload_n 5 dX12_redo_4 rfl rfl ?_
    refine s_getI 8 dX12_redo_5 rfl fl_X12_209 (fun _ _ _ _ => rfl) sh_138 (Nat.le_of_ble_eq_true rfl) (fun r_5 => ?_)
    rw [show up (up I 138 0 0) 138 11 0 138 23 = 0 from (gd_f (by decide)).trans (by rw [f1, hU]; rfl)]
    refine s_if_ne 18 11 dX12_redo_8 rfl rfl (by first | omega | exact bI_r _ | exact iI_r _) (fun h_8 => by exfalso; exact absurd rfl h_8) (fun h_8 => ?_)
    refine s_aload_n 12 dX12_redo_11 rfl rfl ?_
    refine s_bipush 14 dX12_redo_12 rfl (by decide) ?_
    refine s_callV0 (M' := M_X12_isNot) (as := [_]) 17 dX12_redo_14 rfl cw_X12_424 rfl rfl sh_138 rfl (by decide) (Nat.le_of_ble_eq_true rfl) (Nat.le_of_ble_eq_true rfl) (Nat.le_of_ble_eq_true rfl) (Nat.le_of_ble_eq_true rfl) ⟨rfl, rfl, rfl⟩ ?_
    refine c_X12_isNot (by decide) ?_
    rw [show up (up (up I 138 0 0) 138 11 0) 138 11 6 = gd I 6 from gd_no]
    refine s_zret dX12_redo_17 rfl (by first | omega | exact bI_b _) rfl ?_
    have q := h (gd I 6) ⟨Lo.gd Eqo.rf, by rw [pick_f z, pick_f z, pick_f z, pick_f z]; exact hM0.q Eqo.rf⟩
    rw [bI_f z, ← bI_f (b := False) id] at q
    exact q
