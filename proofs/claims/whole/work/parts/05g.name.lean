/-! the class's Reader: sides, kinds, names -/
theorem isW_ne {bt : F1} {n a : Int} {v w : List Int} (h : isW bt n v (.inr a)) (hne : v ≠ w) : ¬ isW bt n w (.inr a) := fun z => hne (h.2.symm.trans z.2)
theorem wS_ne : wS 47 ≠ wS 48 ∧ wS 38 ≠ wS 39 ∧ wS 38 ≠ wS 40 ∧ wS 38 ≠ wS 41 ∧ wS 39 ≠ wS 40 ∧ wS 39 ≠ wS 41 ∧ wS 40 ≠ wS 41 := by decide +kernel
theorem c_X10_isWord2 {E : ET} {I : MI} {L : ML} {R : MR} {Q : QT} {bt : F1} {n a : Int} {k : Nat} {q9 : ST0} {w : List Int} (hT : Topo R) (hk : STRS[k]? = some q9) (ew : wS k = w) (hS : TkC I L bt n a)
    (h : Q (some (vi (bI (isW bt n w (.inr a))))) I L R) : CT E M_X10_isWord 161 yX10_isWord [vr 79, vq 0 k] I L R Q := by
  subst ew
  exact c_X10_isWord hT hk hS h
set_option maxHeartbeats 4000000 in
theorem c_X6_side {E : ET} {I : MI} {L : ML} {R : MR} {Q : Option AV → MI → ML → MR → Prop} {bt r : F1} {n a m x : Int} {v : F1} {P : Nat} {o : PO} (hT : Topo R) (hP : isP P) (hn : 0 ≤ n ∧ n ≤ 900) (hb : ∀ k, 0 ≤ bt k ∧ bt k ≤ 255) (hm : 0 ≤ m ∧ m < 8) (hW : WFp r) (hS : RdK I L bt n P r a) (hV : VC I m v) (eo : siO bt n (.inr a) = o) (ex : siV bt n (.inr a) = x) (h : ∀ I' L', RdF P I L I' L' → RdO I' L' bt n P r o → (¬ isE o → VC I' (m + 1) (fun j => if j = m then x else v j)) → Q (some (vi (bI (¬ isE o)))) I' L' R) : CT E M_X6_side 161 yX6_side [(vr (75))] I L R Q := by
  refine CT_of rfl rfl (fun h => by cases h) (Nat.le_of_ble_eq_true rfl) (fun X => ?_)
  show V X _ z0 0 [some (vr (75)), none] [] I L R _
  subst ex
  subst eo
  obtain ⟨u0, u1, u2, u3, u4, u12, u13, u14, u15, u16, u17, u18, u19, u20, u21, u22, u23, u24, u25, u26, u27⟩ := wR_eq
  by_cases z : isW bt n (wS 47) (.inr a)
  · have eo : siO bt n (.inr a) = .inr (nxE bt n a) := pick_t z
    have ev : siV bt n (.inr a) = 0 := pick_t z
    rw [eo, ev, isE_r] at h
    refine s_aload_n 1 dX6_side_0 rfl rfl ?_
    refine s_getR 4 dX6_side_1 rfl fl_X6_27 (fun _ _ _ _ => rfl) (T_X6_tokens hT) sh_75 (Nat.le_of_ble_eq_true rfl) ?_
    refine s_ldcS 6 dX6_side_4 rfl (ks_X6_214) ?_
    refine s_callV0 (M' := M_X10_isWord) (as := [_]) 9 dX6_side_6 rfl cw_X6_82 rfl rfl sh_79 rfl (by decide) (Nat.le_of_ble_eq_true rfl) (Nat.le_of_ble_eq_true rfl) (Nat.le_of_ble_eq_true rfl) (Nat.le_of_ble_eq_true rfl) ⟨rfl, rfl, rfl⟩ ?_
    refine c_X10_isWord2 hT rfl u24 hS.2.2.2.2 ?_
    refine s_ifb_eq 16 12 dX6_side_9 rfl rfl (fun h_9 => by exfalso; exact absurd z h_9) (fun h_9 => ?_)
    refine s_iconst 13 dX6_side_12 rfl ?_
    refine s_goto 33 dX6_side_13 rfl ?_
    refine s_istore_n (ls' := [_, _]) 34 dX6_side_33 rfl (Nat.le_of_ble_eq_true rfl) rfl rfl ?_
    refine s_iload_n 35 dX6_side_34 rfl rfl ?_
    refine s_iconst 36 dX6_side_35 rfl ?_
    refine s_icmp_ne 45 39 dX6_side_36 rfl rfl (by first | omega | exact bI_r _ | exact iI_r _) (by first | omega | exact bI_r _ | exact iI_r _) (fun h_36 => ?_) (fun h_36 => by exfalso; exact absurd h_36 (by decide))
    refine s_aload_n 46 dX6_side_45 rfl rfl ?_
    refine s_getR 49 dX6_side_46 rfl fl_X6_27 (fun _ _ _ _ => rfl) (T_X6_tokens hT) sh_75 (Nat.le_of_ble_eq_true rfl) ?_
    refine s_callV0 (M' := M_X10_move) (as := []) 52 dX6_side_49 rfl cw_X6_58 rfl rfl sh_79 rfl (by decide) (Nat.le_of_ble_eq_true rfl) (Nat.le_of_ble_eq_true rfl) (Nat.le_of_ble_eq_true rfl) (Nat.le_of_ble_eq_true rfl) ⟨rfl, rfl, rfl⟩ ?_
    refine c_X10_move2 hT hS.1 hn hb hS.2.2.2.2 (fun I1 L1 g1 g2 => ?_)
    have hV1 : VC I1 m v := hV.c (by rw [g1.1 75 (by decide)]) (g1.1 78 (by decide))
    refine s_aload_n 53 dX6_side_52 rfl rfl ?_
    refine s_iload_n 54 dX6_side_53 rfl rfl ?_
    refine s_callV0 (M' := M_X6_tell) (as := [_]) 57 dX6_side_54 rfl cw_X6_151 rfl rfl sh_75 rfl (by decide) (Nat.le_of_ble_eq_true rfl) (Nat.le_of_ble_eq_true rfl) (Nat.le_of_ble_eq_true rfl) (Nat.le_of_ble_eq_true rfl) ⟨rfl, rfl, rfl⟩ ?_
    refine c_X6_tell hT hV1.1 hm (by omega) ?_
    refine s_zret dX6_side_57 rfl (by first | omega | exact bI_b _) rfl ?_
    exact h _ _ (((RdF.tm g1).fs (by decide)).fs (by decide)) ((hS.mv hP hW g1 g2).tl hP hW) (fun _ => hV1.tl)
  · have ev : siV bt n (.inr a) = 1 := pick_f z
    by_cases y : isW bt n (wS 48) (.inr a)
    · have eo : siO bt n (.inr a) = .inr (nxE bt n a) := (pick_f z).trans (muW_t y)
      rw [eo, ev, isE_r] at h
      refine s_aload_n 1 dX6_side_0 rfl rfl ?_
      refine s_getR 4 dX6_side_1 rfl fl_X6_27 (fun _ _ _ _ => rfl) (T_X6_tokens hT) sh_75 (Nat.le_of_ble_eq_true rfl) ?_
      refine s_ldcS 6 dX6_side_4 rfl (ks_X6_214) ?_
      refine s_callV0 (M' := M_X10_isWord) (as := [_]) 9 dX6_side_6 rfl cw_X6_82 rfl rfl sh_79 rfl (by decide) (Nat.le_of_ble_eq_true rfl) (Nat.le_of_ble_eq_true rfl) (Nat.le_of_ble_eq_true rfl) (Nat.le_of_ble_eq_true rfl) ⟨rfl, rfl, rfl⟩ ?_
      refine c_X10_isWord2 hT rfl u24 hS.2.2.2.2 ?_
      refine s_ifb_eq 16 12 dX6_side_9 rfl rfl (fun h_9 => ?_) (fun h_9 => by exfalso; exact absurd h_9 z)
      refine s_aload_n 17 dX6_side_16 rfl rfl ?_
      refine s_getR 20 dX6_side_17 rfl fl_X6_27 (fun _ _ _ _ => rfl) (T_X6_tokens hT) sh_75 (Nat.le_of_ble_eq_true rfl) ?_
      refine s_ldcS 22 dX6_side_20 rfl (ks_X6_216) ?_
      refine s_callV0 (M' := M_X10_isWord) (as := [_]) 25 dX6_side_22 rfl cw_X6_82 rfl rfl sh_79 rfl (by decide) (Nat.le_of_ble_eq_true rfl) (Nat.le_of_ble_eq_true rfl) (Nat.le_of_ble_eq_true rfl) (Nat.le_of_ble_eq_true rfl) ⟨rfl, rfl, rfl⟩ ?_
      refine c_X10_isWord2 hT rfl u25 hS.2.2.2.2 ?_
      refine s_ifb_eq 32 28 dX6_side_25 rfl rfl (fun h_25 => by exfalso; exact absurd y h_25) (fun h_25 => ?_)
      refine s_iconst 29 dX6_side_28 rfl ?_
      refine s_goto 33 dX6_side_29 rfl ?_
      refine s_istore_n (ls' := [_, _]) 34 dX6_side_33 rfl (Nat.le_of_ble_eq_true rfl) rfl rfl ?_
      refine s_iload_n 35 dX6_side_34 rfl rfl ?_
      refine s_iconst 36 dX6_side_35 rfl ?_
      refine s_icmp_ne 45 39 dX6_side_36 rfl rfl (by first | omega | exact bI_r _ | exact iI_r _) (by first | omega | exact bI_r _ | exact iI_r _) (fun h_36 => ?_) (fun h_36 => by exfalso; exact absurd h_36 (by decide))
      refine s_aload_n 46 dX6_side_45 rfl rfl ?_
      refine s_getR 49 dX6_side_46 rfl fl_X6_27 (fun _ _ _ _ => rfl) (T_X6_tokens hT) sh_75 (Nat.le_of_ble_eq_true rfl) ?_
      refine s_callV0 (M' := M_X10_move) (as := []) 52 dX6_side_49 rfl cw_X6_58 rfl rfl sh_79 rfl (by decide) (Nat.le_of_ble_eq_true rfl) (Nat.le_of_ble_eq_true rfl) (Nat.le_of_ble_eq_true rfl) (Nat.le_of_ble_eq_true rfl) ⟨rfl, rfl, rfl⟩ ?_
      refine c_X10_move2 hT hS.1 hn hb hS.2.2.2.2 (fun I1 L1 g1 g2 => ?_)
      have hV1 : VC I1 m v := hV.c (by rw [g1.1 75 (by decide)]) (g1.1 78 (by decide))
      refine s_aload_n 53 dX6_side_52 rfl rfl ?_
      refine s_iload_n 54 dX6_side_53 rfl rfl ?_
      refine s_callV0 (M' := M_X6_tell) (as := [_]) 57 dX6_side_54 rfl cw_X6_151 rfl rfl sh_75 rfl (by decide) (Nat.le_of_ble_eq_true rfl) (Nat.le_of_ble_eq_true rfl) (Nat.le_of_ble_eq_true rfl) (Nat.le_of_ble_eq_true rfl) ⟨rfl, rfl, rfl⟩ ?_
      refine c_X6_tell hT hV1.1 hm (by omega) ?_
      refine s_zret dX6_side_57 rfl (by first | omega | exact bI_b _) rfl ?_
      exact h _ _ (((RdF.tm g1).fs (by decide)).fs (by decide)) ((hS.mv hP hW g1 g2).tl hP hW) (fun _ => hV1.tl)
    · have eo : siO bt n (.inr a) = .inl (1, a) := (pick_f z).trans (muW_f y)
      rw [eo, isE_l] at h
      refine s_aload_n 1 dX6_side_0 rfl rfl ?_
      refine s_getR 4 dX6_side_1 rfl fl_X6_27 (fun _ _ _ _ => rfl) (T_X6_tokens hT) sh_75 (Nat.le_of_ble_eq_true rfl) ?_
      refine s_ldcS 6 dX6_side_4 rfl (ks_X6_214) ?_
      refine s_callV0 (M' := M_X10_isWord) (as := [_]) 9 dX6_side_6 rfl cw_X6_82 rfl rfl sh_79 rfl (by decide) (Nat.le_of_ble_eq_true rfl) (Nat.le_of_ble_eq_true rfl) (Nat.le_of_ble_eq_true rfl) (Nat.le_of_ble_eq_true rfl) ⟨rfl, rfl, rfl⟩ ?_
      refine c_X10_isWord2 hT rfl u24 hS.2.2.2.2 ?_
      refine s_ifb_eq 16 12 dX6_side_9 rfl rfl (fun h_9 => ?_) (fun h_9 => by exfalso; exact absurd h_9 z)
      refine s_aload_n 17 dX6_side_16 rfl rfl ?_
      refine s_getR 20 dX6_side_17 rfl fl_X6_27 (fun _ _ _ _ => rfl) (T_X6_tokens hT) sh_75 (Nat.le_of_ble_eq_true rfl) ?_
      refine s_ldcS 22 dX6_side_20 rfl (ks_X6_216) ?_
      refine s_callV0 (M' := M_X10_isWord) (as := [_]) 25 dX6_side_22 rfl cw_X6_82 rfl rfl sh_79 rfl (by decide) (Nat.le_of_ble_eq_true rfl) (Nat.le_of_ble_eq_true rfl) (Nat.le_of_ble_eq_true rfl) (Nat.le_of_ble_eq_true rfl) ⟨rfl, rfl, rfl⟩ ?_
      refine c_X10_isWord2 hT rfl u25 hS.2.2.2.2 ?_
      refine s_ifb_eq 32 28 dX6_side_25 rfl rfl (fun h_25 => ?_) (fun h_25 => by exfalso; exact absurd h_25 y)
      refine s_iconst 33 dX6_side_32 rfl ?_
      refine s_istore_n (ls' := [_, _]) 34 dX6_side_33 rfl (Nat.le_of_ble_eq_true rfl) rfl rfl ?_
      refine s_iload_n 35 dX6_side_34 rfl rfl ?_
      refine s_iconst 36 dX6_side_35 rfl ?_
      refine s_icmp_ne 45 39 dX6_side_36 rfl rfl (by first | omega | exact bI_r _ | exact iI_r _) (by first | omega | exact bI_r _ | exact iI_r _) (fun h_36 => by exfalso; exact absurd rfl h_36) (fun h_36 => ?_)
      refine s_aload_n 40 dX6_side_39 rfl rfl ?_
      refine s_iconst 41 dX6_side_40 rfl ?_
      refine s_callV0 (M' := M_X6_fail) (as := [_]) 44 dX6_side_41 rfl cw_X6_64 rfl rfl sh_75 rfl (by decide) (Nat.le_of_ble_eq_true rfl) (Nat.le_of_ble_eq_true rfl) (Nat.le_of_ble_eq_true rfl) (Nat.le_of_ble_eq_true rfl) ⟨rfl, rfl, rfl⟩ ?_
      refine c_X6_fail hT hS.2.2.2.2.2.2.1 (by decide) ?_
      refine s_zret dX6_side_44 rfl (by first | omega | exact bI_b _) rfl ?_
      exact h _ _ ((RdF.rf.fs (by decide)).fs (by decide)) (RdO.fl hS.1) (fun y => absurd trivial y)
/-- the KIND alone, without the beard -/
noncomputable def kjO (bt : F1) (n a : Int) : PO := pick (isW bt n (wS 38) (.inr a)) (.inr (nxE bt n a)) (pick (isW bt n (wS 39) (.inr a)) (.inr (nxE bt n a)) (pick (isW bt n (wS 40) (.inr a)) (.inr (nxE bt n a)) (muW bt n (wS 41) (.inr a))))
theorem kj_b {bt : F1} {n a : Int} {o : PO} (e : o = .inr a) : (kiK bt n o = 1 → kiO bt n o = nuO bt n 0 99 (kjO bt n a) ∧ kiH bt n o = nuV bt n 0 99 (kjO bt n a)) ∧ (kiK bt n o ≠ 1 → kiO bt n o = kjO bt n a ∧ kiH bt n o = 0) ∧ (isE (kjO bt n a) → kiO bt n o = kjO bt n a) := by
  subst e
  by_cases k1 : isW bt n (wS 38) (.inr a)
  · have e1 : kjO bt n a = .inr (nxE bt n a) := pick_t k1
    have e2 : kiO bt n (.inr a) = nuO bt n 0 99 (.inr (nxE bt n a)) := pick_t k1
    have e3 : kiK bt n (.inr a) = 1 := pick_t k1
    have e4 : kiH bt n (.inr a) = nuV bt n 0 99 (.inr (nxE bt n a)) := pick_t k1
    rw [e1]
    exact ⟨fun _ => ⟨e2, e4⟩, fun z => absurd e3 z, fun z => z.elim⟩
  · have e2 : kiO bt n (.inr a) = kjO bt n a := (show kiO bt n (.inr a) = pick (isW bt n (wS 39) (.inr a)) (.inr (nxE bt n a)) (pick (isW bt n (wS 40) (.inr a)) (.inr (nxE bt n a)) (muW bt n (wS 41) (.inr a))) from pick_f k1).trans (show kjO bt n a = pick (isW bt n (wS 39) (.inr a)) (.inr (nxE bt n a)) (pick (isW bt n (wS 40) (.inr a)) (.inr (nxE bt n a)) (muW bt n (wS 41) (.inr a))) from pick_f k1).symm
    have e4 : kiH bt n (.inr a) = 0 := pick_f k1
    refine ⟨fun z => ?_, fun _ => ⟨e2, e4⟩, fun _ => e2⟩
    exfalso
    have e3 : kiK bt n (.inr a) = pick (isW bt n (wS 39) (.inr a)) 2 (pick (isW bt n (wS 40) (.inr a)) 3 0) := pick_f k1
    by_cases k2 : isW bt n (wS 39) (.inr a)
    · rw [e3, pick_t k2] at z; exact absurd z (by decide)
    · by_cases k3 : isW bt n (wS 40) (.inr a)
      · rw [e3, pick_f k2, pick_t k3] at z; exact absurd z (by decide)
      · rw [e3, pick_f k2, pick_f k3] at z; exact absurd z (by decide)
set_option maxHeartbeats 4000000 in
theorem c_X6_kind {E : ET} {I : MI} {L : ML} {R : MR} {Q : Option AV → MI → ML → MR → Prop} {bt r : F1} {n a m : Int} {v : F1} {P : Nat} {o : PO} (hT : Topo R) (hP : isP P) (hn : 0 ≤ n ∧ n ≤ 900) (hb : ∀ k, 0 ≤ bt k ∧ bt k ≤ 255) (hm : 0 ≤ m ∧ m < 8) (hW : WFp r) (hS : RdK I L bt n P r a) (hV : VC I m v) (eo : kjO bt n a = o) (h : ∀ I' L', RdF P I L I' L' → RdO I' L' bt n P r o → (¬ isE o → VC I' (m + 1) (fun j => if j = m then kiK bt n (.inr a) else v j)) → Q (some (vi (bI (¬ isE o)))) I' L' R) : CT E M_X6_kind 161 yX6_kind [(vr (75))] I L R Q := by
  refine CT_of rfl rfl (fun h => by cases h) (Nat.le_of_ble_eq_true rfl) (fun X => ?_)
  show V X _ z0 0 [some (vr (75)), none] [] I L R _
  subst eo
  obtain ⟨u0, u1, u2, u3, u4, u12, u13, u14, u15, u16, u17, u18, u19, u20, u21, u22, u23, u24, u25, u26, u27⟩ := wR_eq
  obtain ⟨d0, d1, d2, d3, d4, d5, d6⟩ := wS_ne
  by_cases k1 : isW bt n (wS 38) (.inr a)
  · have k4 : ¬ isW bt n (wS 41) (.inr a) := isW_ne k1 d3
    have eO : kjO bt n a = .inr (nxE bt n a) := pick_t k1
    have eK : kiK bt n (.inr a) = 1 := pick_t k1
    rw [eO, eK, isE_r] at h
    refine s_aload_n 1 dX6_kind_0 rfl rfl ?_
    refine s_getR 4 dX6_kind_1 rfl fl_X6_27 (fun _ _ _ _ => rfl) (T_X6_tokens hT) sh_75 (Nat.le_of_ble_eq_true rfl) ?_
    refine s_ldcS 6 dX6_kind_4 rfl (ks_X6_164) ?_
    refine s_callV0 (M' := M_X10_isWord) (as := [_]) 9 dX6_kind_6 rfl cw_X6_82 rfl rfl sh_79 rfl (by decide) (Nat.le_of_ble_eq_true rfl) (Nat.le_of_ble_eq_true rfl) (Nat.le_of_ble_eq_true rfl) (Nat.le_of_ble_eq_true rfl) ⟨rfl, rfl, rfl⟩ ?_
    refine c_X10_isWord2 hT rfl u12 hS.2.2.2.2 ?_
    refine s_ifb_eq 16 12 dX6_kind_9 rfl rfl (fun h_9 => ?_) (fun h_9 => by exfalso; exact absurd h_9 k4)
    refine s_aload_n 17 dX6_kind_16 rfl rfl ?_
    refine s_getR 20 dX6_kind_17 rfl fl_X6_27 (fun _ _ _ _ => rfl) (T_X6_tokens hT) sh_75 (Nat.le_of_ble_eq_true rfl) ?_
    refine s_ldcS 22 dX6_kind_20 rfl (ks_X6_166) ?_
    refine s_callV0 (M' := M_X10_isWord) (as := [_]) 25 dX6_kind_22 rfl cw_X6_82 rfl rfl sh_79 rfl (by decide) (Nat.le_of_ble_eq_true rfl) (Nat.le_of_ble_eq_true rfl) (Nat.le_of_ble_eq_true rfl) (Nat.le_of_ble_eq_true rfl) ⟨rfl, rfl, rfl⟩ ?_
    refine c_X10_isWord2 hT rfl u13 hS.2.2.2.2 ?_
    refine s_ifb_eq 32 28 dX6_kind_25 rfl rfl (fun h_25 => by exfalso; exact absurd k1 h_25) (fun h_25 => ?_)
    refine s_iconst 29 dX6_kind_28 rfl ?_
    refine s_goto 65 dX6_kind_29 rfl ?_
    refine s_istore_n (ls' := [_, _]) 66 dX6_kind_65 rfl (Nat.le_of_ble_eq_true rfl) rfl rfl ?_
    refine s_iload_n 67 dX6_kind_66 rfl rfl ?_
    refine s_iconst 68 dX6_kind_67 rfl ?_
    refine s_icmp_ne 77 71 dX6_kind_68 rfl rfl (by first | omega | exact bI_r _ | exact iI_r _) (by first | omega | exact bI_r _ | exact iI_r _) (fun h_68 => ?_) (fun h_68 => by exfalso; exact absurd h_68 (by decide))
    refine s_aload_n 78 dX6_kind_77 rfl rfl ?_
    refine s_getR 81 dX6_kind_78 rfl fl_X6_27 (fun _ _ _ _ => rfl) (T_X6_tokens hT) sh_75 (Nat.le_of_ble_eq_true rfl) ?_
    refine s_callV0 (M' := M_X10_move) (as := []) 84 dX6_kind_81 rfl cw_X6_58 rfl rfl sh_79 rfl (by decide) (Nat.le_of_ble_eq_true rfl) (Nat.le_of_ble_eq_true rfl) (Nat.le_of_ble_eq_true rfl) (Nat.le_of_ble_eq_true rfl) ⟨rfl, rfl, rfl⟩ ?_
    refine c_X10_move2 hT hS.1 hn hb hS.2.2.2.2 (fun I1 L1 g1 g2 => ?_)
    have hV1 : VC I1 m v := hV.c (by rw [g1.1 75 (by decide)]) (g1.1 78 (by decide))
    refine s_aload_n 85 dX6_kind_84 rfl rfl ?_
    refine s_iload_n 86 dX6_kind_85 rfl rfl ?_
    refine s_callV0 (M' := M_X6_tell) (as := [_]) 89 dX6_kind_86 rfl cw_X6_151 rfl rfl sh_75 rfl (by decide) (Nat.le_of_ble_eq_true rfl) (Nat.le_of_ble_eq_true rfl) (Nat.le_of_ble_eq_true rfl) (Nat.le_of_ble_eq_true rfl) ⟨rfl, rfl, rfl⟩ ?_
    refine c_X6_tell hT hV1.1 hm (by omega) ?_
    refine s_zret dX6_kind_89 rfl (by first | omega | exact bI_b _) rfl ?_
    exact h _ _ (((RdF.tm g1).fs (by decide)).fs (by decide)) ((hS.mv hP hW g1 g2).tl hP hW) (fun _ => hV1.tl)
  · by_cases k2 : isW bt n (wS 39) (.inr a)
    · have k4 : ¬ isW bt n (wS 41) (.inr a) := isW_ne k2 d5
      have eO : kjO bt n a = .inr (nxE bt n a) := (pick_f k1).trans (pick_t k2)
      have eK : kiK bt n (.inr a) = 2 := (pick_f k1).trans (pick_t k2)
      rw [eO, eK, isE_r] at h
      refine s_aload_n 1 dX6_kind_0 rfl rfl ?_
      refine s_getR 4 dX6_kind_1 rfl fl_X6_27 (fun _ _ _ _ => rfl) (T_X6_tokens hT) sh_75 (Nat.le_of_ble_eq_true rfl) ?_
      refine s_ldcS 6 dX6_kind_4 rfl (ks_X6_164) ?_
      refine s_callV0 (M' := M_X10_isWord) (as := [_]) 9 dX6_kind_6 rfl cw_X6_82 rfl rfl sh_79 rfl (by decide) (Nat.le_of_ble_eq_true rfl) (Nat.le_of_ble_eq_true rfl) (Nat.le_of_ble_eq_true rfl) (Nat.le_of_ble_eq_true rfl) ⟨rfl, rfl, rfl⟩ ?_
      refine c_X10_isWord2 hT rfl u12 hS.2.2.2.2 ?_
      refine s_ifb_eq 16 12 dX6_kind_9 rfl rfl (fun h_9 => ?_) (fun h_9 => by exfalso; exact absurd h_9 k4)
      refine s_aload_n 17 dX6_kind_16 rfl rfl ?_
      refine s_getR 20 dX6_kind_17 rfl fl_X6_27 (fun _ _ _ _ => rfl) (T_X6_tokens hT) sh_75 (Nat.le_of_ble_eq_true rfl) ?_
      refine s_ldcS 22 dX6_kind_20 rfl (ks_X6_166) ?_
      refine s_callV0 (M' := M_X10_isWord) (as := [_]) 25 dX6_kind_22 rfl cw_X6_82 rfl rfl sh_79 rfl (by decide) (Nat.le_of_ble_eq_true rfl) (Nat.le_of_ble_eq_true rfl) (Nat.le_of_ble_eq_true rfl) (Nat.le_of_ble_eq_true rfl) ⟨rfl, rfl, rfl⟩ ?_
      refine c_X10_isWord2 hT rfl u13 hS.2.2.2.2 ?_
      refine s_ifb_eq 32 28 dX6_kind_25 rfl rfl (fun h_25 => ?_) (fun h_25 => by exfalso; exact absurd h_25 k1)
      refine s_aload_n 33 dX6_kind_32 rfl rfl ?_
      refine s_getR 36 dX6_kind_33 rfl fl_X6_27 (fun _ _ _ _ => rfl) (T_X6_tokens hT) sh_75 (Nat.le_of_ble_eq_true rfl) ?_
      refine s_ldcS 38 dX6_kind_36 rfl (ks_X6_168) ?_
      refine s_callV0 (M' := M_X10_isWord) (as := [_]) 41 dX6_kind_38 rfl cw_X6_82 rfl rfl sh_79 rfl (by decide) (Nat.le_of_ble_eq_true rfl) (Nat.le_of_ble_eq_true rfl) (Nat.le_of_ble_eq_true rfl) (Nat.le_of_ble_eq_true rfl) ⟨rfl, rfl, rfl⟩ ?_
      refine c_X10_isWord2 hT rfl u14 hS.2.2.2.2 ?_
      refine s_ifb_eq 48 44 dX6_kind_41 rfl rfl (fun h_41 => by exfalso; exact absurd k2 h_41) (fun h_41 => ?_)
      refine s_iconst 45 dX6_kind_44 rfl ?_
      refine s_goto 65 dX6_kind_45 rfl ?_
      refine s_istore_n (ls' := [_, _]) 66 dX6_kind_65 rfl (Nat.le_of_ble_eq_true rfl) rfl rfl ?_
      refine s_iload_n 67 dX6_kind_66 rfl rfl ?_
      refine s_iconst 68 dX6_kind_67 rfl ?_
      refine s_icmp_ne 77 71 dX6_kind_68 rfl rfl (by first | omega | exact bI_r _ | exact iI_r _) (by first | omega | exact bI_r _ | exact iI_r _) (fun h_68 => ?_) (fun h_68 => by exfalso; exact absurd h_68 (by decide))
      refine s_aload_n 78 dX6_kind_77 rfl rfl ?_
      refine s_getR 81 dX6_kind_78 rfl fl_X6_27 (fun _ _ _ _ => rfl) (T_X6_tokens hT) sh_75 (Nat.le_of_ble_eq_true rfl) ?_
      refine s_callV0 (M' := M_X10_move) (as := []) 84 dX6_kind_81 rfl cw_X6_58 rfl rfl sh_79 rfl (by decide) (Nat.le_of_ble_eq_true rfl) (Nat.le_of_ble_eq_true rfl) (Nat.le_of_ble_eq_true rfl) (Nat.le_of_ble_eq_true rfl) ⟨rfl, rfl, rfl⟩ ?_
      refine c_X10_move2 hT hS.1 hn hb hS.2.2.2.2 (fun I1 L1 g1 g2 => ?_)
      have hV1 : VC I1 m v := hV.c (by rw [g1.1 75 (by decide)]) (g1.1 78 (by decide))
      refine s_aload_n 85 dX6_kind_84 rfl rfl ?_
      refine s_iload_n 86 dX6_kind_85 rfl rfl ?_
      refine s_callV0 (M' := M_X6_tell) (as := [_]) 89 dX6_kind_86 rfl cw_X6_151 rfl rfl sh_75 rfl (by decide) (Nat.le_of_ble_eq_true rfl) (Nat.le_of_ble_eq_true rfl) (Nat.le_of_ble_eq_true rfl) (Nat.le_of_ble_eq_true rfl) ⟨rfl, rfl, rfl⟩ ?_
      refine c_X6_tell hT hV1.1 hm (by omega) ?_
      refine s_zret dX6_kind_89 rfl (by first | omega | exact bI_b _) rfl ?_
      exact h _ _ (((RdF.tm g1).fs (by decide)).fs (by decide)) ((hS.mv hP hW g1 g2).tl hP hW) (fun _ => hV1.tl)
    · by_cases k3 : isW bt n (wS 40) (.inr a)
      · have k4 : ¬ isW bt n (wS 41) (.inr a) := isW_ne k3 d6
        have eO : kjO bt n a = .inr (nxE bt n a) := (pick_f k1).trans ((pick_f k2).trans (pick_t k3))
        have eK : kiK bt n (.inr a) = 3 := (pick_f k1).trans ((pick_f k2).trans (pick_t k3))
        rw [eO, eK, isE_r] at h
        refine s_aload_n 1 dX6_kind_0 rfl rfl ?_
        refine s_getR 4 dX6_kind_1 rfl fl_X6_27 (fun _ _ _ _ => rfl) (T_X6_tokens hT) sh_75 (Nat.le_of_ble_eq_true rfl) ?_
        refine s_ldcS 6 dX6_kind_4 rfl (ks_X6_164) ?_
        refine s_callV0 (M' := M_X10_isWord) (as := [_]) 9 dX6_kind_6 rfl cw_X6_82 rfl rfl sh_79 rfl (by decide) (Nat.le_of_ble_eq_true rfl) (Nat.le_of_ble_eq_true rfl) (Nat.le_of_ble_eq_true rfl) (Nat.le_of_ble_eq_true rfl) ⟨rfl, rfl, rfl⟩ ?_
        refine c_X10_isWord2 hT rfl u12 hS.2.2.2.2 ?_
        refine s_ifb_eq 16 12 dX6_kind_9 rfl rfl (fun h_9 => ?_) (fun h_9 => by exfalso; exact absurd h_9 k4)
        refine s_aload_n 17 dX6_kind_16 rfl rfl ?_
        refine s_getR 20 dX6_kind_17 rfl fl_X6_27 (fun _ _ _ _ => rfl) (T_X6_tokens hT) sh_75 (Nat.le_of_ble_eq_true rfl) ?_
        refine s_ldcS 22 dX6_kind_20 rfl (ks_X6_166) ?_
        refine s_callV0 (M' := M_X10_isWord) (as := [_]) 25 dX6_kind_22 rfl cw_X6_82 rfl rfl sh_79 rfl (by decide) (Nat.le_of_ble_eq_true rfl) (Nat.le_of_ble_eq_true rfl) (Nat.le_of_ble_eq_true rfl) (Nat.le_of_ble_eq_true rfl) ⟨rfl, rfl, rfl⟩ ?_
        refine c_X10_isWord2 hT rfl u13 hS.2.2.2.2 ?_
        refine s_ifb_eq 32 28 dX6_kind_25 rfl rfl (fun h_25 => ?_) (fun h_25 => by exfalso; exact absurd h_25 k1)
        refine s_aload_n 33 dX6_kind_32 rfl rfl ?_
        refine s_getR 36 dX6_kind_33 rfl fl_X6_27 (fun _ _ _ _ => rfl) (T_X6_tokens hT) sh_75 (Nat.le_of_ble_eq_true rfl) ?_
        refine s_ldcS 38 dX6_kind_36 rfl (ks_X6_168) ?_
        refine s_callV0 (M' := M_X10_isWord) (as := [_]) 41 dX6_kind_38 rfl cw_X6_82 rfl rfl sh_79 rfl (by decide) (Nat.le_of_ble_eq_true rfl) (Nat.le_of_ble_eq_true rfl) (Nat.le_of_ble_eq_true rfl) (Nat.le_of_ble_eq_true rfl) ⟨rfl, rfl, rfl⟩ ?_
        refine c_X10_isWord2 hT rfl u14 hS.2.2.2.2 ?_
        refine s_ifb_eq 48 44 dX6_kind_41 rfl rfl (fun h_41 => ?_) (fun h_41 => by exfalso; exact absurd h_41 k2)
        refine s_aload_n 49 dX6_kind_48 rfl rfl ?_
        refine s_getR 52 dX6_kind_49 rfl fl_X6_27 (fun _ _ _ _ => rfl) (T_X6_tokens hT) sh_75 (Nat.le_of_ble_eq_true rfl) ?_
        refine s_ldcS 54 dX6_kind_52 rfl (ks_X6_170) ?_
        refine s_callV0 (M' := M_X10_isWord) (as := [_]) 57 dX6_kind_54 rfl cw_X6_82 rfl rfl sh_79 rfl (by decide) (Nat.le_of_ble_eq_true rfl) (Nat.le_of_ble_eq_true rfl) (Nat.le_of_ble_eq_true rfl) (Nat.le_of_ble_eq_true rfl) ⟨rfl, rfl, rfl⟩ ?_
        refine c_X10_isWord2 hT rfl u15 hS.2.2.2.2 ?_
        refine s_ifb_eq 64 60 dX6_kind_57 rfl rfl (fun h_57 => by exfalso; exact absurd k3 h_57) (fun h_57 => ?_)
        refine s_iconst 61 dX6_kind_60 rfl ?_
        refine s_goto 65 dX6_kind_61 rfl ?_
        refine s_istore_n (ls' := [_, _]) 66 dX6_kind_65 rfl (Nat.le_of_ble_eq_true rfl) rfl rfl ?_
        refine s_iload_n 67 dX6_kind_66 rfl rfl ?_
        refine s_iconst 68 dX6_kind_67 rfl ?_
        refine s_icmp_ne 77 71 dX6_kind_68 rfl rfl (by first | omega | exact bI_r _ | exact iI_r _) (by first | omega | exact bI_r _ | exact iI_r _) (fun h_68 => ?_) (fun h_68 => by exfalso; exact absurd h_68 (by decide))
        refine s_aload_n 78 dX6_kind_77 rfl rfl ?_
        refine s_getR 81 dX6_kind_78 rfl fl_X6_27 (fun _ _ _ _ => rfl) (T_X6_tokens hT) sh_75 (Nat.le_of_ble_eq_true rfl) ?_
        refine s_callV0 (M' := M_X10_move) (as := []) 84 dX6_kind_81 rfl cw_X6_58 rfl rfl sh_79 rfl (by decide) (Nat.le_of_ble_eq_true rfl) (Nat.le_of_ble_eq_true rfl) (Nat.le_of_ble_eq_true rfl) (Nat.le_of_ble_eq_true rfl) ⟨rfl, rfl, rfl⟩ ?_
        refine c_X10_move2 hT hS.1 hn hb hS.2.2.2.2 (fun I1 L1 g1 g2 => ?_)
        have hV1 : VC I1 m v := hV.c (by rw [g1.1 75 (by decide)]) (g1.1 78 (by decide))
        refine s_aload_n 85 dX6_kind_84 rfl rfl ?_
        refine s_iload_n 86 dX6_kind_85 rfl rfl ?_
        refine s_callV0 (M' := M_X6_tell) (as := [_]) 89 dX6_kind_86 rfl cw_X6_151 rfl rfl sh_75 rfl (by decide) (Nat.le_of_ble_eq_true rfl) (Nat.le_of_ble_eq_true rfl) (Nat.le_of_ble_eq_true rfl) (Nat.le_of_ble_eq_true rfl) ⟨rfl, rfl, rfl⟩ ?_
        refine c_X6_tell hT hV1.1 hm (by omega) ?_
        refine s_zret dX6_kind_89 rfl (by first | omega | exact bI_b _) rfl ?_
        exact h _ _ (((RdF.tm g1).fs (by decide)).fs (by decide)) ((hS.mv hP hW g1 g2).tl hP hW) (fun _ => hV1.tl)
      · have eK : kiK bt n (.inr a) = 0 := (pick_f k1).trans ((pick_f k2).trans (pick_f k3))
        by_cases k4 : isW bt n (wS 41) (.inr a)
        · have eO : kjO bt n a = .inr (nxE bt n a) := (pick_f k1).trans ((pick_f k2).trans ((pick_f k3).trans (muW_t k4)))
          rw [eO, eK, isE_r] at h
          refine s_aload_n 1 dX6_kind_0 rfl rfl ?_
          refine s_getR 4 dX6_kind_1 rfl fl_X6_27 (fun _ _ _ _ => rfl) (T_X6_tokens hT) sh_75 (Nat.le_of_ble_eq_true rfl) ?_
          refine s_ldcS 6 dX6_kind_4 rfl (ks_X6_164) ?_
          refine s_callV0 (M' := M_X10_isWord) (as := [_]) 9 dX6_kind_6 rfl cw_X6_82 rfl rfl sh_79 rfl (by decide) (Nat.le_of_ble_eq_true rfl) (Nat.le_of_ble_eq_true rfl) (Nat.le_of_ble_eq_true rfl) (Nat.le_of_ble_eq_true rfl) ⟨rfl, rfl, rfl⟩ ?_
          refine c_X10_isWord2 hT rfl u12 hS.2.2.2.2 ?_
          refine s_ifb_eq 16 12 dX6_kind_9 rfl rfl (fun h_9 => by exfalso; exact absurd k4 h_9) (fun h_9 => ?_)
          refine s_iconst 13 dX6_kind_12 rfl ?_
          refine s_goto 65 dX6_kind_13 rfl ?_
          refine s_istore_n (ls' := [_, _]) 66 dX6_kind_65 rfl (Nat.le_of_ble_eq_true rfl) rfl rfl ?_
          refine s_iload_n 67 dX6_kind_66 rfl rfl ?_
          refine s_iconst 68 dX6_kind_67 rfl ?_
          refine s_icmp_ne 77 71 dX6_kind_68 rfl rfl (by first | omega | exact bI_r _ | exact iI_r _) (by first | omega | exact bI_r _ | exact iI_r _) (fun h_68 => ?_) (fun h_68 => by exfalso; exact absurd h_68 (by decide))
          refine s_aload_n 78 dX6_kind_77 rfl rfl ?_
          refine s_getR 81 dX6_kind_78 rfl fl_X6_27 (fun _ _ _ _ => rfl) (T_X6_tokens hT) sh_75 (Nat.le_of_ble_eq_true rfl) ?_
          refine s_callV0 (M' := M_X10_move) (as := []) 84 dX6_kind_81 rfl cw_X6_58 rfl rfl sh_79 rfl (by decide) (Nat.le_of_ble_eq_true rfl) (Nat.le_of_ble_eq_true rfl) (Nat.le_of_ble_eq_true rfl) (Nat.le_of_ble_eq_true rfl) ⟨rfl, rfl, rfl⟩ ?_
          refine c_X10_move2 hT hS.1 hn hb hS.2.2.2.2 (fun I1 L1 g1 g2 => ?_)
          have hV1 : VC I1 m v := hV.c (by rw [g1.1 75 (by decide)]) (g1.1 78 (by decide))
          refine s_aload_n 85 dX6_kind_84 rfl rfl ?_
          refine s_iload_n 86 dX6_kind_85 rfl rfl ?_
          refine s_callV0 (M' := M_X6_tell) (as := [_]) 89 dX6_kind_86 rfl cw_X6_151 rfl rfl sh_75 rfl (by decide) (Nat.le_of_ble_eq_true rfl) (Nat.le_of_ble_eq_true rfl) (Nat.le_of_ble_eq_true rfl) (Nat.le_of_ble_eq_true rfl) ⟨rfl, rfl, rfl⟩ ?_
          refine c_X6_tell hT hV1.1 hm (by omega) ?_
          refine s_zret dX6_kind_89 rfl (by first | omega | exact bI_b _) rfl ?_
          exact h _ _ (((RdF.tm g1).fs (by decide)).fs (by decide)) ((hS.mv hP hW g1 g2).tl hP hW) (fun _ => hV1.tl)
        · have eO : kjO bt n a = .inl (1, a) := (pick_f k1).trans ((pick_f k2).trans ((pick_f k3).trans (muW_f k4)))
          rw [eO, isE_l] at h
          refine s_aload_n 1 dX6_kind_0 rfl rfl ?_
          refine s_getR 4 dX6_kind_1 rfl fl_X6_27 (fun _ _ _ _ => rfl) (T_X6_tokens hT) sh_75 (Nat.le_of_ble_eq_true rfl) ?_
          refine s_ldcS 6 dX6_kind_4 rfl (ks_X6_164) ?_
          refine s_callV0 (M' := M_X10_isWord) (as := [_]) 9 dX6_kind_6 rfl cw_X6_82 rfl rfl sh_79 rfl (by decide) (Nat.le_of_ble_eq_true rfl) (Nat.le_of_ble_eq_true rfl) (Nat.le_of_ble_eq_true rfl) (Nat.le_of_ble_eq_true rfl) ⟨rfl, rfl, rfl⟩ ?_
          refine c_X10_isWord2 hT rfl u12 hS.2.2.2.2 ?_
          refine s_ifb_eq 16 12 dX6_kind_9 rfl rfl (fun h_9 => ?_) (fun h_9 => by exfalso; exact absurd h_9 k4)
          refine s_aload_n 17 dX6_kind_16 rfl rfl ?_
          refine s_getR 20 dX6_kind_17 rfl fl_X6_27 (fun _ _ _ _ => rfl) (T_X6_tokens hT) sh_75 (Nat.le_of_ble_eq_true rfl) ?_
          refine s_ldcS 22 dX6_kind_20 rfl (ks_X6_166) ?_
          refine s_callV0 (M' := M_X10_isWord) (as := [_]) 25 dX6_kind_22 rfl cw_X6_82 rfl rfl sh_79 rfl (by decide) (Nat.le_of_ble_eq_true rfl) (Nat.le_of_ble_eq_true rfl) (Nat.le_of_ble_eq_true rfl) (Nat.le_of_ble_eq_true rfl) ⟨rfl, rfl, rfl⟩ ?_
          refine c_X10_isWord2 hT rfl u13 hS.2.2.2.2 ?_
          refine s_ifb_eq 32 28 dX6_kind_25 rfl rfl (fun h_25 => ?_) (fun h_25 => by exfalso; exact absurd h_25 k1)
          refine s_aload_n 33 dX6_kind_32 rfl rfl ?_
          refine s_getR 36 dX6_kind_33 rfl fl_X6_27 (fun _ _ _ _ => rfl) (T_X6_tokens hT) sh_75 (Nat.le_of_ble_eq_true rfl) ?_
          refine s_ldcS 38 dX6_kind_36 rfl (ks_X6_168) ?_
          refine s_callV0 (M' := M_X10_isWord) (as := [_]) 41 dX6_kind_38 rfl cw_X6_82 rfl rfl sh_79 rfl (by decide) (Nat.le_of_ble_eq_true rfl) (Nat.le_of_ble_eq_true rfl) (Nat.le_of_ble_eq_true rfl) (Nat.le_of_ble_eq_true rfl) ⟨rfl, rfl, rfl⟩ ?_
          refine c_X10_isWord2 hT rfl u14 hS.2.2.2.2 ?_
          refine s_ifb_eq 48 44 dX6_kind_41 rfl rfl (fun h_41 => ?_) (fun h_41 => by exfalso; exact absurd h_41 k2)
          refine s_aload_n 49 dX6_kind_48 rfl rfl ?_
          refine s_getR 52 dX6_kind_49 rfl fl_X6_27 (fun _ _ _ _ => rfl) (T_X6_tokens hT) sh_75 (Nat.le_of_ble_eq_true rfl) ?_
          refine s_ldcS 54 dX6_kind_52 rfl (ks_X6_170) ?_
          refine s_callV0 (M' := M_X10_isWord) (as := [_]) 57 dX6_kind_54 rfl cw_X6_82 rfl rfl sh_79 rfl (by decide) (Nat.le_of_ble_eq_true rfl) (Nat.le_of_ble_eq_true rfl) (Nat.le_of_ble_eq_true rfl) (Nat.le_of_ble_eq_true rfl) ⟨rfl, rfl, rfl⟩ ?_
          refine c_X10_isWord2 hT rfl u15 hS.2.2.2.2 ?_
          refine s_ifb_eq 64 60 dX6_kind_57 rfl rfl (fun h_57 => ?_) (fun h_57 => by exfalso; exact absurd h_57 k3)
          refine s_iconst 65 dX6_kind_64 rfl ?_
          refine s_istore_n (ls' := [_, _]) 66 dX6_kind_65 rfl (Nat.le_of_ble_eq_true rfl) rfl rfl ?_
          refine s_iload_n 67 dX6_kind_66 rfl rfl ?_
          refine s_iconst 68 dX6_kind_67 rfl ?_
          refine s_icmp_ne 77 71 dX6_kind_68 rfl rfl (by first | omega | exact bI_r _ | exact iI_r _) (by first | omega | exact bI_r _ | exact iI_r _) (fun h_68 => by exfalso; exact absurd rfl h_68) (fun h_68 => ?_)
          refine s_aload_n 72 dX6_kind_71 rfl rfl ?_
          refine s_iconst 73 dX6_kind_72 rfl ?_
          refine s_callV0 (M' := M_X6_fail) (as := [_]) 76 dX6_kind_73 rfl cw_X6_64 rfl rfl sh_75 rfl (by decide) (Nat.le_of_ble_eq_true rfl) (Nat.le_of_ble_eq_true rfl) (Nat.le_of_ble_eq_true rfl) (Nat.le_of_ble_eq_true rfl) ⟨rfl, rfl, rfl⟩ ?_
          refine c_X6_fail hT hS.2.2.2.2.2.2.1 (by decide) ?_
          refine s_zret dX6_kind_76 rfl (by first | omega | exact bI_b _) rfl ?_
          exact h _ _ ((RdF.rf.fs (by decide)).fs (by decide)) (RdO.fl hS.1) (fun y => absurd trivial y)
/-! the first of so many names that is this one -/
set_option maxHeartbeats 4000000 in
theorem c_X6_find {E : ET} {I : MI} {L : ML} {R : MR} {Q : Option AV → MI → ML → MR → Prop} {r : F1} {w : List Int} {c N : Nat} {cnt off : Int} (hT : Topo R) (hs : sh c = (21, N)) (hc1 : c < 161) (hc : 0 ≤ cnt ∧ cnt ≤ N) (hN : N ≤ 7) (ho : 0 ≤ off ∧ off + N ≤ 12) (hW : WFp r) (hL : L 79 5 = pkW w) (hw : 1 ≤ w.length ∧ w.length ≤ 8 ∧ ∀ k, 0 ≤ k → k < (w.length : Int) → 97 ≤ vL w k ∧ vL w k ≤ 122) (hK : ∀ i, 0 ≤ i → i < cnt → L c i = pkW (nmL r (off + i))) (h : ∀ x, (x = -1 ∧ ∀ i, 0 ≤ i → i < cnt → ¬ hasN r w (off + i)) ∨ (0 ≤ x ∧ x < cnt ∧ hasN r w (off + x)) → Q (some (vi x)) I L R) : CT E M_X6_find 161 yX6_find [(vr (75)), (vr (c)), (vi (cnt))] I L R Q := by
  refine CT_of rfl rfl (fun h => by cases h) (Nat.le_of_ble_eq_true rfl) (fun X => ?_)
  show V X _ z0 0 [some (vr (75)), some (vr (c)), some (vi (cnt)), none] [] I L R _
  have eq : ∀ i, 0 ≤ i → i < cnt → (L c i = L 79 5 ↔ hasN r w (off + i)) := fun i i1 i2 => by
    have h0 := (hW.2.2.2.2.2.2.2.1 (off + i) (by omega) (by omega)).1
    rw [hK i i1 i2, hL, hasN_nm hw.1 h0]
    exact pkW_inj (nmL_ok hW (by omega)) hw.2
  have loop : ∀ (f : Nat) (i : Int), cnt - i < (f : Int) → 0 ≤ i → i ≤ cnt → (∀ j, 0 ≤ j → j < i → ¬ hasN r w (off + j)) → V X M_X6_find z0 2 [some (vr (75)), some (vr (c)), some (vi (cnt)), some (vi (i))] [] (I) L R (RT X M_X6_find Q) := by
    intro f
    induction f with
    | zero => intro i h1 h2 h3; omega
    | succ f ih =>
      intro i h1 h2 h3 h4
      refine s_iload_n 3 dX6_find_2 rfl rfl ?_
      refine s_iload_n 4 dX6_find_3 rfl rfl ?_
      refine s_icmp_ge 35 7 dX6_find_4 rfl rfl (by first | omega | exact bI_r _ | exact iI_r _) (by first | omega | exact bI_r _ | exact iI_r _) (fun h_4 => ?_) (fun h_4 => ?_)
      · skip
        refine s_iconst 36 dX6_find_35 rfl ?_
        refine s_iret dX6_find_36 rfl rfl ?_
        exact h (-1) (Or.inl ⟨rfl, fun j j1 j2 => h4 j j1 (by omega)⟩)
      refine s_iload_n 8 dX6_find_7 rfl rfl ?_
      refine s_aload_n 9 dX6_find_8 rfl rfl ?_
      refine s_alen21 10 dX6_find_9 rfl (by assumption) (by assumption) ?_
      refine s_icmp_ge 35 13 dX6_find_10 rfl rfl (by first | omega | exact bI_r _ | exact iI_r _) (by first | omega | exact bI_r _ | exact iI_r _) (fun h_10 => by exfalso; omega) (fun h_10 => ?_)
      refine s_aload_n 14 dX6_find_13 rfl rfl ?_
      refine s_iload_n 15 dX6_find_14 rfl rfl ?_
      refine s_lald 16 dX6_find_15 rfl (by assumption) (by assumption) (by omega) (by omega) ?_
      refine s_aload_n 17 dX6_find_16 rfl rfl ?_
      refine s_getR 20 dX6_find_17 rfl fl_X6_27 (fun _ _ _ _ => rfl) (T_X6_tokens hT) sh_75 (Nat.le_of_ble_eq_true rfl) ?_
      refine s_getL 23 dX6_find_20 rfl fl_X6_141 (fun _ _ _ _ => rfl) sh_79 (Nat.le_of_ble_eq_true rfl) ?_
      refine s_lcmp 24 dX6_find_23 rfl ?_
      refine s_if_ne 29 27 dX6_find_24 rfl rfl (iI_r _) (fun h_24 => ?_) (fun h_24 => ?_)
      · skip
        refine s_iinc (ls' := [_, _, _, _]) 32 dX6_find_29 rfl rfl (Nat.le_of_ble_eq_true rfl) rfl rfl ?_
        refine s_goto 2 dX6_find_32 rfl ?_
        refine ih (i + 1) (by omega) (by omega) (by omega) (fun j j1 j2 => ?_)
        by_cases e : j = i
        · rw [e]; exact fun z => h_24 (cmp_0.mpr ((eq i h2 (by omega)).mpr z))
        · exact h4 j j1 (by omega)
      refine s_iload_n 28 dX6_find_27 rfl rfl ?_
      refine s_iret dX6_find_28 rfl rfl ?_
      exact h i (Or.inr ⟨h2, by omega, (eq i h2 (by omega)).mp (cmp_0.mp h_24)⟩)
  refine s_iconst 1 dX6_find_0 rfl ?_
  refine s_istore_n (ls' := [_, _, _, _]) 2 dX6_find_1 rfl (Nat.le_of_ble_eq_true rfl) rfl rfl ?_
  exact loop (cnt + 1).toNat 0 (by omega) (by omega) (by omega) (fun j j1 j2 => by omega)
