/-! the class's Reader: a name told, a name used -/
theorem hasN_ix {r : F1} {w : List Int} {j : Int} (hW : WFp r) (hj : 0 ≤ j ∧ j < 12) (h : hasN r w j) : nIx r j := ((hW.2.2.2.2.2.2.2.1 j hj.1 hj.2).2.2).mp h.1
theorem fi_none {r : F1} {w : List Int} (hW : WFp r) (h1 : ∀ i, 0 ≤ i → i < r 4 → ¬ hasN r w (0 + i)) (h2 : ∀ i, 0 ≤ i → i < r 5 → ¬ hasN r w (7 + i)) : fiF r w = -1 := by
  rcases fiF_v r w with ⟨a, -⟩ | ⟨a, b, c, -⟩
  · exact a
  · have := hasN_ix hW ⟨a, b⟩ c
    unfold nIx at this
    rcases this with ⟨u, v⟩ | ⟨u, v⟩
    · exact absurd c (by have := h1 _ a v; rw [show 0 + fiF r w = fiF r w by omega] at this; exact this)
    · exact absurd c (by have := h2 (fiF r w - 7) (by omega) v; rw [show 7 + (fiF r w - 7) = fiF r w by omega] at this; exact this)
theorem fi_at {r : F1} {w : List Int} (hW : WFp r) {j : Int} (hj : 0 ≤ j ∧ j < 12) (h : hasN r w j) : fiF r w = j := by
  rcases fiF_v r w with ⟨a, b⟩ | ⟨a, b, c, -⟩
  · exact absurd h (b j hj.1 hj.2)
  · exact hW.2.2.2.2.2.2.2.2.1 _ _ w a b hj.1 hj.2 c h
set_option maxHeartbeats 4000000 in
theorem c_X6_newName {E : ET} {I : MI} {L : ML} {R : MR} {Q : Option AV → MI → ML → MR → Prop} {bt r : F1} {n a m : Int} {v : F1} {P : Nat} {o : PO} (hT : Topo R) (hP : isP P) (hRP : R 75 5 = some P) (hn : 0 ≤ n ∧ n ≤ 900) (hb : ∀ k, 0 ≤ bt k ∧ bt k ≤ 255) (hW : WFp r) (hS : RdK I L bt n P r a) (hV : VC I m v) (eo : nnO bt n r (.inr a) = o) (h : ∀ I' L', RdF P I L I' L' → RdO I' L' bt n P r o → (¬ isE o → VC I' m v) → Q (some (vi (bI (¬ isE o)))) I' L' R) : CT E M_X6_newName 161 yX6_newName [(vr (75))] I L R Q := by
  refine CT_of rfl rfl (fun h => by cases h) (Nat.le_of_ble_eq_true rfl) (fun X => ?_)
  show V X _ z0 0 [some (vr (75))] [] I L R _
  subst eo
  have hd := hW.1
  unfold wHd at hd
  have e3 := hS.2.1.1.2.2.2.1
  have e4 := hS.2.1.1.2.2.2.2.1
  have eT := hS.2.2.2.2.2.2.1
  by_cases hm : nmP bt n a
  · have hw := wdE_w hm.1
    have hL := hS.2.2.2.2.2.2.2.2.2.1 hm.1
    have hK1 : ∀ i, 0 ≤ i → i < r 4 → L 76 i = pkW (nmL r (0 + i)) := fun i i1 i2 => by rw [show 0 + i = i by omega]; exact hS.2.2.1.1 i i1 i2
    have hK2 := hS.2.2.1.2
    by_cases hf : fiF r (wdE bt n a) < 0
    · have eo : nnO bt n r (.inr a) = .inr (nxE bt n a) := (pick_t hm).trans (pick_t hf)
      rw [eo, isE_r] at h
      refine s_aload_n 1 dX6_newName_0 rfl rfl ?_
      refine s_getR 4 dX6_newName_1 rfl fl_X6_27 (fun _ _ _ _ => rfl) (T_X6_tokens hT) sh_75 (Nat.le_of_ble_eq_true rfl) ?_
      refine s_callV0 (M' := M_X10_isName) (as := []) 7 dX6_newName_4 rfl cw_X6_183 rfl rfl sh_79 rfl (by decide) (Nat.le_of_ble_eq_true rfl) (Nat.le_of_ble_eq_true rfl) (Nat.le_of_ble_eq_true rfl) (Nat.le_of_ble_eq_true rfl) ⟨rfl, rfl, rfl⟩ ?_
      refine c_X10_isName hT hS.2.2.2.2 ?_
      refine s_ifb_ne 16 10 dX6_newName_7 rfl rfl (fun h_7 => ?_) (fun h_7 => by exfalso; exact absurd hm h_7)
      refine s_aload_n 17 dX6_newName_16 rfl rfl ?_
      refine s_aload_n 18 dX6_newName_17 rfl rfl ?_
      refine s_getR 21 dX6_newName_18 rfl fl_X6_9 (fun _ _ _ _ => rfl) (T_X6_partNames hT) sh_75 (Nat.le_of_ble_eq_true rfl) ?_
      refine s_aload_n 22 dX6_newName_21 rfl rfl ?_
      refine s_getR 25 dX6_newName_22 rfl fl_X6_31 (fun _ _ _ _ => rfl) (by assumption) sh_75 (Nat.le_of_ble_eq_true rfl) ?_
      refine s_getI 28 dX6_newName_25 rfl fl_X6_71 (fun _ _ _ _ => rfl) (isP_sh (by assumption)) (isP_lt (by assumption)) (fun r_25 => ?_)
      rw [e3]
      refine s_callV0 (M' := M_X6_find) (as := [_, _]) 31 dX6_newName_28 rfl cw_X6_186 rfl rfl sh_75 rfl (by decide) (Nat.le_of_ble_eq_true rfl) (Nat.le_of_ble_eq_true rfl) (Nat.le_of_ble_eq_true rfl) (Nat.le_of_ble_eq_true rfl) ⟨rfl, rfl, rfl⟩ ?_
      refine c_X6_find (r := r) (w := wdE bt n a) hT sh_76 (by decide) ⟨by omega, by omega⟩ (by decide) (off := 0) ⟨by omega, by omega⟩ hW hL hw hK1 (fun x hx => ?_)
      have hx9 : x = -1 := hx.elim (fun z => z.1) (fun z => by have := fi_at hW ⟨by omega, by omega⟩ z.2.2; omega)
      refine s_iconst 32 dX6_newName_31 rfl ?_
      refine s_icmp_ne 54 35 dX6_newName_32 rfl rfl (by first | omega | exact bI_r _ | exact iI_r _) (by first | omega | exact bI_r _ | exact iI_r _) (fun h_32 => by exfalso; omega) (fun h_32 => ?_)
      refine s_aload_n 36 dX6_newName_35 rfl rfl ?_
      refine s_aload_n 37 dX6_newName_36 rfl rfl ?_
      refine s_getR 40 dX6_newName_37 rfl fl_X6_15 (fun _ _ _ _ => rfl) (T_X6_sceneNames hT) sh_75 (Nat.le_of_ble_eq_true rfl) ?_
      refine s_aload_n 41 dX6_newName_40 rfl rfl ?_
      refine s_getR 44 dX6_newName_41 rfl fl_X6_31 (fun _ _ _ _ => rfl) (by assumption) sh_75 (Nat.le_of_ble_eq_true rfl) ?_
      refine s_getI 47 dX6_newName_44 rfl fl_X6_74 (fun _ _ _ _ => rfl) (isP_sh (by assumption)) (isP_lt (by assumption)) (fun r_44 => ?_)
      rw [e4]
      refine s_callV0 (M' := M_X6_find) (as := [_, _]) 50 dX6_newName_47 rfl cw_X6_186 rfl rfl sh_75 rfl (by decide) (Nat.le_of_ble_eq_true rfl) (Nat.le_of_ble_eq_true rfl) (Nat.le_of_ble_eq_true rfl) (Nat.le_of_ble_eq_true rfl) ⟨rfl, rfl, rfl⟩ ?_
      refine c_X6_find (r := r) (w := wdE bt n a) hT sh_77 (by decide) ⟨by omega, by omega⟩ (by decide) (off := 7) ⟨by omega, by omega⟩ hW hL hw hK2 (fun y hy => ?_)
      have hy9 : y = -1 := hy.elim (fun z => z.1) (fun z => by have := fi_at hW ⟨by omega, by omega⟩ z.2.2; omega)
      refine s_iconst 51 dX6_newName_50 rfl ?_
      refine s_icmp_eq 60 54 dX6_newName_51 rfl rfl (by first | omega | exact bI_r _ | exact iI_r _) (by first | omega | exact bI_r _ | exact iI_r _) (fun h_51 => ?_) (fun h_51 => by exfalso; omega)
      refine s_aload_n 61 dX6_newName_60 rfl rfl ?_
      refine s_getR 64 dX6_newName_61 rfl fl_X6_27 (fun _ _ _ _ => rfl) (T_X6_tokens hT) sh_75 (Nat.le_of_ble_eq_true rfl) ?_
      refine s_callV0 (M' := M_X10_move) (as := []) 67 dX6_newName_64 rfl cw_X6_58 rfl rfl sh_79 rfl (by decide) (Nat.le_of_ble_eq_true rfl) (Nat.le_of_ble_eq_true rfl) (Nat.le_of_ble_eq_true rfl) (Nat.le_of_ble_eq_true rfl) ⟨rfl, rfl, rfl⟩ ?_
      refine c_X10_move2 hT hS.1 hn hb hS.2.2.2.2 (fun I1 L1 g1 g2 => ?_)
      refine s_iconst 68 dX6_newName_67 rfl ?_
      refine s_zret dX6_newName_68 rfl (by first | omega | exact bI_b _) rfl ?_
      exact h I1 L1 (RdF.tm g1) (hS.mv hP hW g1 g2) (fun _ => hV.c (by rw [g1.1 75 (by decide)]) (g1.1 78 (by decide)))
    · have eo : nnO bt n r (.inr a) = .inl (3, a) := (pick_t hm).trans (pick_f hf)
      rw [eo, isE_l] at h
      refine s_aload_n 1 dX6_newName_0 rfl rfl ?_
      refine s_getR 4 dX6_newName_1 rfl fl_X6_27 (fun _ _ _ _ => rfl) (T_X6_tokens hT) sh_75 (Nat.le_of_ble_eq_true rfl) ?_
      refine s_callV0 (M' := M_X10_isName) (as := []) 7 dX6_newName_4 rfl cw_X6_183 rfl rfl sh_79 rfl (by decide) (Nat.le_of_ble_eq_true rfl) (Nat.le_of_ble_eq_true rfl) (Nat.le_of_ble_eq_true rfl) (Nat.le_of_ble_eq_true rfl) ⟨rfl, rfl, rfl⟩ ?_
      refine c_X10_isName hT hS.2.2.2.2 ?_
      refine s_ifb_ne 16 10 dX6_newName_7 rfl rfl (fun h_7 => ?_) (fun h_7 => by exfalso; exact absurd hm h_7)
      refine s_aload_n 17 dX6_newName_16 rfl rfl ?_
      refine s_aload_n 18 dX6_newName_17 rfl rfl ?_
      refine s_getR 21 dX6_newName_18 rfl fl_X6_9 (fun _ _ _ _ => rfl) (T_X6_partNames hT) sh_75 (Nat.le_of_ble_eq_true rfl) ?_
      refine s_aload_n 22 dX6_newName_21 rfl rfl ?_
      refine s_getR 25 dX6_newName_22 rfl fl_X6_31 (fun _ _ _ _ => rfl) (by assumption) sh_75 (Nat.le_of_ble_eq_true rfl) ?_
      refine s_getI 28 dX6_newName_25 rfl fl_X6_71 (fun _ _ _ _ => rfl) (isP_sh (by assumption)) (isP_lt (by assumption)) (fun r_25 => ?_)
      rw [e3]
      refine s_callV0 (M' := M_X6_find) (as := [_, _]) 31 dX6_newName_28 rfl cw_X6_186 rfl rfl sh_75 rfl (by decide) (Nat.le_of_ble_eq_true rfl) (Nat.le_of_ble_eq_true rfl) (Nat.le_of_ble_eq_true rfl) (Nat.le_of_ble_eq_true rfl) ⟨rfl, rfl, rfl⟩ ?_
      refine c_X6_find (r := r) (w := wdE bt n a) hT sh_76 (by decide) ⟨by omega, by omega⟩ (by decide) (off := 0) ⟨by omega, by omega⟩ hW hL hw hK1 (fun x hx => ?_)
      refine s_iconst 32 dX6_newName_31 rfl ?_
      refine s_icmp_ne 54 35 dX6_newName_32 rfl rfl (by first | omega | (rcases hx with ⟨z, -⟩ | ⟨z1, z2, -⟩ <;> omega)) (by first | omega | (rcases hx with ⟨z, -⟩ | ⟨z1, z2, -⟩ <;> omega)) (fun h_32 => ?_) (fun h_32 => ?_)
      · skip
        refine s_aload_n 55 dX6_newName_54 rfl rfl ?_
        refine s_iconst 56 dX6_newName_55 rfl ?_
        refine s_callV0 (M' := M_X6_fail) (as := [_]) 59 dX6_newName_56 rfl cw_X6_64 rfl rfl sh_75 rfl (by decide) (Nat.le_of_ble_eq_true rfl) (Nat.le_of_ble_eq_true rfl) (Nat.le_of_ble_eq_true rfl) (Nat.le_of_ble_eq_true rfl) ⟨rfl, rfl, rfl⟩ ?_
        refine c_X6_fail hT eT (by decide) ?_
        refine s_zret dX6_newName_59 rfl (by first | omega | exact bI_b _) rfl ?_
        exact h _ _ ((RdF.rf.fs (by decide)).fs (by decide)) (RdO.fl hS.1) (fun y => absurd trivial y)
      refine s_aload_n 36 dX6_newName_35 rfl rfl ?_
      refine s_aload_n 37 dX6_newName_36 rfl rfl ?_
      refine s_getR 40 dX6_newName_37 rfl fl_X6_15 (fun _ _ _ _ => rfl) (T_X6_sceneNames hT) sh_75 (Nat.le_of_ble_eq_true rfl) ?_
      refine s_aload_n 41 dX6_newName_40 rfl rfl ?_
      refine s_getR 44 dX6_newName_41 rfl fl_X6_31 (fun _ _ _ _ => rfl) (by assumption) sh_75 (Nat.le_of_ble_eq_true rfl) ?_
      refine s_getI 47 dX6_newName_44 rfl fl_X6_74 (fun _ _ _ _ => rfl) (isP_sh (by assumption)) (isP_lt (by assumption)) (fun r_44 => ?_)
      rw [e4]
      refine s_callV0 (M' := M_X6_find) (as := [_, _]) 50 dX6_newName_47 rfl cw_X6_186 rfl rfl sh_75 rfl (by decide) (Nat.le_of_ble_eq_true rfl) (Nat.le_of_ble_eq_true rfl) (Nat.le_of_ble_eq_true rfl) (Nat.le_of_ble_eq_true rfl) ⟨rfl, rfl, rfl⟩ ?_
      refine c_X6_find (r := r) (w := wdE bt n a) hT sh_77 (by decide) ⟨by omega, by omega⟩ (by decide) (off := 7) ⟨by omega, by omega⟩ hW hL hw hK2 (fun y hy => ?_)
      refine s_iconst 51 dX6_newName_50 rfl ?_
      refine s_icmp_eq 60 54 dX6_newName_51 rfl rfl (by first | omega | (rcases hy with ⟨z, -⟩ | ⟨z1, z2, -⟩ <;> omega)) (by first | omega | (rcases hy with ⟨z, -⟩ | ⟨z1, z2, -⟩ <;> omega)) (fun h_51 => by exfalso; (rcases hx with ⟨-, z1⟩ | ⟨z1, z2, -⟩ <;> rcases hy with ⟨-, z2⟩ | ⟨z3, z4, -⟩ <;> first | omega | (have := fi_none hW z1 z2; omega))) (fun h_51 => ?_)
      refine s_aload_n 55 dX6_newName_54 rfl rfl ?_
      refine s_iconst 56 dX6_newName_55 rfl ?_
      refine s_callV0 (M' := M_X6_fail) (as := [_]) 59 dX6_newName_56 rfl cw_X6_64 rfl rfl sh_75 rfl (by decide) (Nat.le_of_ble_eq_true rfl) (Nat.le_of_ble_eq_true rfl) (Nat.le_of_ble_eq_true rfl) (Nat.le_of_ble_eq_true rfl) ⟨rfl, rfl, rfl⟩ ?_
      refine c_X6_fail hT eT (by decide) ?_
      refine s_zret dX6_newName_59 rfl (by first | omega | exact bI_b _) rfl ?_
      exact h _ _ ((RdF.rf.fs (by decide)).fs (by decide)) (RdO.fl hS.1) (fun y => absurd trivial y)
  · have eo : nnO bt n r (.inr a) = .inl (1, a) := pick_f hm
    rw [eo, isE_l] at h
    refine s_aload_n 1 dX6_newName_0 rfl rfl ?_
    refine s_getR 4 dX6_newName_1 rfl fl_X6_27 (fun _ _ _ _ => rfl) (T_X6_tokens hT) sh_75 (Nat.le_of_ble_eq_true rfl) ?_
    refine s_callV0 (M' := M_X10_isName) (as := []) 7 dX6_newName_4 rfl cw_X6_183 rfl rfl sh_79 rfl (by decide) (Nat.le_of_ble_eq_true rfl) (Nat.le_of_ble_eq_true rfl) (Nat.le_of_ble_eq_true rfl) (Nat.le_of_ble_eq_true rfl) ⟨rfl, rfl, rfl⟩ ?_
    refine c_X10_isName hT hS.2.2.2.2 ?_
    refine s_ifb_ne 16 10 dX6_newName_7 rfl rfl (fun h_7 => by exfalso; exact absurd h_7 hm) (fun h_7 => ?_)
    refine s_aload_n 11 dX6_newName_10 rfl rfl ?_
    refine s_iconst 12 dX6_newName_11 rfl ?_
    refine s_callV0 (M' := M_X6_fail) (as := [_]) 15 dX6_newName_12 rfl cw_X6_64 rfl rfl sh_75 rfl (by decide) (Nat.le_of_ble_eq_true rfl) (Nat.le_of_ble_eq_true rfl) (Nat.le_of_ble_eq_true rfl) (Nat.le_of_ble_eq_true rfl) ⟨rfl, rfl, rfl⟩ ?_
    refine c_X6_fail hT eT (by decide) ?_
    refine s_zret dX6_newName_15 rfl (by first | omega | exact bI_b _) rfl ?_
    exact h _ _ ((RdF.rf.fs (by decide)).fs (by decide)) (RdO.fl hS.1) (fun y => absurd trivial y)
set_option maxHeartbeats 4000000 in
theorem c_X6_oldName {E : ET} {I : MI} {L : ML} {R : MR} {Q : Option AV → MI → ML → MR → Prop} {bt r : F1} {n a m x : Int} {v : F1} {P c N : Nat} {cnt : Int} {B : Prop} {o : PO} (hT : Topo R) (hP : isP P) (hn : 0 ≤ n ∧ n ≤ 900) (hb : ∀ k, 0 ≤ bt k ∧ bt k ≤ 255) (hB : (B ∧ c = 76 ∧ N = 7 ∧ cnt = r 4) ∨ (¬ B ∧ c = 77 ∧ N = 5 ∧ cnt = r 5)) (hm8 : 0 ≤ m ∧ m < 8) (hW : WFp r) (hS : RdK I L bt n P r a) (hV : VC I m v) (eo : paO bt n r B (.inr a) = o) (ex : naV bt n r B (.inr a) = x) (h : ∀ I' L', RdF P I L I' L' → RdO I' L' bt n P r o → (¬ isE o → VC I' (m + 1) (fun j => if j = m then x else v j)) → Q (some (vi (bI (¬ isE o)))) I' L' R) : CT E M_X6_oldName 161 yX6_oldName [(vr (75)), (vr (c)), (vi (cnt))] I L R Q := by
  refine CT_of rfl rfl (fun h => by cases h) (Nat.le_of_ble_eq_true rfl) (fun X => ?_)
  show V X _ z0 0 [some (vr (75)), some (vr (c)), some (vi (cnt)), none] [] I L R _
  subst eo
  subst ex
  have hd := hW.1
  unfold wHd at hd
  have eT := hS.2.2.2.2.2.2.1
  obtain ⟨off, hoff⟩ : ∃ off : Int, (B ∧ off = 0) ∨ (¬ B ∧ off = 7) := (Classical.em B).elim (fun z => ⟨0, Or.inl ⟨z, rfl⟩⟩) (fun z => ⟨7, Or.inr ⟨z, rfl⟩⟩)
  have hsh : sh c = (21, N) := by rcases hB with ⟨-, e1, e2, -⟩ | ⟨-, e1, e2, -⟩ <;> (subst e1; subst e2; first | exact sh_76 | exact sh_77)
  have hc1 : c < 161 := by rcases hB with ⟨-, e1, -, -⟩ | ⟨-, e1, -, -⟩ <;> omega
  have hN : N ≤ 7 ∧ off + N ≤ 12 ∧ 0 ≤ off ∧ 0 ≤ cnt ∧ cnt ≤ N := by rcases hB with ⟨b, e1, e2, e3⟩ | ⟨b, e1, e2, e3⟩ <;> rcases hoff with ⟨b', e4⟩ | ⟨b', e4⟩ <;> first | omega | exact absurd b b' | exact absurd b' b
  have hK : ∀ i, 0 ≤ i → i < cnt → L c i = pkW (nmL r (off + i)) := fun i i1 i2 => by
    rcases hB with ⟨b, e1, e2, e3⟩ | ⟨b, e1, e2, e3⟩ <;> rcases hoff with ⟨b', e4⟩ | ⟨b', e4⟩
    · rw [e1, e4, show 0 + i = i by omega]; exact hS.2.2.1.1 i i1 (by omega)
    · exact absurd b b'
    · exact absurd b' b
    · rw [e1, e4]; exact hS.2.2.1.2 i i1 (by omega)
  by_cases hm : nmP bt n a
  · have hw := wdE_w hm.1
    have hL := hS.2.2.2.2.2.2.2.2.2.1 hm.1
    have fb := fiF_v r (wdE bt n a)
    by_cases hf : 0 ≤ fiF r (wdE bt n a) ∧ (B ↔ fiF r (wdE bt n a) < 7)
    · have e1 : naO bt n r B (.inr a) = .inr a := (pick_t hm).trans (pick_t hf)
      have eo : paO bt n r B (.inr a) = .inr (nxE bt n a) := by unfold paO; rw [e1]
      have ev : naV bt n r B (.inr a) = pick B (fiF r (wdE bt n a)) (fiF r (wdE bt n a) - 7) := pick_t ⟨hm, hf⟩
      have ev2 : naV bt n r B (.inr a) = fiF r (wdE bt n a) - off := by
        rw [ev]
        rcases hoff with ⟨b, e4⟩ | ⟨b, e4⟩
        · rw [pick_t b]; omega
        · rw [pick_f b, e4]
      rw [eo, ev2, isE_r] at h
      have hin : hasN r (wdE bt n a) (fiF r (wdE bt n a)) ∧ fiF r (wdE bt n a) < 12 := by
        rcases fb with ⟨z, -⟩ | ⟨z1, z2, z3, -⟩
        · omega
        · exact ⟨z3, z2⟩
      have hix := hasN_ix hW ⟨hf.1, hin.2⟩ hin.1
      unfold nIx at hix
      have hrange : off ≤ fiF r (wdE bt n a) ∧ fiF r (wdE bt n a) < off + cnt := by
        rcases hB with ⟨b, q1, q2, q3⟩ | ⟨b, q1, q2, q3⟩ <;> rcases hoff with ⟨b', e4⟩ | ⟨b', e4⟩
        · have := hf.2.mp b; omega
        · exact absurd b b'
        · exact absurd b' b
        · have : ¬ fiF r (wdE bt n a) < 7 := fun z => b (hf.2.mpr z); omega
      refine s_aload_n 1 dX6_oldName_0 rfl rfl ?_
      refine s_getR 4 dX6_oldName_1 rfl fl_X6_27 (fun _ _ _ _ => rfl) (T_X6_tokens hT) sh_75 (Nat.le_of_ble_eq_true rfl) ?_
      refine s_callV0 (M' := M_X10_isName) (as := []) 7 dX6_oldName_4 rfl cw_X6_183 rfl rfl sh_79 rfl (by decide) (Nat.le_of_ble_eq_true rfl) (Nat.le_of_ble_eq_true rfl) (Nat.le_of_ble_eq_true rfl) (Nat.le_of_ble_eq_true rfl) ⟨rfl, rfl, rfl⟩ ?_
      refine c_X10_isName hT hS.2.2.2.2 ?_
      refine s_ifb_ne 16 10 dX6_oldName_7 rfl rfl (fun h_7 => ?_) (fun h_7 => by exfalso; exact absurd hm h_7)
      refine s_aload_n 17 dX6_oldName_16 rfl rfl ?_
      refine s_aload_n 18 dX6_oldName_17 rfl rfl ?_
      refine s_iload_n 19 dX6_oldName_18 rfl rfl ?_
      refine s_callV0 (M' := M_X6_find) (as := [_, _]) 22 dX6_oldName_19 rfl cw_X6_186 rfl rfl sh_75 rfl (by decide) (Nat.le_of_ble_eq_true rfl) (Nat.le_of_ble_eq_true rfl) (Nat.le_of_ble_eq_true rfl) (Nat.le_of_ble_eq_true rfl) ⟨rfl, rfl, rfl⟩ ?_
      refine c_X6_find (r := r) (w := wdE bt n a) hT hsh hc1 ⟨hN.2.2.2.1, hN.2.2.2.2⟩ hN.1 (off := off) ⟨hN.2.2.1, hN.2.1⟩ hW hL hw hK (fun x hx => ?_)
      have hx9 : x = fiF r (wdE bt n a) - off := hx.elim (fun z => absurd hin.1 (by have := z.2 (fiF r (wdE bt n a) - off) (by omega) (by omega); rw [show off + (fiF r (wdE bt n a) - off) = fiF r (wdE bt n a) by omega] at this; exact this)) (fun z => by have := fi_at hW ⟨by omega, by omega⟩ z.2.2; omega)
      refine s_istore_n (ls' := [_, _, _, _]) 23 dX6_oldName_22 rfl (Nat.le_of_ble_eq_true rfl) rfl rfl ?_
      refine s_iload_n 24 dX6_oldName_23 rfl rfl ?_
      refine s_iconst 25 dX6_oldName_24 rfl ?_
      refine s_icmp_ne 34 28 dX6_oldName_25 rfl rfl (by first | omega | exact bI_r _ | exact iI_r _) (by first | omega | exact bI_r _ | exact iI_r _) (fun h_25 => ?_) (fun h_25 => by exfalso; omega)
      refine s_aload_n 35 dX6_oldName_34 rfl rfl ?_
      refine s_getR 38 dX6_oldName_35 rfl fl_X6_27 (fun _ _ _ _ => rfl) (T_X6_tokens hT) sh_75 (Nat.le_of_ble_eq_true rfl) ?_
      refine s_callV0 (M' := M_X10_move) (as := []) 41 dX6_oldName_38 rfl cw_X6_58 rfl rfl sh_79 rfl (by decide) (Nat.le_of_ble_eq_true rfl) (Nat.le_of_ble_eq_true rfl) (Nat.le_of_ble_eq_true rfl) (Nat.le_of_ble_eq_true rfl) ⟨rfl, rfl, rfl⟩ ?_
      refine c_X10_move2 hT hS.1 hn hb hS.2.2.2.2 (fun I1 L1 g1 g2 => ?_)
      have hV1 : VC I1 m v := hV.c (by rw [g1.1 75 (by decide)]) (g1.1 78 (by decide))
      refine s_aload_n 42 dX6_oldName_41 rfl rfl ?_
      refine s_iload_n 43 dX6_oldName_42 rfl rfl ?_
      refine s_callV0 (M' := M_X6_tell) (as := [_]) 46 dX6_oldName_43 rfl cw_X6_151 rfl rfl sh_75 rfl (by decide) (Nat.le_of_ble_eq_true rfl) (Nat.le_of_ble_eq_true rfl) (Nat.le_of_ble_eq_true rfl) (Nat.le_of_ble_eq_true rfl) ⟨rfl, rfl, rfl⟩ ?_
      refine c_X6_tell hT hV1.1 hm8 (by omega) ?_
      refine s_zret dX6_oldName_46 rfl (by first | omega | exact bI_b _) rfl ?_
      rw [← hx9] at h
      exact h _ _ (((RdF.tm g1).fs (by decide)).fs (by decide)) ((hS.mv hP hW g1 g2).tl hP hW) (fun _ => hV1.tl)
    · have e1 : naO bt n r B (.inr a) = .inl (2, a) := (pick_t hm).trans (pick_f hf)
      have eo : paO bt n r B (.inr a) = .inl (2, a) := by unfold paO; rw [e1]
      rw [eo, isE_l] at h
      refine s_aload_n 1 dX6_oldName_0 rfl rfl ?_
      refine s_getR 4 dX6_oldName_1 rfl fl_X6_27 (fun _ _ _ _ => rfl) (T_X6_tokens hT) sh_75 (Nat.le_of_ble_eq_true rfl) ?_
      refine s_callV0 (M' := M_X10_isName) (as := []) 7 dX6_oldName_4 rfl cw_X6_183 rfl rfl sh_79 rfl (by decide) (Nat.le_of_ble_eq_true rfl) (Nat.le_of_ble_eq_true rfl) (Nat.le_of_ble_eq_true rfl) (Nat.le_of_ble_eq_true rfl) ⟨rfl, rfl, rfl⟩ ?_
      refine c_X10_isName hT hS.2.2.2.2 ?_
      refine s_ifb_ne 16 10 dX6_oldName_7 rfl rfl (fun h_7 => ?_) (fun h_7 => by exfalso; exact absurd hm h_7)
      refine s_aload_n 17 dX6_oldName_16 rfl rfl ?_
      refine s_aload_n 18 dX6_oldName_17 rfl rfl ?_
      refine s_iload_n 19 dX6_oldName_18 rfl rfl ?_
      refine s_callV0 (M' := M_X6_find) (as := [_, _]) 22 dX6_oldName_19 rfl cw_X6_186 rfl rfl sh_75 rfl (by decide) (Nat.le_of_ble_eq_true rfl) (Nat.le_of_ble_eq_true rfl) (Nat.le_of_ble_eq_true rfl) (Nat.le_of_ble_eq_true rfl) ⟨rfl, rfl, rfl⟩ ?_
      refine c_X6_find (r := r) (w := wdE bt n a) hT hsh hc1 ⟨hN.2.2.2.1, hN.2.2.2.2⟩ hN.1 (off := off) ⟨hN.2.2.1, hN.2.1⟩ hW hL hw hK (fun x hx => ?_)
      have hx9 : x = -1 := hx.elim (fun z => z.1) (fun z => by
        have g := fi_at hW ⟨by omega, by omega⟩ z.2.2
        exfalso; refine hf ⟨by omega, ?_⟩
        rcases hB with ⟨b, q1, q2, q3⟩ | ⟨b, q1, q2, q3⟩ <;> rcases hoff with ⟨b', e4⟩ | ⟨b', e4⟩
        · exact ⟨fun _ => by omega, fun _ => b⟩
        · exact absurd b b'
        · exact absurd b' b
        · exact ⟨fun z => absurd z b, fun _ => by omega⟩)
      refine s_istore_n (ls' := [_, _, _, _]) 23 dX6_oldName_22 rfl (Nat.le_of_ble_eq_true rfl) rfl rfl ?_
      refine s_iload_n 24 dX6_oldName_23 rfl rfl ?_
      refine s_iconst 25 dX6_oldName_24 rfl ?_
      refine s_icmp_ne 34 28 dX6_oldName_25 rfl rfl (by first | omega | exact bI_r _ | exact iI_r _) (by first | omega | exact bI_r _ | exact iI_r _) (fun h_25 => by exfalso; omega) (fun h_25 => ?_)
      refine s_aload_n 29 dX6_oldName_28 rfl rfl ?_
      refine s_iconst 30 dX6_oldName_29 rfl ?_
      refine s_callV0 (M' := M_X6_fail) (as := [_]) 33 dX6_oldName_30 rfl cw_X6_64 rfl rfl sh_75 rfl (by decide) (Nat.le_of_ble_eq_true rfl) (Nat.le_of_ble_eq_true rfl) (Nat.le_of_ble_eq_true rfl) (Nat.le_of_ble_eq_true rfl) ⟨rfl, rfl, rfl⟩ ?_
      refine c_X6_fail hT eT (by decide) ?_
      refine s_zret dX6_oldName_33 rfl (by first | omega | exact bI_b _) rfl ?_
      exact h _ _ ((RdF.rf.fs (by decide)).fs (by decide)) (RdO.fl hS.1) (fun y => absurd trivial y)
  · have e1 : naO bt n r B (.inr a) = .inl (1, a) := pick_f hm
    have eo : paO bt n r B (.inr a) = .inl (1, a) := by unfold paO; rw [e1]
    rw [eo, isE_l] at h
    refine s_aload_n 1 dX6_oldName_0 rfl rfl ?_
    refine s_getR 4 dX6_oldName_1 rfl fl_X6_27 (fun _ _ _ _ => rfl) (T_X6_tokens hT) sh_75 (Nat.le_of_ble_eq_true rfl) ?_
    refine s_callV0 (M' := M_X10_isName) (as := []) 7 dX6_oldName_4 rfl cw_X6_183 rfl rfl sh_79 rfl (by decide) (Nat.le_of_ble_eq_true rfl) (Nat.le_of_ble_eq_true rfl) (Nat.le_of_ble_eq_true rfl) (Nat.le_of_ble_eq_true rfl) ⟨rfl, rfl, rfl⟩ ?_
    refine c_X10_isName hT hS.2.2.2.2 ?_
    refine s_ifb_ne 16 10 dX6_oldName_7 rfl rfl (fun h_7 => by exfalso; exact absurd h_7 hm) (fun h_7 => ?_)
    refine s_aload_n 11 dX6_oldName_10 rfl rfl ?_
    refine s_iconst 12 dX6_oldName_11 rfl ?_
    refine s_callV0 (M' := M_X6_fail) (as := [_]) 15 dX6_oldName_12 rfl cw_X6_64 rfl rfl sh_75 rfl (by decide) (Nat.le_of_ble_eq_true rfl) (Nat.le_of_ble_eq_true rfl) (Nat.le_of_ble_eq_true rfl) (Nat.le_of_ble_eq_true rfl) ⟨rfl, rfl, rfl⟩ ?_
    refine c_X6_fail hT eT (by decide) ?_
    refine s_zret dX6_oldName_15 rfl (by first | omega | exact bI_b _) rfl ?_
    exact h _ _ ((RdF.rf.fs (by decide)).fs (by decide)) (RdO.fl hS.1) (fun y => absurd trivial y)
