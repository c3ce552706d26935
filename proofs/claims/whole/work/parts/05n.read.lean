/-! the class's Reader: a text -/
theorem er_rd {bt : F1} {n : Int} : erK (rdF bt n).1 := er_rs 902 _ _ er_li
theorem upsR {R : MR} {c : Nat} {k : Int} {v : Option Nat} : up R c k v c k = v := by rw [up_eq]; exact if_pos rfl
set_option maxHeartbeats 4000000 in
theorem c_X6_checkEnd {E : ET} {I : MI} {L : ML} {R : MR} {Q : Option AV → MI → ML → MR → Prop} {bt r : F1} {n a : Int} {P : Nat} (hT : Topo R) (hP : isP P) (hRP : R 75 5 = some P) (hW : WFp r) (hS : RdK I L bt n P r a) (h : ∀ I' o, RdF P I L I' L → o = pick (tkE bt n a = 0) (pick (r 0 = 0 ∨ r 4 = 0 ∨ r 5 = 0) (.inl (6, a)) (.inr a)) (.inl (1, a)) → RdO I' L bt n P r o → Q none I' L R) : CT E M_X6_checkEnd 161 yX6_checkEnd [(vr (75))] I L R Q := by
  refine CT_of rfl rfl (fun h => by cases h) (Nat.le_of_ble_eq_true rfl) (fun X => ?_)
  show V X _ z0 0 [some (vr (75))] [] I L R _
  have hp : P = 3 ∨ P = 39 := hP
  have hd := hW.1
  unfold wHd at hd
  have eT := hS.2.2.2.2.2.2.1
  have s5 := hS.2.2.2.2.2.2.2.2.1
  obtain ⟨⟨p0, p1, p2, p3, p4, p5, p6, p7⟩, -⟩ := hS.2.1
  by_cases z : tkE bt n a = 0
  · by_cases y : r 0 = 0 ∨ r 4 = 0 ∨ r 5 = 0
    · have h := fun I' m => h I' (.inl (6, a)) m (by rw [pick_t z, pick_t y])
      refine s_aload_n 1 dX6_checkEnd_0 rfl rfl ?_
      refine s_getR 4 dX6_checkEnd_1 rfl fl_X6_27 (fun _ _ _ _ => rfl) (T_X6_tokens hT) sh_75 (Nat.le_of_ble_eq_true rfl) ?_
      refine s_getI 7 dX6_checkEnd_4 rfl fl_X6_55 (fun _ _ _ _ => rfl) sh_79 (Nat.le_of_ble_eq_true rfl) (fun r_4 => ?_)
      rw [s5, z]
      refine s_if_eq 19 10 dX6_checkEnd_7 rfl rfl (by decide) (fun h_7 => ?_) (fun h_7 => by exfalso; exact h_7 rfl)
      refine s_aload_n 20 dX6_checkEnd_19 rfl rfl ?_
      refine s_getR 23 dX6_checkEnd_20 rfl fl_X6_31 (fun _ _ _ _ => rfl) (by assumption) sh_75 (Nat.le_of_ble_eq_true rfl) ?_
      refine s_getI 26 dX6_checkEnd_23 rfl fl_X6_68 (fun _ _ _ _ => rfl) (isP_sh (by assumption)) (isP_lt (by assumption)) (fun r_23 => ?_)
      rw [p2]
      refine s_if_eq 49 29 dX6_checkEnd_26 rfl rfl (by first | omega | exact bI_r _ | exact iI_r _) (fun h_26 => ?_) (fun h_26 => ?_)
      · skip
        refine s_aload_n 50 dX6_checkEnd_49 rfl rfl ?_
        refine s_bipush 52 dX6_checkEnd_50 rfl (by decide) ?_
        refine s_callV0 (M' := M_X6_fail) (as := [_]) 55 dX6_checkEnd_52 rfl cw_X6_64 rfl rfl sh_75 rfl (by decide) (Nat.le_of_ble_eq_true rfl) (Nat.le_of_ble_eq_true rfl) (Nat.le_of_ble_eq_true rfl) (Nat.le_of_ble_eq_true rfl) ⟨rfl, rfl, rfl⟩ ?_
        refine c_X6_fail hT eT (by decide) ?_
        refine s_pop 56 dX6_checkEnd_55 rfl rfl ?_
        refine s_vret dX6_checkEnd_56 rfl rfl ?_
        first | exact h _ ((RdF.rf.fs (by decide)).fs (by decide)) (RdO.fl hS.1) | (exfalso; omega)
      refine s_aload_n 30 dX6_checkEnd_29 rfl rfl ?_
      refine s_getR 33 dX6_checkEnd_30 rfl fl_X6_31 (fun _ _ _ _ => rfl) (by assumption) sh_75 (Nat.le_of_ble_eq_true rfl) ?_
      refine s_getI 36 dX6_checkEnd_33 rfl fl_X6_71 (fun _ _ _ _ => rfl) (isP_sh (by assumption)) (isP_lt (by assumption)) (fun r_33 => ?_)
      rw [p3]
      refine s_if_eq 49 39 dX6_checkEnd_36 rfl rfl (by first | omega | exact bI_r _ | exact iI_r _) (fun h_36 => ?_) (fun h_36 => ?_)
      · skip
        refine s_aload_n 50 dX6_checkEnd_49 rfl rfl ?_
        refine s_bipush 52 dX6_checkEnd_50 rfl (by decide) ?_
        refine s_callV0 (M' := M_X6_fail) (as := [_]) 55 dX6_checkEnd_52 rfl cw_X6_64 rfl rfl sh_75 rfl (by decide) (Nat.le_of_ble_eq_true rfl) (Nat.le_of_ble_eq_true rfl) (Nat.le_of_ble_eq_true rfl) (Nat.le_of_ble_eq_true rfl) ⟨rfl, rfl, rfl⟩ ?_
        refine c_X6_fail hT eT (by decide) ?_
        refine s_pop 56 dX6_checkEnd_55 rfl rfl ?_
        refine s_vret dX6_checkEnd_56 rfl rfl ?_
        first | exact h _ ((RdF.rf.fs (by decide)).fs (by decide)) (RdO.fl hS.1) | (exfalso; omega)
      refine s_aload_n 40 dX6_checkEnd_39 rfl rfl ?_
      refine s_getR 43 dX6_checkEnd_40 rfl fl_X6_31 (fun _ _ _ _ => rfl) (by assumption) sh_75 (Nat.le_of_ble_eq_true rfl) ?_
      refine s_getI 46 dX6_checkEnd_43 rfl fl_X6_74 (fun _ _ _ _ => rfl) (isP_sh (by assumption)) (isP_lt (by assumption)) (fun r_43 => ?_)
      rw [p4]
      refine s_if_ne 56 49 dX6_checkEnd_46 rfl rfl (by first | omega | exact bI_r _ | exact iI_r _) (fun h_46 => ?_) (fun h_46 => ?_)
      · skip
        refine s_vret dX6_checkEnd_56 rfl rfl ?_
        first | exact h _ ((RdF.rf.fs (by decide)).fs (by decide)) (RdO.fl hS.1) | (exfalso; omega)
      refine s_aload_n 50 dX6_checkEnd_49 rfl rfl ?_
      refine s_bipush 52 dX6_checkEnd_50 rfl (by decide) ?_
      refine s_callV0 (M' := M_X6_fail) (as := [_]) 55 dX6_checkEnd_52 rfl cw_X6_64 rfl rfl sh_75 rfl (by decide) (Nat.le_of_ble_eq_true rfl) (Nat.le_of_ble_eq_true rfl) (Nat.le_of_ble_eq_true rfl) (Nat.le_of_ble_eq_true rfl) ⟨rfl, rfl, rfl⟩ ?_
      refine c_X6_fail hT eT (by decide) ?_
      refine s_pop 56 dX6_checkEnd_55 rfl rfl ?_
      refine s_vret dX6_checkEnd_56 rfl rfl ?_
      first | exact h _ ((RdF.rf.fs (by decide)).fs (by decide)) (RdO.fl hS.1) | (exfalso; omega)
    · have h := fun I' m => h I' (.inr a) m (by rw [pick_t z, pick_f y])
      refine s_aload_n 1 dX6_checkEnd_0 rfl rfl ?_
      refine s_getR 4 dX6_checkEnd_1 rfl fl_X6_27 (fun _ _ _ _ => rfl) (T_X6_tokens hT) sh_75 (Nat.le_of_ble_eq_true rfl) ?_
      refine s_getI 7 dX6_checkEnd_4 rfl fl_X6_55 (fun _ _ _ _ => rfl) sh_79 (Nat.le_of_ble_eq_true rfl) (fun r_4 => ?_)
      rw [s5, z]
      refine s_if_eq 19 10 dX6_checkEnd_7 rfl rfl (by decide) (fun h_7 => ?_) (fun h_7 => by exfalso; exact h_7 rfl)
      refine s_aload_n 20 dX6_checkEnd_19 rfl rfl ?_
      refine s_getR 23 dX6_checkEnd_20 rfl fl_X6_31 (fun _ _ _ _ => rfl) (by assumption) sh_75 (Nat.le_of_ble_eq_true rfl) ?_
      refine s_getI 26 dX6_checkEnd_23 rfl fl_X6_68 (fun _ _ _ _ => rfl) (isP_sh (by assumption)) (isP_lt (by assumption)) (fun r_23 => ?_)
      rw [p2]
      refine s_if_eq 49 29 dX6_checkEnd_26 rfl rfl (by first | omega | exact bI_r _ | exact iI_r _) (fun h_26 => by exfalso; omega) (fun h_26 => ?_)
      refine s_aload_n 30 dX6_checkEnd_29 rfl rfl ?_
      refine s_getR 33 dX6_checkEnd_30 rfl fl_X6_31 (fun _ _ _ _ => rfl) (by assumption) sh_75 (Nat.le_of_ble_eq_true rfl) ?_
      refine s_getI 36 dX6_checkEnd_33 rfl fl_X6_71 (fun _ _ _ _ => rfl) (isP_sh (by assumption)) (isP_lt (by assumption)) (fun r_33 => ?_)
      rw [p3]
      refine s_if_eq 49 39 dX6_checkEnd_36 rfl rfl (by first | omega | exact bI_r _ | exact iI_r _) (fun h_36 => by exfalso; omega) (fun h_36 => ?_)
      refine s_aload_n 40 dX6_checkEnd_39 rfl rfl ?_
      refine s_getR 43 dX6_checkEnd_40 rfl fl_X6_31 (fun _ _ _ _ => rfl) (by assumption) sh_75 (Nat.le_of_ble_eq_true rfl) ?_
      refine s_getI 46 dX6_checkEnd_43 rfl fl_X6_74 (fun _ _ _ _ => rfl) (isP_sh (by assumption)) (isP_lt (by assumption)) (fun r_43 => ?_)
      rw [p4]
      refine s_if_ne 56 49 dX6_checkEnd_46 rfl rfl (by first | omega | exact bI_r _ | exact iI_r _) (fun h_46 => ?_) (fun h_46 => by exfalso; omega)
      refine s_vret dX6_checkEnd_56 rfl rfl ?_
      exact h I RdF.rf hS
  · have h := fun I' m => h I' (.inl (1, a)) m (by rw [pick_f z])
    refine s_aload_n 1 dX6_checkEnd_0 rfl rfl ?_
    refine s_getR 4 dX6_checkEnd_1 rfl fl_X6_27 (fun _ _ _ _ => rfl) (T_X6_tokens hT) sh_75 (Nat.le_of_ble_eq_true rfl) ?_
    refine s_getI 7 dX6_checkEnd_4 rfl fl_X6_55 (fun _ _ _ _ => rfl) sh_79 (Nat.le_of_ble_eq_true rfl) (fun r_4 => ?_)
    rw [s5]
    refine s_if_eq 19 10 dX6_checkEnd_7 rfl rfl (by first | omega | (unfold clS; omega)) (fun h_7 => by exfalso; exact z ((clS_i (u := 0) (by omega)).mp (by rw [h_7]; rfl))) (fun h_7 => ?_)
    refine s_aload_n 11 dX6_checkEnd_10 rfl rfl ?_
    refine s_iconst 12 dX6_checkEnd_11 rfl ?_
    refine s_callV0 (M' := M_X6_fail) (as := [_]) 15 dX6_checkEnd_12 rfl cw_X6_64 rfl rfl sh_75 rfl (by decide) (Nat.le_of_ble_eq_true rfl) (Nat.le_of_ble_eq_true rfl) (Nat.le_of_ble_eq_true rfl) (Nat.le_of_ble_eq_true rfl) ⟨rfl, rfl, rfl⟩ ?_
    refine c_X6_fail hT eT (by decide) ?_
    refine s_pop 16 dX6_checkEnd_15 rfl rfl ?_
    refine s_goto 56 dX6_checkEnd_16 rfl ?_
    refine s_vret dX6_checkEnd_56 rfl rfl ?_
    exact h _ ((RdF.rf.fs (by decide)).fs (by decide)) (RdO.fl hS.1)
set_option maxHeartbeats 4000000 in
theorem c_X6_read {E : ET} {I : MI} {L : ML} {R : MR} {Q : Option AV → MI → ML → MR → Prop} {bt : F1} {n : Int} {P : Nat} (hT : Topo R) (hP : isP P) (hn : 0 ≤ n ∧ n ≤ 900) (hb : ∀ k, 0 ≤ bt k ∧ bt k ≤ 255) (et : I 2 = bt) (h : ∀ I' L', RdF P I L I' L' → (∀ q, finF bt n = .inl q → I' 75 7 = q.2 → Q (some (vi q.1)) I' L' (up R 75 5 (some P))) ∧ (∀ r, finF bt n = .inr r → PR I' P r → Q (some (vi 0)) I' L' (up R 75 5 (some P)))) : CT E M_X6_read 161 yX6_read [(vr (75)), (vi (n)), (vr (P))] I L R Q := by
  refine CT_of rfl rfl (fun h => by cases h) (Nat.le_of_ble_eq_true rfl) (fun X => ?_)
  show V X _ z0 0 [some (vr (75)), some (vi (n)), some (vr (P)), none, none] [] I L R _
  have hp : P = 3 ∨ P = 39 := hP
  have body : ∀ R1 : MR, R1 = up R 75 5 (some P) → Topo R1 → R1 75 5 = some P → V X M_X6_read z0 5 [some (vr (75)), some (vi (n)), some (vr (P)), none, none] [] (I) L R1 (RT X M_X6_read Q) := by
    intro R1 eR hT hRP
    rw [← eR] at h
    -- the end
    have fin : ∀ (I1 : MI) (L1 : ML) (r1 : F1) (o : PO), RdF P I L I1 L1 → RdO I1 L1 bt n P r1 o → (¬ isE o → WFp r1) → (rdF bt n).1 = o → (¬ isE o → (rdF bt n).2 = r1) → ∀ w4, V X M_X6_read z0 79 [some (vr (75)), some (vi (n)), some (vr (P)), some (vi (bI (¬ isE o))), w4] [] (I1) L1 R1 (RT X M_X6_read Q) := by
      intro I1 L1 r1 o f s hw e1 e2 w4
      cases o with
      | inl q =>
        have hh := (h I1 L1 f).1 q (finF_l e1) s.2.2
        rw [isE_l]
        have s6 : I1 75 6 = q.1 := s.2.1
        refine s_iload_n 80 dX6_read_79 rfl rfl ?_
        refine s_if_eq 87 83 dX6_read_80 rfl rfl (by first | omega | exact bI_r _ | exact iI_r _) (fun h_80 => ?_) (fun h_80 => by exfalso; omega)
        refine s_aload_n 88 dX6_read_87 rfl rfl ?_
        refine s_getI 91 dX6_read_88 rfl fl_X6_40 (fun _ _ _ _ => rfl) sh_75 (Nat.le_of_ble_eq_true rfl) (fun r_88 => ?_)
        rw [s6]
        refine s_iret dX6_read_91 rfl rfl ?_
        exact hh
      | inr a =>
        have e9 := finF_r e1 (e2 id)
        have hr := hw id
        rw [isE_r]
        refine s_iload_n 80 dX6_read_79 rfl rfl ?_
        refine s_if_eq 87 83 dX6_read_80 rfl rfl (by first | omega | exact bI_r _ | exact iI_r _) (fun h_80 => by exfalso; omega) (fun h_80 => ?_)
        refine s_aload_n 84 dX6_read_83 rfl rfl ?_
        refine s_callV0 (M' := M_X6_checkEnd) (as := []) 87 dX6_read_84 rfl cw_X6_61 rfl rfl sh_75 rfl (by decide) (Nat.le_of_ble_eq_true rfl) (Nat.le_of_ble_eq_true rfl) (Nat.le_of_ble_eq_true rfl) (Nat.le_of_ble_eq_true rfl) ⟨rfl, rfl, rfl⟩ ?_
        refine c_X6_checkEnd hT hP hRP hr s (fun I2 o2 g1 g2 g3 => ?_)
        refine s_aload_n 88 dX6_read_87 rfl rfl ?_
        refine s_getI 91 dX6_read_88 rfl fl_X6_40 (fun _ _ _ _ => rfl) sh_75 (Nat.le_of_ble_eq_true rfl) (fun r_88 => ?_)
        have h2 := h I2 L1 (f.tr g1)
        refine s_iret dX6_read_91 rfl rfl ?_
        by_cases z : tkE bt n a = 0
        · rw [pick_t z] at g2 e9
          by_cases y : r1 0 = 0 ∨ r1 4 = 0 ∨ r1 5 = 0
          · rw [pick_t y] at g2 e9
            rw [g2] at g3
            have hh := h2.1 (6, a) e9 g3.2.2
            rw [show I2 75 6 = 6 from g3.2.1]; exact hh
          · rw [pick_f y] at g2 e9
            rw [g2] at g3
            have hh := h2.2 r1 e9 g3.2.1
            rw [show I2 75 6 = 0 from g3.2.2.2.1]; exact hh
        · rw [pick_f z] at g2 e9
          rw [g2] at g3
          have hh := h2.1 (1, a) e9 g3.2.2
          rw [show I2 75 6 = 1 from g3.2.1]; exact hh
    -- LINE after LINE
    have lines : ∀ (f : Nat) (i : Int) (I1 : MI) (L1 : ML) (r1 : F1) (o : PO), RdF P I L I1 L1 → RdO I1 L1 bt n P r1 o → (¬ isE o → WFp r1) → (∀ b, o = .inr b → i ≤ b ∧ b ≤ n ∧ n - b < (f : Int)) → 0 ≤ i → i ≤ 900 → (rsF bt n f r1 o).1 = (rdF bt n).1 → (¬ isE (rdF bt n).1 → (rsF bt n f r1 o).2 = (rdF bt n).2) → V X M_X6_read z0 38 [some (vr (75)), some (vi (n)), some (vr (P)), some (vi (bI (¬ isE o))), some (vi (i))] [] (I1) L1 R1 (RT X M_X6_read Q) := by
      intro f
      induction f with
      | zero =>
        intro i I1 L1 r1 o f s hw hp2 i0 i9 e1 e2
        cases o with
        | inl q =>
          have fin9 := fin I1 L1 r1 (.inl q) f s hw e1.symm (fun z => absurd trivial z)
          rw [isE_l] at fin9 ⊢
          refine s_iload 40 dX6_read_38 rfl rfl ?_
          refine s_sipush 43 dX6_read_40 rfl (by decide) ?_
          refine s_icmp_ge 79 46 dX6_read_43 rfl rfl (by first | omega | exact bI_r _ | exact iI_r _) (by first | omega | exact bI_r _ | exact iI_r _) (fun h_43 => ?_) (fun h_43 => ?_)
          · skip
            exact fin9 _
          refine s_iload_n 47 dX6_read_46 rfl rfl ?_
          refine s_if_eq 79 50 dX6_read_47 rfl rfl (by first | omega | exact bI_r _ | exact iI_r _) (fun h_47 => ?_) (fun h_47 => by exfalso; omega)
          exact fin9 _
        | inr b =>
          have := hp2 b rfl
          omega
      | succ f ih =>
        intro i I1 L1 r1 o f0 s hw hp2 i0 i9 e1 e2
        cases o with
        | inl q =>
          have fin9 := fin I1 L1 r1 (.inl q) f0 s hw e1.symm (fun z => absurd trivial z)
          rw [isE_l] at fin9 ⊢
          refine s_iload 40 dX6_read_38 rfl rfl ?_
          refine s_sipush 43 dX6_read_40 rfl (by decide) ?_
          refine s_icmp_ge 79 46 dX6_read_43 rfl rfl (by first | omega | exact bI_r _ | exact iI_r _) (by first | omega | exact bI_r _ | exact iI_r _) (fun h_43 => ?_) (fun h_43 => ?_)
          · skip
            exact fin9 _
          refine s_iload_n 47 dX6_read_46 rfl rfl ?_
          refine s_if_eq 79 50 dX6_read_47 rfl rfl (by first | omega | exact bI_r _ | exact iI_r _) (fun h_47 => ?_) (fun h_47 => by exfalso; omega)
          exact fin9 _
        | inr b =>
          have hb2 := hp2 b rfl
          have s5 : I1 79 3 = clS (tkE bt n b) := s.2.2.2.2.2.2.2.2.1
          by_cases z : tkE bt n b = 59
          · have er : rsF bt n (f + 1) r1 (.inr b) = rsF bt n f (liR bt n r1 (nxE bt n b)) (liO bt n r1 (nxE bt n b)) := pick_t z
            rw [er] at e1 e2
            have hlt := tkE_59 z
            have nx := nxE_v (bt := bt) (n := n) (a := b) hb2.2.1
            have hp3 := pge_li (bt := bt) (r := r1) (n := n) (a := nxE bt n b) nx.2.1
            rw [isE_r]
            refine s_iload 40 dX6_read_38 rfl rfl ?_
            refine s_sipush 43 dX6_read_40 rfl (by decide) ?_
            refine s_icmp_ge 79 46 dX6_read_43 rfl rfl (by first | omega | exact bI_r _ | exact iI_r _) (by first | omega | exact bI_r _ | exact iI_r _) (fun h_43 => by exfalso; omega) (fun h_43 => ?_)
            refine s_iload_n 47 dX6_read_46 rfl rfl ?_
            refine s_if_eq 79 50 dX6_read_47 rfl rfl (by first | omega | exact bI_r _ | exact iI_r _) (fun h_47 => by exfalso; omega) (fun h_47 => ?_)
            refine s_aload_n 51 dX6_read_50 rfl rfl ?_
            refine s_getR 54 dX6_read_51 rfl fl_X6_27 (fun _ _ _ _ => rfl) (T_X6_tokens hT) sh_75 (Nat.le_of_ble_eq_true rfl) ?_
            refine s_getI 57 dX6_read_54 rfl fl_X6_55 (fun _ _ _ _ => rfl) sh_79 (Nat.le_of_ble_eq_true rfl) (fun r_54 => ?_)
            rw [s5, z]
            refine s_iconst 58 dX6_read_57 rfl ?_
            refine s_icmp_ne 79 61 dX6_read_58 rfl rfl (by decide) (by decide) (fun h_58 => by exfalso; exact h_58 rfl) (fun h_58 => ?_)
            refine s_aload_n 62 dX6_read_61 rfl rfl ?_
            refine s_getR 65 dX6_read_62 rfl fl_X6_27 (fun _ _ _ _ => rfl) (T_X6_tokens hT) sh_75 (Nat.le_of_ble_eq_true rfl) ?_
            refine s_callV0 (M' := M_X10_move) (as := []) 68 dX6_read_65 rfl cw_X6_58 rfl rfl sh_79 rfl (by decide) (Nat.le_of_ble_eq_true rfl) (Nat.le_of_ble_eq_true rfl) (Nat.le_of_ble_eq_true rfl) (Nat.le_of_ble_eq_true rfl) ⟨rfl, rfl, rfl⟩ ?_
            refine c_X10_move2 hT s.1 hn hb s.2.2.2.2 (fun I2 L2 g1 g2 => ?_)
            refine s_aload_n 69 dX6_read_68 rfl rfl ?_
            refine s_callV0 (M' := M_X6_line) (as := []) 72 dX6_read_69 rfl cw_X6_51 rfl rfl sh_75 rfl (by decide) (Nat.le_of_ble_eq_true rfl) (Nat.le_of_ble_eq_true rfl) (Nat.le_of_ble_eq_true rfl) (Nat.le_of_ble_eq_true rfl) ⟨rfl, rfl, rfl⟩ ?_
            refine c_X6_line hT hP hRP hn hb (hw id) (s.mv hP (hw id) g1 g2) (fun I3 L3 g3 g4 => ?_)
            refine s_istore_n (ls' := [_, _, _, _, _]) 73 dX6_read_72 rfl (Nat.le_of_ble_eq_true rfl) rfl rfl ?_
            refine s_iinc (ls' := [_, _, _, _, _]) 76 dX6_read_73 rfl rfl (Nat.le_of_ble_eq_true rfl) rfl rfl ?_
            refine s_goto 38 dX6_read_76 rfl ?_
            refine ih (i + 1) I3 L3 (liR bt n r1 (nxE bt n b)) (liO bt n r1 (nxE bt n b)) ((f0.tr (RdF.tm g1)).tr g3) g4 (fun y => liR_w (hw id) y) (fun b2 y => ?_) (by omega) (by omega) e1 e2
            rw [y] at hp3
            have h3 := hp3.1
            have h4 := hp3.2
            have h5 := nx.2.2 hlt
            omega
          · have er : rsF bt n (f + 1) r1 (.inr b) = (.inr b, r1) := pick_f z
            rw [er] at e1 e2
            have fin9 := fin I1 L1 r1 (.inr b) f0 s hw e1.symm (fun _ => (e2 (by rw [← e1]; exact id)).symm)
            rw [isE_r] at fin9 ⊢
            refine s_iload 40 dX6_read_38 rfl rfl ?_
            refine s_sipush 43 dX6_read_40 rfl (by decide) ?_
            refine s_icmp_ge 79 46 dX6_read_43 rfl rfl (by first | omega | exact bI_r _ | exact iI_r _) (by first | omega | exact bI_r _ | exact iI_r _) (fun h_43 => ?_) (fun h_43 => ?_)
            · skip
              exact fin9 _
            refine s_iload_n 47 dX6_read_46 rfl rfl ?_
            refine s_if_eq 79 50 dX6_read_47 rfl rfl (by first | omega | exact bI_r _ | exact iI_r _) (fun h_47 => by exfalso; omega) (fun h_47 => ?_)
            refine s_aload_n 51 dX6_read_50 rfl rfl ?_
            refine s_getR 54 dX6_read_51 rfl fl_X6_27 (fun _ _ _ _ => rfl) (T_X6_tokens hT) sh_75 (Nat.le_of_ble_eq_true rfl) ?_
            refine s_getI 57 dX6_read_54 rfl fl_X6_55 (fun _ _ _ _ => rfl) sh_79 (Nat.le_of_ble_eq_true rfl) (fun r_54 => ?_)
            rw [s5]
            refine s_iconst 58 dX6_read_57 rfl ?_
            refine s_icmp_ne 79 61 dX6_read_58 rfl rfl (by first | omega | (unfold clS; omega)) (by first | omega | (unfold clS; omega)) (fun h_58 => ?_) (fun h_58 => by exfalso; exact z ((clS_i (u := 59) (by omega)).mp (by rw [h_58]; rfl)))
            exact fin9 _
    refine s_aload_n 6 dX6_read_5 rfl rfl ?_
    refine s_getR 9 dX6_read_6 rfl fl_X6_31 (fun _ _ _ _ => rfl) (by assumption) sh_75 (Nat.le_of_ble_eq_true rfl) ?_
    refine s_callV0 (M' := M_X5_clear) (as := []) 12 dX6_read_9 rfl cw_X6_35 rfl rfl (isP_sh (by assumption)) rfl (by decide) (isP_lt (by assumption)) (Nat.le_of_ble_eq_true rfl) (Nat.le_of_ble_eq_true rfl) (Nat.le_of_ble_eq_true rfl) ⟨rfl, rfl, rfl⟩ ?_
    refine c_X5_clear hT hP (fun I2 m1 m2 m3 => ?_)
    refine s_aload_n 13 dX6_read_12 rfl rfl ?_
    refine s_iconst 14 dX6_read_13 rfl ?_
    refine s_putI 17 dX6_read_14 rfl fl_X6_40 (fun _ => rfl) (fun _ => rfl) (fun _ _ _ _ => rfl) sh_75 (Nat.le_of_ble_eq_true rfl) (by first | omega | exact bI_r _ | exact iI_r _) ?_
    refine s_aload_n 18 dX6_read_17 rfl rfl ?_
    refine s_iconst 19 dX6_read_18 rfl ?_
    refine s_putI 22 dX6_read_19 rfl fl_X6_44 (fun _ => rfl) (fun _ => rfl) (fun _ _ _ _ => rfl) sh_75 (Nat.le_of_ble_eq_true rfl) (by first | omega | exact bI_r _ | exact iI_r _) ?_
    refine s_aload_n 23 dX6_read_22 rfl rfl ?_
    refine s_getR 26 dX6_read_23 rfl fl_X6_27 (fun _ _ _ _ => rfl) (T_X6_tokens hT) sh_75 (Nat.le_of_ble_eq_true rfl) ?_
    refine s_iload_n 27 dX6_read_26 rfl rfl ?_
    refine s_callV0 (M' := M_X10_start) (as := [_]) 30 dX6_read_27 rfl cw_X6_47 rfl rfl sh_79 rfl (by decide) (Nat.le_of_ble_eq_true rfl) (Nat.le_of_ble_eq_true rfl) (Nat.le_of_ble_eq_true rfl) (Nat.le_of_ble_eq_true rfl) ⟨rfl, rfl, rfl⟩ ?_
    refine c_X10_start (bt := bt) hT (by rw [up_ne (by decide), up_ne (by decide), m1 2 (by omega)]; exact et) hn hb (fun I3 L3 g1 g2 g3 => ?_)
    have e : ∀ c, c ≠ 75 → c ≠ 79 → I3 c = I2 c := fun c c1 c2 => by rw [g1 c (by simpa using c2), up_ne c1, up_ne c1]
    have k3 : RdK I3 L3 bt n P (fun _ => 0) (skE bt n 0) := ⟨by rw [e 2 (by decide) (by decide), m1 2 (by omega)]; exact et, m3.cr hP WFp_0 (fun c c1 _ c3 => e c c1 c3), ⟨fun p _ h2 => absurd (show p < 0 from h2) (by omega), fun p _ h2 => absurd (show p < 0 from h2) (by omega)⟩, by rw [g1 75 (by decide), upn (by decide), ups], g3⟩
    have f3 : RdF P I L I3 L3 := ⟨fun c c1 c2 c3 c4 => by rw [e c c1 c3]; exact m1 c c4, fun c _ _ c3 => g2 c c3⟩
    refine s_aload_n 31 dX6_read_30 rfl rfl ?_
    refine s_callV0 (M' := M_X6_line) (as := []) 34 dX6_read_31 rfl cw_X6_51 rfl rfl sh_75 rfl (by decide) (Nat.le_of_ble_eq_true rfl) (Nat.le_of_ble_eq_true rfl) (Nat.le_of_ble_eq_true rfl) (Nat.le_of_ble_eq_true rfl) ⟨rfl, rfl, rfl⟩ ?_
    refine c_X6_line hT hP hRP hn hb WFp_0 k3 (fun I4 L4 g4 g5 => ?_)
    refine s_istore_n (ls' := [_, _, _, _, _]) 35 dX6_read_34 rfl (Nat.le_of_ble_eq_true rfl) rfl rfl ?_
    refine s_iconst 36 dX6_read_35 rfl ?_
    refine s_istore (ls' := [_, _, _, _, _]) 38 dX6_read_36 rfl (Nat.le_of_ble_eq_true rfl) rfl rfl ?_
    have sk := skE_v (bt := bt) (n := n) (e := 0) hn.1
    have hp3 := pge_li (bt := bt) (r := fun _ => 0) (n := n) (a := skE bt n 0) sk.2
    refine lines 902 0 I4 L4 (liR bt n (fun _ => 0) (skE bt n 0)) (liO bt n (fun _ => 0) (skE bt n 0)) (f3.tr g4) g5 (fun y => liR_w WFp_0 y) (fun b y => ?_) (by omega) (by omega) rfl (fun _ => rfl)
    rw [y] at hp3
    have h3 := hp3.1
    have h4 := hp3.2
    omega
  refine s_aload_n 1 dX6_read_0 rfl rfl ?_
  refine s_aload_n 2 dX6_read_1 rfl rfl ?_
  refine s_putR 5 dX6_read_2 rfl fl_X6_31 (fun _ => rfl) (fun _ => rfl) (fun _ _ _ _ => rfl) sh_75 (Nat.le_of_ble_eq_true rfl) ?_
  exact body _ rfl (Topo_up hT (fun b hb => absurd (List.mem_map_of_mem (f := fun t : Nat × Int × Nat => (t.1, t.2.1)) hb) (show ¬ ((75, 5) : Nat × Int) ∈ TOPO.map (fun t : Nat × Int × Nat => (t.1, t.2.1)) by decide +kernel))) upsR
