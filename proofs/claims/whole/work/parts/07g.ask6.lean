/-! what the class answers, 6 -/
theorem lendF_st {r : F1} {rd g : Int} {s : F1} {p : Int} (h : 0 ≤ p) : lendF r rd g s (p + 1).toNat = if lentF r rd g s p = -2 ∨ (lendF r rd g s p.toNat ≠ -2 ∧ lentF r rd g s p ≥ lentF r rd g s (lendF r rd g s p.toNat)) then lendF r rd g s p.toNat else p := by
  rw [show (p + 1).toNat = p.toNat + 1 by omega]
  show (if lentF r rd g s (p.toNat : Nat) = -2 ∨ _ then _ else ((p.toNat : Nat) : Int)) = _
  rw [show ((p.toNat : Nat) : Int) = p by omega]
set_option maxHeartbeats 4000000 in
theorem c_X11_lend {E : ET} {I : MI} {L : ML} {R : MR} {Q : Option AV → MI → ML → MR → Prop} {m : Int} {bt : F1} {n ft pl w : Int} {HP : Prop} {r s : F1} {a : List Int} {U D K : List (List Int)} {P P' : Nat} (hT : Topo R) (hC : CV I L R m bt n ft pl w HP r s a U D K P P') (hm : 0 ≤ m ∧ m ≤ 900000) (h : ∀ I', Hi I I' → CV I' L R (m + 8) bt n ft pl (pick HP 0 1) HP r s a U D K P P' → Q (some (vi (pick HP (lendF r (-1) (r 2) s (r 4).toNat) (-1)))) I' L R) : CT E M_X11_lend 161 yX11_lend [(vr (0))] I L R Q := by
  refine CT_of rfl rfl (fun h => by cases h) (Nat.le_of_ble_eq_true rfl) (fun X => ?_)
  show V X _ z0 0 [some (vr (0)), none, none, none, none] [] I L R _
  obtain ⟨hn, hy⟩ := c_spl hC h
  have bd := hC.bd
  have hP := hC.1.1
  have t2 := hC.1.2.2.2.1
  have loop : HP → ∀ (f : Nat) (p ls : Int) (I1 : MI) (w4 : Option AV), r 4 - p < (f : Int) → 0 ≤ p → p ≤ r 4 → Hi I I1 → CV I1 L R (m + p) bt n ft pl w HP r s a U D K P P' → (-2 ≤ ls ∧ ls ≤ 7) → (lendF r (-1) (r 2) s p.toNat ≠ -2 → ls = lentF r (-1) (r 2) s (lendF r (-1) (r 2) s p.toNat)) → V X M_X11_lend z0 21 [some (vr (0)), some (vi (ls)), some (vi (lendF r (-1) (r 2) s p.toNat)), some (vi (p)), w4] [] (I1) L R (RT X M_X11_lend Q) := by
    intro hh f
    obtain ⟨hs, hw9, hN⟩ := hC.2.2.2.2.2.2.1 hh
    induction f with
    | zero => intro p ls I1 w4 h1 h2 h3; omega
    | succ f ih =>
      intro p ls I1 w4 h1 h2 h3 g1 g2 h4 h5
      have e4 := g2.2.2.1.1.2.2.2.1
      have hb := lendF_b r (-1) (r 2) s p.toNat
      have hst := lendF_st (r := r) (rd := -1) (g := r 2) (s := s) h2
      by_cases hp : p < r 4
      · have stay : ∀ (I2 : MI) (w4 : Option AV), Hi I I2 → CV I2 L R (m + (p + 1)) bt n ft pl w HP r s a U D K P P' → lentF r (-1) (r 2) s p = -2 ∨ (lendF r (-1) (r 2) s p.toNat ≠ -2 ∧ lentF r (-1) (r 2) s p ≥ ls) → V X M_X11_lend z0 63 [some (vr (0)), some (vi (ls)), some (vi (lendF r (-1) (r 2) s p.toNat)), some (vi (p)), w4] [] (I2) L R (RT X M_X11_lend Q) := by
          intro I2 w4 j1 j2 j3
          have e : lendF r (-1) (r 2) s (p + 1).toNat = lendF r (-1) (r 2) s p.toNat := by
            rw [hst, if_pos]
            rcases j3 with z | z
            · exact Or.inl z
            · exact Or.inr ⟨z.1, by rw [← h5 z.1]; exact z.2⟩
          refine s_iinc (ls' := [_, _, _, _, _]) 66 dX11_lend_63 rfl rfl (Nat.le_of_ble_eq_true rfl) rfl rfl ?_
          refine s_goto 21 dX11_lend_66 rfl ?_
          have := ih (p + 1) ls I2 w4 (by omega) (by omega) (by omega) j1 j2 h4 (by rw [e]; exact h5)
          rw [e] at this; exact this
        have take : ∀ (I2 : MI) (w4 : Option AV), Hi I I2 → CV I2 L R (m + (p + 1)) bt n ft pl w HP r s a U D K P P' → (0 ≤ lentF r (-1) (r 2) s p ∧ lentF r (-1) (r 2) s p ≤ 7) → (lendF r (-1) (r 2) s p.toNat = -2 ∨ lentF r (-1) (r 2) s p < ls) → V X M_X11_lend z0 63 [some (vr (0)), some (vi (lentF r (-1) (r 2) s p)), some (vi (p)), some (vi (p)), w4] [] (I2) L R (RT X M_X11_lend Q) := by
          intro I2 w4 j1 j2 j3 j4
          have e : lendF r (-1) (r 2) s (p + 1).toNat = p := by
            rw [hst, if_neg]
            rintro (z | ⟨z1, z2⟩)
            · omega
            · have := h5 z1
              omega
          refine s_iinc (ls' := [_, _, _, _, _]) 66 dX11_lend_63 rfl rfl (Nat.le_of_ble_eq_true rfl) rfl rfl ?_
          refine s_goto 21 dX11_lend_66 rfl ?_
          have := ih (p + 1) (lentF r (-1) (r 2) s p) I2 w4 (by omega) (by omega) (by omega) j1 j2 (by omega) (by rw [e]; exact fun _ => rfl)
          rw [e] at this; exact this
        refine s_iload_n 22 dX11_lend_21 rfl rfl ?_
        refine s_aload_n 23 dX11_lend_22 rfl rfl ?_
        refine s_getR 26 dX11_lend_23 rfl fl_X11_19 (fun _ _ _ _ => rfl) (by assumption) sh_0 (Nat.le_of_ble_eq_true rfl) ?_
        refine s_getI 29 dX11_lend_26 rfl fl_X11_142 (fun _ _ _ _ => rfl) (isP_sh (by assumption)) (isP_lt (by assumption)) (fun r_26 => ?_)
        rw [e4]
        refine s_icmp_ge 69 32 dX11_lend_29 rfl rfl (by first | omega | exact bI_r _ | exact iI_r _) (by first | omega | exact bI_r _ | exact iI_r _) (fun h_29 => by exfalso; omega) (fun h_29 => ?_)
        refine s_aload_n 33 dX11_lend_32 rfl rfl ?_
        refine s_iload_n 34 dX11_lend_33 rfl rfl ?_
        refine s_callV0 (M' := M_X11_fewestWithout) (as := [_]) 37 dX11_lend_34 rfl cw_X11_293 rfl rfl sh_0 rfl (by decide) (Nat.le_of_ble_eq_true rfl) (Nat.le_of_ble_eq_true rfl) (Nat.le_of_ble_eq_true rfl) (Nat.le_of_ble_eq_true rfl) ⟨rfl, rfl, rfl⟩ ?_
        refine c_X11_fewestWithout hT g2 hh (by omega) ⟨h2, hp⟩ (fun I2 k1 k2 k3 => ?_)
        have k2 := k2.mo (m' := m + (p + 1)) (by omega)
        have k1 := g1.tr k1
        refine s_istore (ls' := [_, _, _, _, _]) 39 dX11_lend_37 rfl (Nat.le_of_ble_eq_true rfl) rfl rfl ?_
        refine s_iload 41 dX11_lend_39 rfl rfl ?_
        refine s_bipush 43 dX11_lend_41 rfl (by decide) ?_
        refine s_icmp_eq 63 46 dX11_lend_43 rfl rfl (by first | omega | exact bI_r _ | exact iI_r _) (by first | omega | exact bI_r _ | exact iI_r _) (fun h_43 => ?_) (fun h_43 => ?_)
        · skip
          first | exact stay I2 _ k1 k2 (Or.inl (by omega)) | exact stay I2 _ k1 k2 (Or.inr ⟨by omega, by omega⟩) | exact take I2 _ k1 k2 (by omega) (Or.inl (by omega)) | exact take I2 _ k1 k2 (by omega) (Or.inr (by omega))
        refine s_iload_n 47 dX11_lend_46 rfl rfl ?_
        refine s_bipush 49 dX11_lend_47 rfl (by decide) ?_
        refine s_icmp_eq 58 52 dX11_lend_49 rfl rfl (by first | omega | exact bI_r _ | exact iI_r _) (by first | omega | exact bI_r _ | exact iI_r _) (fun h_49 => ?_) (fun h_49 => ?_)
        · skip
          refine s_iload 60 dX11_lend_58 rfl rfl ?_
          refine s_istore_n (ls' := [_, _, _, _, _]) 61 dX11_lend_60 rfl (Nat.le_of_ble_eq_true rfl) rfl rfl ?_
          refine s_iload_n 62 dX11_lend_61 rfl rfl ?_
          refine s_istore_n (ls' := [_, _, _, _, _]) 63 dX11_lend_62 rfl (Nat.le_of_ble_eq_true rfl) rfl rfl ?_
          first | exact stay I2 _ k1 k2 (Or.inl (by omega)) | exact stay I2 _ k1 k2 (Or.inr ⟨by omega, by omega⟩) | exact take I2 _ k1 k2 (by omega) (Or.inl (by omega)) | exact take I2 _ k1 k2 (by omega) (Or.inr (by omega))
        refine s_iload 54 dX11_lend_52 rfl rfl ?_
        refine s_iload_n 55 dX11_lend_54 rfl rfl ?_
        refine s_icmp_ge 63 58 dX11_lend_55 rfl rfl (by first | omega | exact bI_r _ | exact iI_r _) (by first | omega | exact bI_r _ | exact iI_r _) (fun h_55 => ?_) (fun h_55 => ?_)
        · skip
          first | exact stay I2 _ k1 k2 (Or.inl (by omega)) | exact stay I2 _ k1 k2 (Or.inr ⟨by omega, by omega⟩) | exact take I2 _ k1 k2 (by omega) (Or.inl (by omega)) | exact take I2 _ k1 k2 (by omega) (Or.inr (by omega))
        refine s_iload 60 dX11_lend_58 rfl rfl ?_
        refine s_istore_n (ls' := [_, _, _, _, _]) 61 dX11_lend_60 rfl (Nat.le_of_ble_eq_true rfl) rfl rfl ?_
        refine s_iload_n 62 dX11_lend_61 rfl rfl ?_
        refine s_istore_n (ls' := [_, _, _, _, _]) 63 dX11_lend_62 rfl (Nat.le_of_ble_eq_true rfl) rfl rfl ?_
        first | exact stay I2 _ k1 k2 (Or.inl (by omega)) | exact stay I2 _ k1 k2 (Or.inr ⟨by omega, by omega⟩) | exact take I2 _ k1 k2 (by omega) (Or.inl (by omega)) | exact take I2 _ k1 k2 (by omega) (Or.inr (by omega))
      · have ep : p = r 4 := by omega
        refine s_iload_n 22 dX11_lend_21 rfl rfl ?_
        refine s_aload_n 23 dX11_lend_22 rfl rfl ?_
        refine s_getR 26 dX11_lend_23 rfl fl_X11_19 (fun _ _ _ _ => rfl) (by assumption) sh_0 (Nat.le_of_ble_eq_true rfl) ?_
        refine s_getI 29 dX11_lend_26 rfl fl_X11_142 (fun _ _ _ _ => rfl) (isP_sh (by assumption)) (isP_lt (by assumption)) (fun r_26 => ?_)
        rw [e4]
        refine s_icmp_ge 69 32 dX11_lend_29 rfl rfl (by first | omega | exact bI_r _ | exact iI_r _) (by first | omega | exact bI_r _ | exact iI_r _) (fun h_29 => ?_) (fun h_29 => by exfalso; omega)
        refine s_aload_n 70 dX11_lend_69 rfl rfl ?_
        refine s_iload_n 71 dX11_lend_70 rfl rfl ?_
        refine s_callV0 (M' := M_X11_fine) (as := [_]) 74 dX11_lend_71 rfl cw_X11_119 rfl rfl sh_0 rfl (by decide) (Nat.le_of_ble_eq_true rfl) (Nat.le_of_ble_eq_true rfl) (Nat.le_of_ble_eq_true rfl) (Nat.le_of_ble_eq_true rfl) ⟨rfl, rfl, rfl⟩ ?_
        refine c_X11_fine ?_
        refine s_iret dX11_lend_74 rfl rfl ?_
        subst ep; exact hy hh I1 _ (by omega) g1 g2
  refine s_aload_n 1 dX11_lend_0 rfl rfl ?_
  refine s_callV0 (M' := M_X11_noPiece) (as := []) 4 dX11_lend_1 rfl cw_X11_151 rfl rfl sh_0 rfl (by decide) (Nat.le_of_ble_eq_true rfl) (Nat.le_of_ble_eq_true rfl) (Nat.le_of_ble_eq_true rfl) (Nat.le_of_ble_eq_true rfl) ⟨rfl, rfl, rfl⟩ ?_
  refine c_X11_noPiece hC ?_
  refine s_ifb_eq 13 7 dX11_lend_4 rfl rfl (fun h_4 => ?_) (fun h_4 => ?_)
  · skip
    refine s_bipush 15 dX11_lend_13 rfl (by decide) ?_
    refine s_istore_n (ls' := [_, _, _, _, _]) 16 dX11_lend_15 rfl (Nat.le_of_ble_eq_true rfl) rfl rfl ?_
    refine s_bipush 18 dX11_lend_16 rfl (by decide) ?_
    refine s_istore_n (ls' := [_, _, _, _, _]) 19 dX11_lend_18 rfl (Nat.le_of_ble_eq_true rfl) rfl rfl ?_
    refine s_iconst 20 dX11_lend_19 rfl ?_
    refine s_istore_n (ls' := [_, _, _, _, _]) 21 dX11_lend_20 rfl (Nat.le_of_ble_eq_true rfl) rfl rfl ?_
    exact loop (nn_n h_4) 9 0 (-2) I _ (by omega) (by omega) (by omega) Hi.rf (hC.mo (by omega)) (by omega) (fun z => absurd rfl z)
  refine s_aload_n 8 dX11_lend_7 rfl rfl ?_
  refine s_iconst 9 dX11_lend_8 rfl ?_
  refine s_callV0 (M' := M_X11_refuse) (as := [_]) 12 dX11_lend_9 rfl cw_X11_102 rfl rfl sh_0 rfl (by decide) (Nat.le_of_ble_eq_true rfl) (Nat.le_of_ble_eq_true rfl) (Nat.le_of_ble_eq_true rfl) (Nat.le_of_ble_eq_true rfl) ⟨rfl, rfl, rfl⟩ ?_
  refine c_X11_refuse (by decide) ?_
  refine s_iret dX11_lend_12 rfl rfl ?_
  exact hn h_4
set_option maxHeartbeats 4000000 in
theorem c_X11_troubled {E : ET} {I : MI} {L : ML} {R : MR} {Q : Option AV → MI → ML → MR → Prop} {m : Int} {bt : F1} {n ft pl w : Int} {HP : Prop} {r s : F1} {a : List Int} {U D K : List (List Int)} {P P' : Nat} (hT : Topo R) (hC : CV I L R m bt n ft pl w HP r s a U D K P P') (hm : 0 ≤ m ∧ m ≤ 900000) (h : ∀ I', Hi I I' → CV I' L R (m + 8) bt n ft pl (pick HP 0 1) HP r s a U D K P P' → Q (some (vi (pick HP (trF r (bgF r (r 2) s) (clF r (r 2) s) (sqF r (r 2) s) s) (-1)))) I' L R) : CT E M_X11_troubled 161 yX11_troubled [(vr (0))] I L R Q := by
  refine CT_of rfl rfl (fun h => by cases h) (Nat.le_of_ble_eq_true rfl) (fun X => ?_)
  show V X _ z0 0 [some (vr (0)), none, none, none, none, none] [] I L R _
  obtain ⟨hn, hy⟩ := c_spl hC h
  have bd := hC.bd
  have hP := hC.1.1
  have t2 := hC.1.2.2.2.1
  have loop : HP → ∀ (I1 : MI), Hi I I1 → CV I1 L R (m + 1) bt n ft pl w HP r s a U D K P P' → SetN I1 85 r (-1) (I1 80 0) (r 2) s (s 12) → ∀ (f : Nat) (t A : Int) (w4 w5 : Option AV), r 7 - t < (f : Int) → 0 ≤ t → t ≤ r 7 → (∀ k, 0 ≤ k → k < 32 → (hasI A k ↔ (∃ j, 0 ≤ j ∧ j < t ∧ sqF r (r 2) s j = k) ∧ ¬ hasI (s 12) k)) → (∀ j, 0 ≤ j → j < t → ¬ hasI (s 12) (sqF r (r 2) s j) → Can r (-1) (bgF r (r 2) s) (clF r (r 2) s) (sqF r (r 2) s) (TrS r (sqF r (r 2) s) s j)) →
      V X M_X11_troubled z0 22 [some (vr (0)), some (vr (85)), some (vi (A)), some (vi (t)), w4, w5] [] (I1) L R (RT X M_X11_troubled Q) := by
    intro hh I1 g1 g2 g3 f
    obtain ⟨hs, hw9, hN⟩ := g2.2.2.2.2.2.2.1 hh
    have hrr := hs.1
    have e0 := hrr.1
    have e7 := g2.2.2.1.1.2.2.2.2.2.2.1
    have hE := g2.2.2.2.1
    have hq := sq_P (g := r 2) (sc := s) hrr
    obtain ⟨q, eq⟩ : ∃ q, q = sqF r (r 2) s := ⟨_, rfl⟩
    have n85 : isN 85 := isN_85
    have sqr : ∀ i, 0 ≤ i → i < r 7 → I1 106 i = q i := by rw [eq]; exact g3.2.2.2.1.2.2.1
    have fin : ∀ x, TrV r (bgF r (r 2) s) (clF r (r 2) s) q s x → Q (some (vi x)) (up I1 0 10 0) L R := fun x hx => by
      have := hy hh I1 (m + 1) (by omega) g1 g2
      rw [← eq, hx.v (by rw [eq]; exact fun i a b => hq.1 i a b)] at this
      exact this
    rw [← eq] at hq ⊢
    induction f with
    | zero => intro t A w4 w5 h1 h2 h3; omega
    | succ f ih =>
      intro t A w4 w5 h1 h2 h3 h4 h5
      by_cases ht : t < r 7
      · have q1 := hq.1 t h2 ht
        have k1 := hrr.2.2.2.1 (q t) q1.1 q1.2
        have k2 := hs.2.2.2.1 (r (54 + 7 * q t + 0)) (by omega) (by omega)
        have rk := g2.2.2.1.2.2.2.1 (q t) q1.1 q1.2
        unfold rowO at rk
        have sq1 := sqr t h2 ht
        by_cases hc : hasI (s 12) (q t)
        · skip
          refine s_iload_n 23 dX11_troubled_22 rfl rfl ?_
          refine s_aload_n 24 dX11_troubled_23 rfl rfl ?_
          refine s_getR 27 dX11_troubled_24 rfl fl_X11_19 (fun _ _ _ _ => rfl) (by assumption) sh_0 (Nat.le_of_ble_eq_true rfl) ?_
          refine s_getI 30 dX11_troubled_27 rfl fl_X11_116 (fun _ _ _ _ => rfl) (isP_sh (by assumption)) (isP_lt (by assumption)) (fun r_27 => ?_)
          rw [e7]
          refine s_icmp_ge 109 33 dX11_troubled_30 rfl rfl (by first | omega | exact bI_r _ | exact iI_r _) (by first | omega | exact bI_r _ | exact iI_r _) (fun h_30 => by exfalso; omega) (fun h_30 => ?_)
          refine s_aload_n 34 dX11_troubled_33 rfl rfl ?_
          refine s_getR 37 dX11_troubled_34 rfl fl_X11_243 (fun _ _ _ _ => rfl) (T_X4_row hT (by assumption)) (isN_sh (by assumption)) (isN_lt (by assumption)) ?_
          refine s_iload_n 38 dX11_troubled_37 rfl rfl ?_
          refine s_iald 39 dX11_troubled_38 rfl (shN_row (by assumption)) (ltN_row (by assumption)) (by omega) (by omega) (fun r_38 => ?_)
          rw [sq1]
          refine s_istore (ls' := [_, _, _, _, _, _]) 41 dX11_troubled_39 rfl (Nat.le_of_ble_eq_true rfl) rfl rfl ?_
          refine s_aload_n 42 dX11_troubled_41 rfl rfl ?_
          refine s_getR 45 dX11_troubled_42 rfl fl_X11_38 (fun _ _ _ _ => rfl) (T_X11_evening hT) sh_0 (Nat.le_of_ble_eq_true rfl) ?_
          refine s_iload 47 dX11_troubled_45 rfl rfl ?_
          refine s_callV0 (M' := M_X2_isCut) (as := [_]) 50 dX11_troubled_47 rfl cw_X11_246 rfl rfl sh_80 rfl (by decide) (Nat.le_of_ble_eq_true rfl) (Nat.le_of_ble_eq_true rfl) (Nat.le_of_ble_eq_true rfl) (Nat.le_of_ble_eq_true rfl) ⟨rfl, rfl, rfl⟩ ?_
          refine c_X2_isCut hE.2.2 ?_
          refine s_ifb_ne 103 53 dX11_troubled_50 rfl rfl (fun h_50 => ?_) (fun h_50 => by exfalso; exact h_50 hc)
          refine s_iinc (ls' := [_, _, _, _, _, _]) 106 dX11_troubled_103 rfl rfl (Nat.le_of_ble_eq_true rfl) rfl rfl ?_
          refine s_goto 22 dX11_troubled_106 rfl ?_
          refine ih (t + 1) A _ _ (by omega) (by omega) (by omega) (fun k z1 z2 => ?_) (fun j z1 z2 z3 => ?_)
          · rw [h4 k z1 z2]
            constructor
            · rintro ⟨⟨j, j1, j2, j3⟩, y⟩; exact ⟨⟨j, j1, by omega, j3⟩, y⟩
            · rintro ⟨⟨j, j1, j2, j3⟩, y⟩
              refine ⟨⟨j, j1, ?_, j3⟩, y⟩
              apply Classical.byContradiction
              intro z
              have : j = t := by omega
              rw [this] at j3
              rw [j3] at hc
              exact y hc
          · by_cases ej : j = t
            · rw [ej] at z3; exact absurd hc z3
            · exact h5 j z1 (by omega) z3
        · have hA : ∀ k, 0 ≤ k → k < 32 → (hasI (ior A (ishl 1 (q t))) k ↔ (∃ j, 0 ≤ j ∧ j < t + 1 ∧ q j = k) ∧ ¬ hasI (s 12) k) := by
            intro k z1 z2
            rw [has_or ⟨z1, z2⟩, h4 k z1 z2, has_shl (by omega) ⟨z1, z2⟩]
            constructor
            · rintro (⟨⟨j, j1, j2, j3⟩, y⟩ | y)
              · exact ⟨⟨j, j1, by omega, j3⟩, y⟩
              · exact ⟨⟨t, h2, by omega, y.symm⟩, by rw [y]; exact hc⟩
            · rintro ⟨⟨j, j1, j2, j3⟩, y⟩
              by_cases ej : j = t
              · rw [ej] at j3; exact Or.inr j3.symm
              · exact Or.inl ⟨⟨j, j1, by omega, j3⟩, y⟩
          have hset : Can r (-1) (bgF r (r 2) s) (clF r (r 2) s) q (fun k => hasI (iand (ior A (ishl 1 (q t))) (plS r s (s (5 + r (54 + 7 * q t + 0))))) k) ↔ Can r (-1) (bgF r (r 2) s) (clF r (r 2) s) q (TrS r q s t) := by
            refine Can_c (S := TrS r q s t) hrr hq (fun _ _ _ => ⟨rfl, rfl⟩) (fun _ _ _ => rfl) (fun k z1 z2 => ?_)
            rw [has_and ⟨z1, by omega⟩, hA k z1 (by omega), has_plS hrr ⟨z1, by omega⟩]
            unfold TrS
            constructor
            · rintro ⟨⟨j, j1, j2, j3⟩, y⟩; exact ⟨⟨⟨j, j1, by omega, j3⟩, y.2⟩, z2, y⟩
            · rintro ⟨⟨⟨j, j1, j2, j3⟩, _⟩, _, y⟩; exact ⟨⟨j, j1, by omega, j3⟩, y⟩
          have hi9 : ∀ k, r 7 ≤ k → k < 32 → ¬ hasI (iand (ior A (ishl 1 (q t))) (plS r s (s (5 + r (54 + 7 * q t + 0))))) k := fun k z1 z2 z => plS_hi hrr k z1 z2 ((has_and ⟨by omega, z2⟩).mp z).2
          have k2' : 0 ≤ s (5 + r (54 + 7 * q t + 0)) ∧ s (5 + r (54 + 7 * q t + 0)) < 7 := by omega
          refine s_iload_n 23 dX11_troubled_22 rfl rfl ?_
          refine s_aload_n 24 dX11_troubled_23 rfl rfl ?_
          refine s_getR 27 dX11_troubled_24 rfl fl_X11_19 (fun _ _ _ _ => rfl) (by assumption) sh_0 (Nat.le_of_ble_eq_true rfl) ?_
          refine s_getI 30 dX11_troubled_27 rfl fl_X11_116 (fun _ _ _ _ => rfl) (isP_sh (by assumption)) (isP_lt (by assumption)) (fun r_27 => ?_)
          rw [e7]
          refine s_icmp_ge 109 33 dX11_troubled_30 rfl rfl (by first | omega | exact bI_r _ | exact iI_r _) (by first | omega | exact bI_r _ | exact iI_r _) (fun h_30 => by exfalso; omega) (fun h_30 => ?_)
          refine s_aload_n 34 dX11_troubled_33 rfl rfl ?_
          refine s_getR 37 dX11_troubled_34 rfl fl_X11_243 (fun _ _ _ _ => rfl) (T_X4_row hT (by assumption)) (isN_sh (by assumption)) (isN_lt (by assumption)) ?_
          refine s_iload_n 38 dX11_troubled_37 rfl rfl ?_
          refine s_iald 39 dX11_troubled_38 rfl (shN_row (by assumption)) (ltN_row (by assumption)) (by omega) (by omega) (fun r_38 => ?_)
          rw [sq1]
          refine s_istore (ls' := [_, _, _, _, _, _]) 41 dX11_troubled_39 rfl (Nat.le_of_ble_eq_true rfl) rfl rfl ?_
          refine s_aload_n 42 dX11_troubled_41 rfl rfl ?_
          refine s_getR 45 dX11_troubled_42 rfl fl_X11_38 (fun _ _ _ _ => rfl) (T_X11_evening hT) sh_0 (Nat.le_of_ble_eq_true rfl) ?_
          refine s_iload 47 dX11_troubled_45 rfl rfl ?_
          refine s_callV0 (M' := M_X2_isCut) (as := [_]) 50 dX11_troubled_47 rfl cw_X11_246 rfl rfl sh_80 rfl (by decide) (Nat.le_of_ble_eq_true rfl) (Nat.le_of_ble_eq_true rfl) (Nat.le_of_ble_eq_true rfl) (Nat.le_of_ble_eq_true rfl) ⟨rfl, rfl, rfl⟩ ?_
          refine c_X2_isCut hE.2.2 ?_
          refine s_ifb_ne 103 53 dX11_troubled_50 rfl rfl (fun h_50 => by exfalso; exact hc h_50) (fun h_50 => ?_)
          refine s_iload_n 54 dX11_troubled_53 rfl rfl ?_
          refine s_iconst 55 dX11_troubled_54 rfl ?_
          refine s_iload 57 dX11_troubled_55 rfl rfl ?_
          refine s_ishl 58 dX11_troubled_57 rfl ?_
          refine s_ior 59 dX11_troubled_58 rfl ?_
          refine s_istore_n (ls' := [_, _, _, _, _, _]) 60 dX11_troubled_59 rfl (Nat.le_of_ble_eq_true rfl) rfl rfl ?_
          refine s_aload_n 61 dX11_troubled_60 rfl rfl ?_
          refine s_getR 64 dX11_troubled_61 rfl fl_X11_38 (fun _ _ _ _ => rfl) (T_X11_evening hT) sh_0 (Nat.le_of_ble_eq_true rfl) ?_
          refine s_aload_n 65 dX11_troubled_64 rfl rfl ?_
          refine s_getR 68 dX11_troubled_65 rfl fl_X11_19 (fun _ _ _ _ => rfl) (by assumption) sh_0 (Nat.le_of_ble_eq_true rfl) ?_
          refine s_getR 71 dX11_troubled_68 rfl fl_X11_249 (fun _ _ _ _ => rfl) (T_X5_ons hT (by assumption)) (isP_sh (by assumption)) (isP_lt (by assumption)) ?_
          refine s_iload 73 dX11_troubled_71 rfl rfl ?_
          refine s_aald 74 dX11_troubled_73 rfl (shP_ons (by assumption)) (ltP_ons (by assumption)) (by omega) (by decide) (T_X5_ons_row hT (by assumption) (by omega)) ?_
          refine s_iconst 75 dX11_troubled_74 rfl ?_
          refine s_iald 76 dX11_troubled_75 rfl (shP_ons_row (by assumption) (by omega)) (ltP_ons_row (by assumption) (by omega)) (by omega) (by omega) (fun r_75 => ?_)
          rw [rk.1]
          refine s_callV0 (M' := M_X2_playerOf) (as := [_]) 79 dX11_troubled_76 rfl cw_X11_253 rfl rfl sh_80 rfl (by decide) (Nat.le_of_ble_eq_true rfl) (Nat.le_of_ble_eq_true rfl) (Nat.le_of_ble_eq_true rfl) (Nat.le_of_ble_eq_true rfl) ⟨rfl, rfl, rfl⟩ ?_
          refine c_X2_playerOf (s := fun p => s (5 + p)) hE.2.1 (by omega) ?_
          refine s_istore (ls' := [_, _, _, _, _, _]) 81 dX11_troubled_79 rfl (Nat.le_of_ble_eq_true rfl) rfl rfl ?_
          refine s_aload_n 82 dX11_troubled_81 rfl rfl ?_
          refine s_iload_n 83 dX11_troubled_82 rfl rfl ?_
          refine s_aload_n 84 dX11_troubled_83 rfl rfl ?_
          refine s_iload 86 dX11_troubled_84 rfl rfl ?_
          refine s_callV0 (M' := M_X11_onsOf) (as := [_]) 89 dX11_troubled_86 rfl cw_X11_231 rfl rfl sh_0 rfl (by decide) (Nat.le_of_ble_eq_true rfl) (Nat.le_of_ble_eq_true rfl) (Nat.le_of_ble_eq_true rfl) (Nat.le_of_ble_eq_true rfl) ⟨rfl, rfl, rfl⟩ ?_
          refine c_X11_onsOf hT g2 hh k2' ?_
          refine s_iand 90 dX11_troubled_89 rfl ?_
          refine s_callV0 (M' := M_X4_canBe) (as := [_]) 93 dX11_troubled_90 rfl cw_X11_234 rfl rfl (isN_sh (by assumption)) rfl (by decide) (isN_lt (by assumption)) (Nat.le_of_ble_eq_true rfl) (Nat.le_of_ble_eq_true rfl) (Nat.le_of_ble_eq_true rfl) ⟨rfl, rfl, rfl⟩ ?_
          refine c_X4_canBe hT isN_85 hP hC.1.2.2.2.2.2.1 hrr g2.2.2.1 g3.2.2.2.1 hs.p (by omega) hi9 ?_
          rw [← eq, bI_c hset]
          refine s_ifb_ne 103 96 dX11_troubled_93 rfl rfl (fun h_93 => ?_) (fun h_93 => ?_)
          · skip
            refine s_iinc (ls' := [_, _, _, _, _, _]) 106 dX11_troubled_103 rfl rfl (Nat.le_of_ble_eq_true rfl) rfl rfl ?_
            refine s_goto 22 dX11_troubled_106 rfl ?_
            refine ih (t + 1) _ _ _ (by omega) (by omega) (by omega) hA (fun j z1 z2 z3 => ?_)
            by_cases ej : j = t
            · rw [ej]; first | exact h_93 | exact nn_n h_93
            · exact h5 j z1 (by omega) z3
          refine s_aload_n 97 dX11_troubled_96 rfl rfl ?_
          refine s_iload 99 dX11_troubled_97 rfl rfl ?_
          refine s_callV0 (M' := M_X11_fine) (as := [_]) 102 dX11_troubled_99 rfl cw_X11_119 rfl rfl sh_0 rfl (by decide) (Nat.le_of_ble_eq_true rfl) (Nat.le_of_ble_eq_true rfl) (Nat.le_of_ble_eq_true rfl) (Nat.le_of_ble_eq_true rfl) ⟨rfl, rfl, rfl⟩ ?_
          refine c_X11_fine ?_
          refine s_iret dX11_troubled_102 rfl rfl ?_
          exact fin _ (Or.inr ⟨t, h2, ht, rfl, hc, h_93, h5⟩)
      · skip
        refine s_iload_n 23 dX11_troubled_22 rfl rfl ?_
        refine s_aload_n 24 dX11_troubled_23 rfl rfl ?_
        refine s_getR 27 dX11_troubled_24 rfl fl_X11_19 (fun _ _ _ _ => rfl) (by assumption) sh_0 (Nat.le_of_ble_eq_true rfl) ?_
        refine s_getI 30 dX11_troubled_27 rfl fl_X11_116 (fun _ _ _ _ => rfl) (isP_sh (by assumption)) (isP_lt (by assumption)) (fun r_27 => ?_)
        rw [e7]
        refine s_icmp_ge 109 33 dX11_troubled_30 rfl rfl (by first | omega | exact bI_r _ | exact iI_r _) (by first | omega | exact bI_r _ | exact iI_r _) (fun h_30 => ?_) (fun h_30 => by exfalso; omega)
        refine s_aload_n 110 dX11_troubled_109 rfl rfl ?_
        refine s_bipush 112 dX11_troubled_110 rfl (by decide) ?_
        refine s_callV0 (M' := M_X11_fine) (as := [_]) 115 dX11_troubled_112 rfl cw_X11_119 rfl rfl sh_0 rfl (by decide) (Nat.le_of_ble_eq_true rfl) (Nat.le_of_ble_eq_true rfl) (Nat.le_of_ble_eq_true rfl) (Nat.le_of_ble_eq_true rfl) ⟨rfl, rfl, rfl⟩ ?_
        refine c_X11_fine ?_
        refine s_iret dX11_troubled_115 rfl rfl ?_
        exact fin _ (Or.inl ⟨rfl, fun i z1 z2 => h5 i z1 (by omega)⟩)
  refine s_aload_n 1 dX11_troubled_0 rfl rfl ?_
  refine s_callV0 (M' := M_X11_noPiece) (as := []) 4 dX11_troubled_1 rfl cw_X11_151 rfl rfl sh_0 rfl (by decide) (Nat.le_of_ble_eq_true rfl) (Nat.le_of_ble_eq_true rfl) (Nat.le_of_ble_eq_true rfl) (Nat.le_of_ble_eq_true rfl) ⟨rfl, rfl, rfl⟩ ?_
  refine c_X11_noPiece hC ?_
  refine s_ifb_eq 13 7 dX11_troubled_4 rfl rfl (fun h_4 => ?_) (fun h_4 => ?_)
  · skip
    refine s_aload_n 14 dX11_troubled_13 rfl rfl ?_
    refine s_callV0 (M' := M_X11_tonight) (as := []) 17 dX11_troubled_14 rfl cw_X11_184 rfl rfl sh_0 rfl (by decide) (Nat.le_of_ble_eq_true rfl) (Nat.le_of_ble_eq_true rfl) (Nat.le_of_ble_eq_true rfl) (Nat.le_of_ble_eq_true rfl) ⟨rfl, rfl, rfl⟩ ?_
    have hh := nn_n h_4
    refine c_X11_tonight hT hC hh (by omega) (fun I1 g1 g2 g3 => ?_)
    refine s_astore_n (ls' := [_, _, _, _, _, _]) 18 dX11_troubled_17 rfl (Nat.le_of_ble_eq_true rfl) rfl rfl ?_
    refine s_iconst 19 dX11_troubled_18 rfl ?_
    refine s_istore_n (ls' := [_, _, _, _, _, _]) 20 dX11_troubled_19 rfl (Nat.le_of_ble_eq_true rfl) rfl rfl ?_
    refine s_iconst 21 dX11_troubled_20 rfl ?_
    refine s_istore_n (ls' := [_, _, _, _, _, _]) 22 dX11_troubled_21 rfl (Nat.le_of_ble_eq_true rfl) rfl rfl ?_
    have e80 : SetN I1 85 r (-1) (I1 80 0) (r 2) s (s 12) := g2
    exact loop hh I1 (Hi.nt isN_85 g1) g3 g2 16 0 0 _ _ (by omega) (by omega) (by omega) (fun k z1 z2 => ⟨fun z => absurd z (has_0 ⟨z1, z2⟩), fun ⟨⟨j, j1, j2, _⟩, _⟩ => by omega⟩) (fun j z1 z2 => by omega)
  refine s_aload_n 8 dX11_troubled_7 rfl rfl ?_
  refine s_iconst 9 dX11_troubled_8 rfl ?_
  refine s_callV0 (M' := M_X11_refuse) (as := [_]) 12 dX11_troubled_9 rfl cw_X11_102 rfl rfl sh_0 rfl (by decide) (Nat.le_of_ble_eq_true rfl) (Nat.le_of_ble_eq_true rfl) (Nat.le_of_ble_eq_true rfl) (Nat.le_of_ble_eq_true rfl) ⟨rfl, rfl, rfl⟩ ?_
  refine c_X11_refuse (by decide) ?_
  refine s_iret dX11_troubled_12 rfl rfl ?_
  exact hn h_4
