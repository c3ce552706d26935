/-! lent, lend; the gap -/
noncomputable def pick {α : Type} (P : Prop) (a b : α) : α := @ite α P (Classical.propDecidable P) a b
theorem pick_t {α : Type} {P : Prop} {a b : α} (h : P) : pick P a b = a := if_pos h
theorem pick_f {α : Type} {P : Prop} {a b : α} (h : ¬ P) : pick P a b = b := if_neg h
/-- the reference's own cells that no call keeps -/
def MS : List Nat := [144, 148, 149, 150, 151, 152, 153, 154, 155, 156, 157, 158, 159]
/-- thrown is 0, TROUBLE is w -/
def gd (I : MI) (w : Int) : MI := up (up I 138 0 0) 138 11 w
theorem gd_n {I : MI} {w : Int} {c : Nat} (h : c ≠ 138) : gd I w c = I c := by
  unfold gd; rw [up_ne h, up_ne h]
theorem gd_f {I : MI} {w k : Int} (h : k ≠ 0 ∧ k ≠ 11) : gd I w 138 k = I 138 k := by
  unfold gd; rw [upd9, if_neg h.2, upd9, if_neg h.1]
theorem gd_no {I : MI} {v w : Int} : up (gd I v) 138 11 w = gd I w := by
  funext a k
  by_cases ha : a = 138
  · subst ha
    unfold gd
    rw [upd9, upd9, upd9, upd9]
    by_cases hk : k = 11
    · rw [if_pos hk, if_pos hk]
    · rw [if_neg hk, if_neg hk, if_neg hk, upd9]
  · unfold gd
    rw [up_ne ha, up_ne ha, up_ne ha, up_ne ha, up_ne ha]
theorem sub_and (a b : Int) : sub (iand a b) a := set_ext (iand_r _ _) (iand_r _ _) (fun k h1 h2 => by
  rw [has_and ⟨h1, h2⟩, has_and ⟨h1, h2⟩]
  exact ⟨fun z => z.1, fun z => ⟨z, z.1⟩⟩)
noncomputable def lentF (r : F1) (rd g : Int) (s : F1) (p : Int) : Int := splV (MayP r rd g s (s 12)) (iand (allF (r 4)) (ixor (ishl 1 p) (-1)))
def FLs : List Nat := [149, 150, 151, 152, 153, 154]
set_option maxHeartbeats 4000000 in
theorem c_X12_lentOf {E : ET} {I : MI} {L : ML} {R : MR} {Q : Option AV → MI → ML → MR → Prop} {r s : F1} {rd g p : Int} (hT : Topo R) (er : I 141 = r) (es : I 143 = s) (erd : I 138 30 = rd) (hr : WFr r) (eg : r 2 = g) (hp : Perm (r 5) s) (h : ∀ I', Eqo FLs I I' → -2 ≤ lentF r rd g s p ∧ lentF r rd g s p ≤ 127 → Q (some (vi (lentF r rd g s p))) I' L R) : CT E M_X12_lentOf 161 yX12_lentOf [(vr (138)), (vi (p))] I L R Q := by
  refine CT_of rfl rfl (fun h => by cases h) (Nat.le_of_ble_eq_true rfl) (fun X => ?_)
  show V X _ z0 0 [some (vr (138)), some (vi (p))] [] I L R _
  have e0 := hr.1
  have ea := allF_7 (n := r 4) (by omega)
  have hs := sub_le (by omega) (sub_and (allF (r 4)) (ixor (ishl 1 p) (-1)))
  refine s_aload_n 1 dX12_lentOf_0 rfl rfl ?_
  refine s_aload_n 2 dX12_lentOf_1 rfl rfl ?_
  refine s_getR 5 dX12_lentOf_2 rfl fl_X12_26 (fun _ _ _ _ => rfl) (T_X12_st hT) sh_138 (Nat.le_of_ble_eq_true rfl) ?_
  refine s_callV0 (M' := M_X12_layTime) (as := [_]) 8 dX12_lentOf_5 rfl cw_X12_305 rfl rfl sh_138 rfl (by decide) (Nat.le_of_ble_eq_true rfl) (Nat.le_of_ble_eq_true rfl) (Nat.le_of_ble_eq_true rfl) (Nat.le_of_ble_eq_true rfl) ⟨rfl, rfl, rfl⟩ ?_
  refine c_X12_layTime hT er hr eg sh_143 (by decide) (by decide) (by decide) es hp (fun I1 hL => ?_)
  have er : I1 141 = r := (hL.1 141 (by decide)).trans er
  have es : I1 143 = s := (hL.1 143 (by decide)).trans es
  have er9 : I1 138 30 = rd := (congrFun (hL.1 138 (by decide)) 30).trans erd
  obtain ⟨q1, q2⟩ := hL.rep hr hp (by omega)
  refine s_aload_n 9 dX12_lentOf_8 rfl rfl ?_
  refine s_aload_n 10 dX12_lentOf_9 rfl rfl ?_
  refine s_getR 13 dX12_lentOf_10 rfl fl_X12_26 (fun _ _ _ _ => rfl) (T_X12_st hT) sh_138 (Nat.le_of_ble_eq_true rfl) ?_
  refine s_bipush 15 dX12_lentOf_13 rfl (by decide) ?_
  refine s_iald 16 dX12_lentOf_15 rfl sh_143 (Nat.le_of_ble_eq_true rfl) (by omega) (by omega) (fun r_15 => ?_)
  rw [es] at r_15 ⊢
  refine s_callV0 (M' := M_X12_layMay) (as := [_]) 19 dX12_lentOf_16 rfl cw_X12_360 rfl rfl sh_138 rfl (by decide) (Nat.le_of_ble_eq_true rfl) (Nat.le_of_ble_eq_true rfl) (Nat.le_of_ble_eq_true rfl) (Nat.le_of_ble_eq_true rfl) ⟨rfl, rfl, rfl⟩ ?_
  refine c_X12_layMay hT er er9 rfl rfl rfl hr q1 q2 (fun I2 h4 h5 => ?_)
  have er : I2 141 = r := (h4 141 (by decide)).trans er
  refine s_aload_n 20 dX12_lentOf_19 rfl rfl ?_
  refine s_aload_n 21 dX12_lentOf_20 rfl rfl ?_
  refine s_callV0 (M' := M_X12_allParts) (as := []) 24 dX12_lentOf_21 rfl cw_X12_354 rfl rfl sh_138 rfl (by decide) (Nat.le_of_ble_eq_true rfl) (Nat.le_of_ble_eq_true rfl) (Nat.le_of_ble_eq_true rfl) (Nat.le_of_ble_eq_true rfl) ⟨rfl, rfl, rfl⟩ ?_
  refine c_X12_allParts hT er ?_
  refine s_iconst 25 dX12_lentOf_24 rfl ?_
  refine s_iload_n 26 dX12_lentOf_25 rfl rfl ?_
  refine s_ishl 27 dX12_lentOf_26 rfl ?_
  refine s_iconst 28 dX12_lentOf_27 rfl ?_
  refine s_ixor 29 dX12_lentOf_28 rfl ?_
  refine s_iand 30 dX12_lentOf_29 rfl ?_
  refine s_callV0 (M' := M_X12_fewestOf) (as := [_]) 33 dX12_lentOf_30 rfl cw_X12_386 rfl rfl sh_138 rfl (by decide) (Nat.le_of_ble_eq_true rfl) (Nat.le_of_ble_eq_true rfl) (Nat.le_of_ble_eq_true rfl) (Nat.le_of_ble_eq_true rfl) ⟨rfl, rfl, rfl⟩ ?_
  refine c_X12_fewestOf (G := MayP r rd g s (s 12)) hT (fun x a b => ?_) ⟨by omega, by omega⟩ (fun I3 h6 h7 => ?_)
  · rw [h5 x a (by omega)]
    exact bI_c (MayB_P hL hr)
  refine s_iret dX12_lentOf_33 rfl rfl ?_
  exact h I3 ((hL.1.mo (by decide)).tr ((h4.mo (by decide)).tr (h6.mo (by decide)))) h7
/-- the part to lend, after n of them -/
noncomputable def lendF (r : F1) (rd g : Int) (s : F1) : Nat → Int
  | 0 => -2
  | n + 1 => if lentF r rd g s n = -2 ∨ (lendF r rd g s n ≠ -2 ∧ lentF r rd g s n ≥ lentF r rd g s (lendF r rd g s n)) then lendF r rd g s n else n
theorem lendF_b (r : F1) (rd g : Int) (s : F1) : ∀ n : Nat, lendF r rd g s n = -2 ∨ (0 ≤ lendF r rd g s n ∧ lendF r rd g s n < n)
  | 0 => Or.inl rfl
  | n + 1 => by
    have := lendF_b r rd g s n
    unfold lendF
    split
    · omega
    · exact Or.inr (by omega)
set_option maxHeartbeats 4000000 in
theorem c_X12_lend {E : ET} {I : MI} {L : ML} {R : MR} {Q : Option AV → MI → ML → MR → Prop} {r s : F1} {g : Int} {HP : Prop} (hT : Topo R) (er : I 141 = r) (es : I 143 = s) (erd : I 138 30 = -1) (ehp : I 138 14 = bI HP) (hr : HP → WFr r ∧ r 2 = g ∧ Perm (r 5) s) (h : ∀ I', Eqo MS (gd I (pick HP 0 1)) I' → Q (some (vi (pick HP (lendF r (-1) g s (r 4).toNat) (-1)))) I' L R) : CT E M_X12_lend 161 yX12_lend [(vr (138))] I L R Q := by
  refine CT_of rfl rfl (fun h => by cases h) (Nat.le_of_ble_eq_true rfl) (fun X => ?_)
  show V X _ z0 0 [some (vr (138)), none, none, none, none] [] I L R _
  have loop : HP → ∀ (f : Nat) (p : Int) (w4 : Option AV) (ls : Int) (I1 : MI), r 4 - p < (f : Int) → 0 ≤ p → p ≤ r 4 → Eqo MS (gd I 0) I1 → (lendF r (-1) g s p.toNat ≠ -2 → ls = lentF r (-1) g s (lendF r (-1) g s p.toNat) ∧ -2 ≤ ls ∧ ls ≤ 127) →
      V X M_X12_lend z0 24 [some (vr 138), some (vi (lendF r (-1) g s p.toNat)), some (vi ls), some (vi p), w4] [] I1 L R (RT X M_X12_lend Q) := by
    intro hP f
    obtain ⟨hr, eg, hp⟩ := hr hP
    have e0 := hr.1
    rw [pick_t hP, pick_t hP] at h
    induction f with
    | zero => intro p w4 ls I1 h1 h2 h3; omega
    | succ f ih =>
      intro p w4 ls I1 h1 h2 h3 h4 h5
      have er1 : I1 141 = r := (h4 141 (by decide)).trans ((gd_n (by decide)).trans er)
      have es1 : I1 143 = s := (h4 143 (by decide)).trans ((gd_n (by decide)).trans es)
      have erd1 : I1 138 30 = -1 := (congrFun (h4 138 (by decide)) 30).trans ((gd_f (by decide)).trans erd)
      have hb := lendF_b r (-1) g s p.toNat
      have hst : lendF r (-1) g s (p + 1).toNat = if lentF r (-1) g s p = -2 ∨ (lendF r (-1) g s p.toNat ≠ -2 ∧ lentF r (-1) g s p ≥ lentF r (-1) g s (lendF r (-1) g s p.toNat)) then lendF r (-1) g s p.toNat else p := by
        rw [show (p + 1).toNat = p.toNat + 1 by omega]
        show (if lentF r (-1) g s (p.toNat : Nat) = -2 ∨ _ then _ else ((p.toNat : Nat) : Int)) = _
        rw [show ((p.toNat : Nat) : Int) = p by omega]
      refine s_iload_n 25 dX12_lend_24 rfl rfl ?_
      refine s_aload_n 26 dX12_lend_25 rfl rfl ?_
      refine s_getR 29 dX12_lend_26 rfl fl_X12_20 (fun _ _ _ _ => rfl) (T_X12_r hT) sh_138 (Nat.le_of_ble_eq_true rfl) ?_
      refine s_iconst 30 dX12_lend_29 rfl ?_
      refine s_iald 31 dX12_lend_30 rfl sh_141 (Nat.le_of_ble_eq_true rfl) (by omega) (by omega) (fun r_30 => ?_)
      rw [er1] at r_30 ⊢
      refine s_icmp_ge 74 34 dX12_lend_31 rfl rfl (by first | omega | exact bI_r _ | exact iI_r _) (by first | omega | exact bI_r _ | exact iI_r _) (fun h_31 => ?_) (fun h_31 => ?_)
      · skip
        refine s_iload_n 75 dX12_lend_74 rfl rfl ?_
        refine s_iret dX12_lend_75 rfl rfl ?_
        have ep : p = r 4 := by omega
        subst ep; exact h I1 h4
      skip
      have stay : ∀ (I2 : MI) (w4 : Option AV), Eqo MS (gd I 0) I2 → lentF r (-1) g s p = -2 ∨ (lendF r (-1) g s p.toNat ≠ -2 ∧ lentF r (-1) g s p ≥ ls) → V X M_X12_lend z0 68 [some (vr 138), some (vi (lendF r (-1) g s p.toNat)), some (vi ls), some (vi p), w4] [] I2 L R (RT X M_X12_lend Q) := by
        intro I2 w4 j1 j2
        have e : lendF r (-1) g s (p + 1).toNat = lendF r (-1) g s p.toNat := by
          rw [hst, if_pos]
          rcases j2 with z | z
          · exact Or.inl z
          · exact Or.inr ⟨z.1, by rw [← (h5 z.1).1]; exact z.2⟩
        refine s_iinc (ls' := [_, _, _, _, _]) 71 dX12_lend_68 rfl rfl (Nat.le_of_ble_eq_true rfl) rfl rfl ?_
        refine s_goto 24 dX12_lend_71 rfl ?_
        have := ih (p + 1) w4 ls I2 (by omega) (by omega) (by omega) j1 (by rw [e]; exact h5)
        rw [e] at this; exact this
      have take : ∀ (I2 : MI) (w4 : Option AV), Eqo MS (gd I 0) I2 → (-2 ≤ lentF r (-1) g s p ∧ lentF r (-1) g s p ≤ 127) → lentF r (-1) g s p ≠ -2 → (lendF r (-1) g s p.toNat = -2 ∨ lentF r (-1) g s p < ls) → V X M_X12_lend z0 68 [some (vr 138), some (vi p), some (vi (lentF r (-1) g s p)), some (vi p), w4] [] I2 L R (RT X M_X12_lend Q) := by
        intro I2 w4 j1 j2 j3 j4
        have e : lendF r (-1) g s (p + 1).toNat = p := by
          rw [hst, if_neg]
          rintro (z | ⟨z1, z2⟩)
          · exact j3 z
          · have := (h5 z1).1
            omega
        refine s_iinc (ls' := [_, _, _, _, _]) 71 dX12_lend_68 rfl rfl (Nat.le_of_ble_eq_true rfl) rfl rfl ?_
        refine s_goto 24 dX12_lend_71 rfl ?_
        have := ih (p + 1) w4 (lentF r (-1) g s p) I2 (by omega) (by omega) (by omega) j1 (by rw [e]; exact fun _ => ⟨rfl, j2⟩)
        rw [e] at this; exact this
      refine s_aload_n 35 dX12_lend_34 rfl rfl ?_
      refine s_iload_n 36 dX12_lend_35 rfl rfl ?_
      refine s_callV0 (M' := M_X12_lentOf) (as := [_]) 39 dX12_lend_36 rfl cw_X12_389 rfl rfl sh_138 rfl (by decide) (Nat.le_of_ble_eq_true rfl) (Nat.le_of_ble_eq_true rfl) (Nat.le_of_ble_eq_true rfl) (Nat.le_of_ble_eq_true rfl) ⟨rfl, rfl, rfl⟩ ?_
      refine c_X12_lentOf hT er1 es1 erd1 hr eg hp (fun I2 k1 k2 => ?_)
      have h5a := h5
      refine s_istore (ls' := [_, _, _, _, _]) 41 dX12_lend_39 rfl (Nat.le_of_ble_eq_true rfl) rfl rfl ?_
      refine s_iload 43 dX12_lend_41 rfl rfl ?_
      refine s_bipush 45 dX12_lend_43 rfl (by decide) ?_
      skip
      have k3 := h4.tr (k1.mo (show ∀ a, a ∈ FLs → a ∈ MS by decide))
      by_cases hf : lendF r (-1) g s p.toNat = -2
      · skip
        refine s_icmp_eq 68 48 dX12_lend_45 rfl rfl (by first | omega | exact bI_r _ | exact iI_r _) (by first | omega | exact bI_r _ | exact iI_r _) (fun h_45 => ?_) (fun h_45 => ?_)
        · skip
          first | exact stay I2 _ k3 (Or.inl (by assumption)) | exact take I2 _ k3 k2 (by assumption) (Or.inl hf)
        refine s_iload_n 49 dX12_lend_48 rfl rfl ?_
        refine s_bipush 51 dX12_lend_49 rfl (by decide) ?_
        refine s_icmp_eq 63 54 dX12_lend_51 rfl rfl (by first | omega | exact bI_r _ | exact iI_r _) (by first | omega | exact bI_r _ | exact iI_r _) (fun h_51 => ?_) (fun h_51 => by exfalso; omega)
        refine s_iload_n 64 dX12_lend_63 rfl rfl ?_
        refine s_istore_n (ls' := [_, _, _, _, _]) 65 dX12_lend_64 rfl (Nat.le_of_ble_eq_true rfl) rfl rfl ?_
        refine s_iload 67 dX12_lend_65 rfl rfl ?_
        refine s_istore_n (ls' := [_, _, _, _, _]) 68 dX12_lend_67 rfl (Nat.le_of_ble_eq_true rfl) rfl rfl ?_
        first | exact stay I2 _ k3 (Or.inl (by assumption)) | exact take I2 _ k3 k2 (by assumption) (Or.inl hf)
      · have h6 := h5 hf
        refine s_icmp_eq 68 48 dX12_lend_45 rfl rfl (by first | omega | exact bI_r _ | exact iI_r _) (by first | omega | exact bI_r _ | exact iI_r _) (fun h_45 => ?_) (fun h_45 => ?_)
        · skip
          first | exact stay I2 _ k3 (Or.inl (by assumption)) | exact stay I2 _ k3 (Or.inr ⟨hf, by omega⟩) | exact take I2 _ k3 k2 (by assumption) (Or.inr (by omega))
        refine s_iload_n 49 dX12_lend_48 rfl rfl ?_
        refine s_bipush 51 dX12_lend_49 rfl (by decide) ?_
        refine s_icmp_eq 63 54 dX12_lend_51 rfl rfl (by first | omega | exact bI_r _ | exact iI_r _) (by first | omega | exact bI_r _ | exact iI_r _) (fun h_51 => by exfalso; omega) (fun h_51 => ?_)
        refine s_iload 56 dX12_lend_54 rfl rfl ?_
        refine s_iload_n 57 dX12_lend_56 rfl rfl ?_
        refine s_icmp_lt 63 60 dX12_lend_57 rfl rfl (by first | omega | exact bI_r _ | exact iI_r _) (by first | omega | exact bI_r _ | exact iI_r _) (fun h_57 => ?_) (fun h_57 => ?_)
        · skip
          refine s_iload_n 64 dX12_lend_63 rfl rfl ?_
          refine s_istore_n (ls' := [_, _, _, _, _]) 65 dX12_lend_64 rfl (Nat.le_of_ble_eq_true rfl) rfl rfl ?_
          refine s_iload 67 dX12_lend_65 rfl rfl ?_
          refine s_istore_n (ls' := [_, _, _, _, _]) 68 dX12_lend_67 rfl (Nat.le_of_ble_eq_true rfl) rfl rfl ?_
          first | exact stay I2 _ k3 (Or.inl (by assumption)) | exact stay I2 _ k3 (Or.inr ⟨hf, by omega⟩) | exact take I2 _ k3 k2 (by assumption) (Or.inr (by omega))
        refine s_goto 68 dX12_lend_60 rfl ?_
        first | exact stay I2 _ k3 (Or.inl (by assumption)) | exact stay I2 _ k3 (Or.inr ⟨hf, by omega⟩) | exact take I2 _ k3 k2 (by assumption) (Or.inr (by omega))
  refine s_aload_n 1 dX12_lend_0 rfl rfl ?_
  refine s_callV0 (M' := M_X12_good) (as := []) 4 dX12_lend_1 rfl cw_X12_190 rfl rfl sh_138 rfl (by decide) (Nat.le_of_ble_eq_true rfl) (Nat.le_of_ble_eq_true rfl) (Nat.le_of_ble_eq_true rfl) (Nat.le_of_ble_eq_true rfl) ⟨rfl, rfl, rfl⟩ ?_
  refine c_X12_good ?_
  refine s_aload_n 5 dX12_lend_4 rfl rfl ?_
  refine s_getI 8 dX12_lend_5 rfl fl_X12_203 (fun _ _ _ _ => rfl) sh_138 (Nat.le_of_ble_eq_true rfl) (fun r_5 => ?_)
  rw [show up (up I 138 0 0) 138 11 0 138 14 = bI HP from (gd_f (by decide)).trans ehp]
  refine s_ifb_ne 17 11 dX12_lend_8 rfl rfl (fun h_8 => ?_) (fun h_8 => ?_)
  · skip
    refine s_bipush 19 dX12_lend_17 rfl (by decide) ?_
    refine s_istore_n (ls' := [_, _, _, _, _]) 20 dX12_lend_19 rfl (Nat.le_of_ble_eq_true rfl) rfl rfl ?_
    refine s_iconst 21 dX12_lend_20 rfl ?_
    refine s_istore_n (ls' := [_, _, _, _, _]) 22 dX12_lend_21 rfl (Nat.le_of_ble_eq_true rfl) rfl rfl ?_
    refine s_iconst 23 dX12_lend_22 rfl ?_
    refine s_istore_n (ls' := [_, _, _, _, _]) 24 dX12_lend_23 rfl (Nat.le_of_ble_eq_true rfl) rfl rfl ?_
    exact loop (by assumption) ((r 4).toNat + 1) 0 none 0 _ (by have := (hr (by assumption)).1.1; omega) (by omega) (by have := (hr (by assumption)).1.1; omega) Eqo.rf (fun z => absurd rfl z)
  refine s_aload_n 12 dX12_lend_11 rfl rfl ?_
  refine s_iconst 13 dX12_lend_12 rfl ?_
  refine s_callV0 (M' := M_X12_no) (as := [_]) 16 dX12_lend_13 rfl cw_X12_193 rfl rfl sh_138 rfl (by decide) (Nat.le_of_ble_eq_true rfl) (Nat.le_of_ble_eq_true rfl) (Nat.le_of_ble_eq_true rfl) (Nat.le_of_ble_eq_true rfl) ⟨rfl, rfl, rfl⟩ ?_
  refine c_X12_no (by decide) ?_
  rw [show up (up (up I 138 0 0) 138 11 0) 138 11 1 = gd I 1 from gd_no]
  refine s_iret dX12_lend_16 rfl rfl ?_
  rw [pick_f (by assumption), pick_f (by assumption)] at h
  exact h _ Eqo.rf
