/-! what the class answers, 5 -/
set_option maxHeartbeats 4000000 in
theorem c_X11_betrayed {E : ET} {I : MI} {L : ML} {R : MR} {Q : Option AV → MI → ML → MR → Prop} {m : Int} {bt : F1} {n ft pl w : Int} {HP : Prop} {r s : F1} {a : List Int} {U D K : List (List Int)} {P P' : Nat} (hT : Topo R) (hC : CV I L R m bt n ft pl w HP r s a U D K P P') (hm : 0 ≤ m ∧ m ≤ 900000) (h : ∀ I', Hi I I' → CV I' L R (m + 8) bt n ft pl (pick HP 0 1) HP r s a U D K P P' → Q (some (vi (pick HP (betF r) (-1)))) I' L R) : CT E M_X11_betrayed 161 yX11_betrayed [(vr (0))] I L R Q := by
  refine CT_of rfl rfl (fun h => by cases h) (Nat.le_of_ble_eq_true rfl) (fun X => ?_)
  show V X _ z0 0 [some (vr (0)), none, none] [] I L R _
  obtain ⟨hn, hy⟩ := c_spl hC h
  have bd := hC.bd
  have hP := hC.1.1
  have t2 := hC.1.2.2.2.1
  have fin : HP → ∀ (I1 : MI) (x : Int), BetV r x → Eqo [136] I I1 → GW7 P r I1 → Q (some (vi x)) (up I1 0 10 0) L R := fun hh I1 x hx k1 k2 => by
    rw [← hx.v]
    exact hy hh I1 m (by omega) (fun c hc => k1 c (by simp; omega)) (hC.sg hh k1 k2)
  have loop : HP → ∀ (f : Nat) (i : Int) (I1 : MI) (w2 : Option AV), r 8 - i < (f : Int) → 0 ≤ i → i ≤ r 8 → Eqo [136] I I1 → GW7 P r I1 → (∀ x y, 0 ≤ x → x < y → y < r 8 → x < i → BoP r x y) → V X M_X11_betrayed z0 15 [some (vr (0)), some (vi (i)), w2] [] (I1) L R (RT X M_X11_betrayed Q) := by
    intro hh f
    obtain ⟨hs, hw9, hN⟩ := hC.2.2.2.2.2.2.1 hh
    induction f with
    | zero => intro i I1 w2 h1 h2 h3; omega
    | succ f ih =>
      intro i I1 w2 h1 h2 h3 g1 g2 h4
      have e8 := g2.1.1.2.2.2.2.2.2.2
      by_cases hi : i < r 8
      · have inn : ∀ (g : Nat) (v : Int) (I2 : MI), r 8 - v < (g : Int) → i < v → v ≤ r 8 → Eqo [136] I I2 → GW7 P r I2 → (∀ y, i < y → y < v → BoP r i y) → V X M_X11_betrayed z0 30 [some (vr (0)), some (vi (i)), some (vi (v))] [] (I2) L R (RT X M_X11_betrayed Q) := by
          intro g
          induction g with
          | zero => intro v I2 k1 k2 k3; omega
          | succ g ih2 =>
            intro v I2 k1 k2 k3 x1 x2 k4
            have e82 := x2.1.1.2.2.2.2.2.2.2
            by_cases hv : v < r 8
            · have st := seen_two (r := r) (w := i) (v := v) (by omega) ⟨h2, hi⟩ ⟨by omega, hv⟩ (by omega)
              have o7 : 0 ≤ ior (ishl 1 i) (ishl 1 v) ∧ ior (ishl 1 i) (ishl 1 v) < 128 := set_lt (n := 7) (x := ior (ishl 1 i) (ishl 1 v)) (by decide) (iI_r _) (fun k k1 k2 z => by rw [has_or ⟨by omega, k2⟩, has_shl (by omega) ⟨by omega, k2⟩, has_shl (by omega) ⟨by omega, k2⟩] at z; omega)
              refine s_iload_n 31 dX11_betrayed_30 rfl rfl ?_
              refine s_aload_n 32 dX11_betrayed_31 rfl rfl ?_
              refine s_getR 35 dX11_betrayed_32 rfl fl_X11_19 (fun _ _ _ _ => rfl) (by assumption) sh_0 (Nat.le_of_ble_eq_true rfl) ?_
              refine s_getI 38 dX11_betrayed_35 rfl fl_X11_148 (fun _ _ _ _ => rfl) (isP_sh (by assumption)) (isP_lt (by assumption)) (fun r_35 => ?_)
              rw [e82]
              refine s_icmp_ge 75 41 dX11_betrayed_38 rfl rfl (by first | omega | exact bI_r _ | exact iI_r _) (by first | omega | exact bI_r _ | exact iI_r _) (fun h_38 => by exfalso; omega) (fun h_38 => ?_)
              refine s_aload_n 42 dX11_betrayed_41 rfl rfl ?_
              refine s_getR 45 dX11_betrayed_42 rfl fl_X11_77 (fun _ _ _ _ => rfl) (T_X11_sightings hT) sh_0 (Nat.le_of_ble_eq_true rfl) ?_
              refine s_iconst 46 dX11_betrayed_45 rfl ?_
              refine s_iload_n 47 dX11_betrayed_46 rfl rfl ?_
              refine s_ishl 48 dX11_betrayed_47 rfl ?_
              refine s_iconst 49 dX11_betrayed_48 rfl ?_
              refine s_iload_n 50 dX11_betrayed_49 rfl rfl ?_
              refine s_ishl 51 dX11_betrayed_50 rfl ?_
              refine s_ior 52 dX11_betrayed_51 rfl ?_
              refine s_callU0 (M' := M_X3_good) (as := [_]) 55 dX11_betrayed_52 rfl cw_X11_308_7 rfl rfl sh_135 rfl (by decide) (Nat.le_of_ble_eq_true rfl) (Nat.le_of_ble_eq_true rfl) (Nat.le_of_ble_eq_true rfl) (Nat.le_of_ble_eq_true rfl) ⟨rfl, rfl, rfl⟩ ?_
              refine c_X3_good7 hT hP hC.1.2.2.2.2.2.2.2.2 hs.1 hw9 x2 ⟨by omega, by omega⟩ (fun I3 y1 y2 => ?_)
              rw [bI_c (show ((0 ≤ ior (ishl 1 i) (ishl 1 v) ∧ ior (ishl 1 i) (ishl 1 v) < 128) ∧ SeenP r (ior (ishl 1 i) (ishl 1 v))) ↔ BoP r i v from ⟨fun z => st.mp z.2, fun z => ⟨o7, st.mpr z⟩⟩)]
              refine s_ifb_ne 69 58 dX11_betrayed_55 rfl rfl (fun h_55 => ?_) (fun h_55 => ?_)
              · skip
                refine s_iinc (ls' := [_, _, _]) 72 dX11_betrayed_69 rfl rfl (Nat.le_of_ble_eq_true rfl) rfl rfl ?_
                refine s_goto 30 dX11_betrayed_72 rfl ?_
                refine ih2 (v + 1) I3 (by omega) (by omega) (by omega) (x1.tr y1) y2 (fun y a b => ?_)
                by_cases ey : y = v
                · rw [ey]; first | exact h_55 | exact nn_n h_55
                · exact k4 y a (by omega)
              refine s_aload_n 59 dX11_betrayed_58 rfl rfl ?_
              refine s_bipush 61 dX11_betrayed_59 rfl (by decide) ?_
              refine s_iload_n 62 dX11_betrayed_61 rfl rfl ?_
              refine s_imul 63 dX11_betrayed_62 rfl ?_
              refine s_iload_n 64 dX11_betrayed_63 rfl rfl ?_
              refine s_iadd 65 dX11_betrayed_64 rfl ?_
              refine s_callV0 (M' := M_X11_fine) (as := [_]) 68 dX11_betrayed_65 rfl cw_X11_119 rfl rfl sh_0 rfl (by decide) (Nat.le_of_ble_eq_true rfl) (Nat.le_of_ble_eq_true rfl) (Nat.le_of_ble_eq_true rfl) (Nat.le_of_ble_eq_true rfl) ⟨rfl, rfl, rfl⟩ ?_
              refine c_X11_fine ?_
              refine s_iret dX11_betrayed_68 rfl rfl ?_
              exact fin hh I3 _ (Or.inr ⟨i, v, h2, k2, hv, rfl, h_55, fun x y a b c d => d.elim (fun d => h4 x y a b c d) (fun d => by rw [d.1]; exact k4 y (by omega) d.2)⟩) (x1.tr y1) y2
            · skip
              refine s_iload_n 31 dX11_betrayed_30 rfl rfl ?_
              refine s_aload_n 32 dX11_betrayed_31 rfl rfl ?_
              refine s_getR 35 dX11_betrayed_32 rfl fl_X11_19 (fun _ _ _ _ => rfl) (by assumption) sh_0 (Nat.le_of_ble_eq_true rfl) ?_
              refine s_getI 38 dX11_betrayed_35 rfl fl_X11_148 (fun _ _ _ _ => rfl) (isP_sh (by assumption)) (isP_lt (by assumption)) (fun r_35 => ?_)
              rw [e82]
              refine s_icmp_ge 75 41 dX11_betrayed_38 rfl rfl (by first | omega | exact bI_r _ | exact iI_r _) (by first | omega | exact bI_r _ | exact iI_r _) (fun h_38 => ?_) (fun h_38 => by exfalso; omega)
              refine s_iinc (ls' := [_, _, _]) 78 dX11_betrayed_75 rfl rfl (Nat.le_of_ble_eq_true rfl) rfl rfl ?_
              refine s_goto 15 dX11_betrayed_78 rfl ?_
              refine ih (i + 1) I2 _ (by omega) (by omega) (by omega) x1 x2 (fun x y a b c d => ?_)
              by_cases ex : x = i
              · rw [ex]; exact k4 y (by omega) (by omega)
              · exact h4 x y a b c (by omega)
        refine s_iload_n 16 dX11_betrayed_15 rfl rfl ?_
        refine s_aload_n 17 dX11_betrayed_16 rfl rfl ?_
        refine s_getR 20 dX11_betrayed_17 rfl fl_X11_19 (fun _ _ _ _ => rfl) (by assumption) sh_0 (Nat.le_of_ble_eq_true rfl) ?_
        refine s_getI 23 dX11_betrayed_20 rfl fl_X11_148 (fun _ _ _ _ => rfl) (isP_sh (by assumption)) (isP_lt (by assumption)) (fun r_20 => ?_)
        rw [e8]
        refine s_icmp_ge 81 26 dX11_betrayed_23 rfl rfl (by first | omega | exact bI_r _ | exact iI_r _) (by first | omega | exact bI_r _ | exact iI_r _) (fun h_23 => by exfalso; omega) (fun h_23 => ?_)
        refine s_iload_n 27 dX11_betrayed_26 rfl rfl ?_
        refine s_iconst 28 dX11_betrayed_27 rfl ?_
        refine s_iadd 29 dX11_betrayed_28 rfl ?_
        refine s_istore_n (ls' := [_, _, _]) 30 dX11_betrayed_29 rfl (Nat.le_of_ble_eq_true rfl) rfl rfl ?_
        exact inn 9 (i + 1) I1 (by omega) (by omega) (by omega) g1 g2 (fun y a b => by omega)
      · skip
        refine s_iload_n 16 dX11_betrayed_15 rfl rfl ?_
        refine s_aload_n 17 dX11_betrayed_16 rfl rfl ?_
        refine s_getR 20 dX11_betrayed_17 rfl fl_X11_19 (fun _ _ _ _ => rfl) (by assumption) sh_0 (Nat.le_of_ble_eq_true rfl) ?_
        refine s_getI 23 dX11_betrayed_20 rfl fl_X11_148 (fun _ _ _ _ => rfl) (isP_sh (by assumption)) (isP_lt (by assumption)) (fun r_20 => ?_)
        rw [e8]
        refine s_icmp_ge 81 26 dX11_betrayed_23 rfl rfl (by first | omega | exact bI_r _ | exact iI_r _) (by first | omega | exact bI_r _ | exact iI_r _) (fun h_23 => ?_) (fun h_23 => by exfalso; omega)
        refine s_aload_n 82 dX11_betrayed_81 rfl rfl ?_
        refine s_bipush 84 dX11_betrayed_82 rfl (by decide) ?_
        refine s_callV0 (M' := M_X11_fine) (as := [_]) 87 dX11_betrayed_84 rfl cw_X11_119 rfl rfl sh_0 rfl (by decide) (Nat.le_of_ble_eq_true rfl) (Nat.le_of_ble_eq_true rfl) (Nat.le_of_ble_eq_true rfl) (Nat.le_of_ble_eq_true rfl) ⟨rfl, rfl, rfl⟩ ?_
        refine c_X11_fine ?_
        refine s_iret dX11_betrayed_87 rfl rfl ?_
        exact fin hh I1 _ (Or.inl ⟨rfl, fun x y a b c => h4 x y a b c (by omega)⟩) g1 g2
  refine s_aload_n 1 dX11_betrayed_0 rfl rfl ?_
  refine s_callV0 (M' := M_X11_noPiece) (as := []) 4 dX11_betrayed_1 rfl cw_X11_151 rfl rfl sh_0 rfl (by decide) (Nat.le_of_ble_eq_true rfl) (Nat.le_of_ble_eq_true rfl) (Nat.le_of_ble_eq_true rfl) (Nat.le_of_ble_eq_true rfl) ⟨rfl, rfl, rfl⟩ ?_
  refine c_X11_noPiece hC ?_
  refine s_ifb_eq 13 7 dX11_betrayed_4 rfl rfl (fun h_4 => ?_) (fun h_4 => ?_)
  · skip
    refine s_iconst 14 dX11_betrayed_13 rfl ?_
    refine s_istore_n (ls' := [_, _, _]) 15 dX11_betrayed_14 rfl (Nat.le_of_ble_eq_true rfl) rfl rfl ?_
    have hh := nn_n h_4
    exact loop hh 9 0 I _ (by omega) (by omega) (by omega) Eqo.rf (hC.g7 hh) (fun x y a b c d => by omega)
  refine s_aload_n 8 dX11_betrayed_7 rfl rfl ?_
  refine s_iconst 9 dX11_betrayed_8 rfl ?_
  refine s_callV0 (M' := M_X11_refuse) (as := [_]) 12 dX11_betrayed_9 rfl cw_X11_102 rfl rfl sh_0 rfl (by decide) (Nat.le_of_ble_eq_true rfl) (Nat.le_of_ble_eq_true rfl) (Nat.le_of_ble_eq_true rfl) (Nat.le_of_ble_eq_true rfl) ⟨rfl, rfl, rfl⟩ ?_
  refine c_X11_refuse (by decide) ?_
  refine s_iret dX11_betrayed_12 rfl rfl ?_
  exact hn h_4
set_option maxHeartbeats 4000000 in
theorem c_X11_part {E : ET} {I : MI} {L : ML} {R : MR} {Q : Option AV → MI → ML → MR → Prop} {m : Int} {bt : F1} {n ft pl w : Int} {HP : Prop} {r s : F1} {a : List Int} {U D K : List (List Int)} {P P' : Nat} {i j : Int} (hT : Topo R) (hC : CV I L R m bt n ft pl w HP r s a U D K P P') (hm : 0 ≤ m ∧ m ≤ 900000) (hi : -2147483648 ≤ i ∧ i ≤ 2147483647) (hj : -2147483648 ≤ j ∧ j ≤ 2147483647) (h : ∀ I', Hi I I' → CV I' L R (m + 8) bt n ft pl (pick ((HP ∧ 0 ≤ i ∧ i < r 4) ∧ 0 ≤ j ∧ j ≤ 5) 0 1) HP r s a U D K P P' → Q (some (vi (pick ((HP ∧ 0 ≤ i ∧ i < r 4) ∧ 0 ≤ j ∧ j ≤ 5) (ptF r s i j) (-1)))) I' L R) : CT E M_X11_part 161 yX11_part [(vr (0)), (vi (i)), (vi (j))] I L R Q := by
  refine CT_of rfl rfl (fun h => by cases h) (Nat.le_of_ble_eq_true rfl) (fun X => ?_)
  show V X _ z0 0 [some (vr (0)), some (vi (i)), some (vi (j))] [] I L R _
  obtain ⟨hn, hy⟩ := c_spl hC h
  have bd := hC.bd
  have hP := hC.1.1
  have t2 := hC.1.2.2.2.1
  have hR := hC.2.2.1
  have hE := hC.2.2.2.1
  refine s_aload_n 1 dX11_part_0 rfl rfl ?_
  refine s_iload_n 2 dX11_part_1 rfl rfl ?_
  refine s_callV0 (M' := M_X11_isPart) (as := [_]) 5 dX11_part_2 rfl cw_X11_203 rfl rfl sh_0 rfl (by decide) (Nat.le_of_ble_eq_true rfl) (Nat.le_of_ble_eq_true rfl) (Nat.le_of_ble_eq_true rfl) (Nat.le_of_ble_eq_true rfl) ⟨rfl, rfl, rfl⟩ ?_
  refine c_X11_isPart hC hi ?_
  refine s_ifb_eq 17 8 dX11_part_5 rfl rfl (fun h_5 => ?_) (fun h_5 => ?_)
  · skip
    refine s_aload_n 18 dX11_part_17 rfl rfl ?_
    refine s_iconst 19 dX11_part_18 rfl ?_
    refine s_callV0 (M' := M_X11_refuse) (as := [_]) 22 dX11_part_19 rfl cw_X11_102 rfl rfl sh_0 rfl (by decide) (Nat.le_of_ble_eq_true rfl) (Nat.le_of_ble_eq_true rfl) (Nat.le_of_ble_eq_true rfl) (Nat.le_of_ble_eq_true rfl) ⟨rfl, rfl, rfl⟩ ?_
    refine c_X11_refuse (by decide) ?_
    refine s_iret dX11_part_22 rfl rfl ?_
    first | exact hn (fun z => h_5 z.1) | exact hn (fun z => by omega)
  refine s_iload_n 9 dX11_part_8 rfl rfl ?_
  refine s_if_lt 17 12 dX11_part_9 rfl rfl (by first | omega | exact bI_r _ | exact iI_r _) (fun h_9 => ?_) (fun h_9 => ?_)
  · skip
    refine s_aload_n 18 dX11_part_17 rfl rfl ?_
    refine s_iconst 19 dX11_part_18 rfl ?_
    refine s_callV0 (M' := M_X11_refuse) (as := [_]) 22 dX11_part_19 rfl cw_X11_102 rfl rfl sh_0 rfl (by decide) (Nat.le_of_ble_eq_true rfl) (Nat.le_of_ble_eq_true rfl) (Nat.le_of_ble_eq_true rfl) (Nat.le_of_ble_eq_true rfl) ⟨rfl, rfl, rfl⟩ ?_
    refine c_X11_refuse (by decide) ?_
    refine s_iret dX11_part_22 rfl rfl ?_
    first | exact hn (fun z => h_5 z.1) | exact hn (fun z => by omega)
  refine s_iload_n 13 dX11_part_12 rfl rfl ?_
  refine s_iconst 14 dX11_part_13 rfl ?_
  refine s_icmp_le 23 17 dX11_part_14 rfl rfl (by first | omega | exact bI_r _ | exact iI_r _) (by first | omega | exact bI_r _ | exact iI_r _) (fun h_14 => ?_) (fun h_14 => ?_)
  · skip
    refine s_aload_n 24 dX11_part_23 rfl rfl ?_
    refine s_iload_n 25 dX11_part_24 rfl rfl ?_
    refine s_iconst 26 dX11_part_25 rfl ?_
    refine s_icmp_ne 40 29 dX11_part_26 rfl rfl (by first | omega | exact bI_r _ | exact iI_r _) (by first | omega | exact bI_r _ | exact iI_r _) (fun h_26 => ?_) (fun h_26 => ?_)
    · skip
      refine s_aload_n 41 dX11_part_40 rfl rfl ?_
      refine s_getR 44 dX11_part_41 rfl fl_X11_19 (fun _ _ _ _ => rfl) (by assumption) sh_0 (Nat.le_of_ble_eq_true rfl) ?_
      refine s_getR 47 dX11_part_44 rfl fl_X11_364 (fun _ _ _ _ => rfl) (T_X5_parts hT (by assumption)) (isP_sh (by assumption)) (isP_lt (by assumption)) ?_
      refine s_iload_n 48 dX11_part_47 rfl rfl ?_
      refine s_aald 49 dX11_part_48 rfl (shP_parts (by assumption)) (ltP_parts (by assumption)) (by omega) (by decide) (T_X5_parts_row hT (by assumption) (by omega)) ?_
      refine s_iload_n 50 dX11_part_49 rfl rfl ?_
      have rp := hR.2.2.1 i h_5.2.1 h_5.2.2
      unfold rowP at rp
      have ep : I (P + 2 + i.toNat) j = ptF r s i j := by unfold ptF; rcases (show j = 0 ∨ j = 1 ∨ j = 2 ∨ j = 3 ∨ j = 4 by omega) with z | z | z | z | z <;> subst z <;> simp [rp]
      refine s_iald 51 dX11_part_50 rfl (shP_parts_row (by assumption) (by omega)) (ltP_parts_row (by assumption) (by omega)) (by omega) (by omega) (fun r_50 => ?_)
      (try rw [ep])
      refine s_callV0 (M' := M_X11_fine) (as := [_]) 54 dX11_part_51 rfl cw_X11_119 rfl rfl sh_0 rfl (by decide) (Nat.le_of_ble_eq_true rfl) (Nat.le_of_ble_eq_true rfl) (Nat.le_of_ble_eq_true rfl) (Nat.le_of_ble_eq_true rfl) ⟨rfl, rfl, rfl⟩ ?_
      refine c_X11_fine ?_
      refine s_iret dX11_part_54 rfl rfl ?_
      have hq := hy ⟨h_5, by omega, by omega⟩ I m (by omega) Hi.rf hC
      first | exact hq | (rw [show ptF r s i j = s (5 + i) by unfold ptF; rw [if_neg (by omega), if_neg (by omega), if_neg (by omega), if_neg (by omega), if_neg (by omega)]] at hq; exact hq)
    refine s_aload_n 30 dX11_part_29 rfl rfl ?_
    refine s_getR 33 dX11_part_30 rfl fl_X11_38 (fun _ _ _ _ => rfl) (T_X11_evening hT) sh_0 (Nat.le_of_ble_eq_true rfl) ?_
    refine s_iload_n 34 dX11_part_33 rfl rfl ?_
    refine s_callV0 (M' := M_X2_playerOf) (as := [_]) 37 dX11_part_34 rfl cw_X11_253 rfl rfl sh_80 rfl (by decide) (Nat.le_of_ble_eq_true rfl) (Nat.le_of_ble_eq_true rfl) (Nat.le_of_ble_eq_true rfl) (Nat.le_of_ble_eq_true rfl) ⟨rfl, rfl, rfl⟩ ?_
    refine c_X2_playerOf (s := fun p => s (5 + p)) hE.2.1 (by omega) ?_
    refine s_goto 51 dX11_part_37 rfl ?_
    (try rw [ep])
    refine s_callV0 (M' := M_X11_fine) (as := [_]) 54 dX11_part_51 rfl cw_X11_119 rfl rfl sh_0 rfl (by decide) (Nat.le_of_ble_eq_true rfl) (Nat.le_of_ble_eq_true rfl) (Nat.le_of_ble_eq_true rfl) (Nat.le_of_ble_eq_true rfl) ⟨rfl, rfl, rfl⟩ ?_
    refine c_X11_fine ?_
    refine s_iret dX11_part_54 rfl rfl ?_
    have hq := hy ⟨h_5, by omega, by omega⟩ I m (by omega) Hi.rf hC
    first | exact hq | (rw [show ptF r s i j = s (5 + i) by unfold ptF; rw [if_neg (by omega), if_neg (by omega), if_neg (by omega), if_neg (by omega), if_neg (by omega)]] at hq; exact hq)
  refine s_aload_n 18 dX11_part_17 rfl rfl ?_
  refine s_iconst 19 dX11_part_18 rfl ?_
  refine s_callV0 (M' := M_X11_refuse) (as := [_]) 22 dX11_part_19 rfl cw_X11_102 rfl rfl sh_0 rfl (by decide) (Nat.le_of_ble_eq_true rfl) (Nat.le_of_ble_eq_true rfl) (Nat.le_of_ble_eq_true rfl) (Nat.le_of_ble_eq_true rfl) ⟨rfl, rfl, rfl⟩ ?_
  refine c_X11_refuse (by decide) ?_
  refine s_iret dX11_part_22 rfl rfl ?_
  first | exact hn (fun z => h_5 z.1) | exact hn (fun z => by omega)
set_option maxHeartbeats 4000000 in
theorem c_X11_on {E : ET} {I : MI} {L : ML} {R : MR} {Q : Option AV → MI → ML → MR → Prop} {m : Int} {bt : F1} {n ft pl w : Int} {HP : Prop} {r s : F1} {a : List Int} {U D K : List (List Int)} {P P' : Nat} {i j : Int} (hT : Topo R) (hC : CV I L R m bt n ft pl w HP r s a U D K P P') (hm : 0 ≤ m ∧ m ≤ 900000) (hi : -2147483648 ≤ i ∧ i ≤ 2147483647) (hj : -2147483648 ≤ j ∧ j ≤ 2147483647) (h : ∀ I', Hi I I' → CV I' L R (m + 8) bt n ft pl (pick ((HP ∧ 0 ≤ i ∧ i < r 7) ∧ 0 ≤ j ∧ j ≤ 5) 0 1) HP r s a U D K P P' → Q (some (vi (pick ((HP ∧ 0 ≤ i ∧ i < r 7) ∧ 0 ≤ j ∧ j ≤ 5) (onF r s i j) (-1)))) I' L R) : CT E M_X11_on 161 yX11_on [(vr (0)), (vi (i)), (vi (j))] I L R Q := by
  refine CT_of rfl rfl (fun h => by cases h) (Nat.le_of_ble_eq_true rfl) (fun X => ?_)
  show V X _ z0 0 [some (vr (0)), some (vi (i)), some (vi (j))] [] I L R _
  obtain ⟨hn, hy⟩ := c_spl hC h
  have bd := hC.bd
  have hP := hC.1.1
  have t2 := hC.1.2.2.2.1
  have hR := hC.2.2.1
  have hE := hC.2.2.2.1
  refine s_aload_n 1 dX11_on_0 rfl rfl ?_
  refine s_iload_n 2 dX11_on_1 rfl rfl ?_
  refine s_callV0 (M' := M_X11_isOn) (as := [_]) 5 dX11_on_2 rfl cw_X11_194 rfl rfl sh_0 rfl (by decide) (Nat.le_of_ble_eq_true rfl) (Nat.le_of_ble_eq_true rfl) (Nat.le_of_ble_eq_true rfl) (Nat.le_of_ble_eq_true rfl) ⟨rfl, rfl, rfl⟩ ?_
  refine c_X11_isOn hC hi ?_
  refine s_ifb_eq 17 8 dX11_on_5 rfl rfl (fun h_5 => ?_) (fun h_5 => ?_)
  · skip
    refine s_aload_n 18 dX11_on_17 rfl rfl ?_
    refine s_iconst 19 dX11_on_18 rfl ?_
    refine s_callV0 (M' := M_X11_refuse) (as := [_]) 22 dX11_on_19 rfl cw_X11_102 rfl rfl sh_0 rfl (by decide) (Nat.le_of_ble_eq_true rfl) (Nat.le_of_ble_eq_true rfl) (Nat.le_of_ble_eq_true rfl) (Nat.le_of_ble_eq_true rfl) ⟨rfl, rfl, rfl⟩ ?_
    refine c_X11_refuse (by decide) ?_
    refine s_iret dX11_on_22 rfl rfl ?_
    first | exact hn (fun z => h_5 z.1) | exact hn (fun z => by omega)
  refine s_iload_n 9 dX11_on_8 rfl rfl ?_
  refine s_if_lt 17 12 dX11_on_9 rfl rfl (by first | omega | exact bI_r _ | exact iI_r _) (fun h_9 => ?_) (fun h_9 => ?_)
  · skip
    refine s_aload_n 18 dX11_on_17 rfl rfl ?_
    refine s_iconst 19 dX11_on_18 rfl ?_
    refine s_callV0 (M' := M_X11_refuse) (as := [_]) 22 dX11_on_19 rfl cw_X11_102 rfl rfl sh_0 rfl (by decide) (Nat.le_of_ble_eq_true rfl) (Nat.le_of_ble_eq_true rfl) (Nat.le_of_ble_eq_true rfl) (Nat.le_of_ble_eq_true rfl) ⟨rfl, rfl, rfl⟩ ?_
    refine c_X11_refuse (by decide) ?_
    refine s_iret dX11_on_22 rfl rfl ?_
    first | exact hn (fun z => h_5 z.1) | exact hn (fun z => by omega)
  refine s_iload_n 13 dX11_on_12 rfl rfl ?_
  refine s_iconst 14 dX11_on_13 rfl ?_
  refine s_icmp_le 23 17 dX11_on_14 rfl rfl (by first | omega | exact bI_r _ | exact iI_r _) (by first | omega | exact bI_r _ | exact iI_r _) (fun h_14 => ?_) (fun h_14 => ?_)
  · skip
    refine s_iload_n 24 dX11_on_23 rfl rfl ?_
    refine s_iconst 25 dX11_on_24 rfl ?_
    refine s_icmp_ne 41 28 dX11_on_25 rfl rfl (by first | omega | exact bI_r _ | exact iI_r _) (by first | omega | exact bI_r _ | exact iI_r _) (fun h_25 => ?_) (fun h_25 => ?_)
    · skip
      refine s_aload_n 42 dX11_on_41 rfl rfl ?_
      refine s_aload_n 43 dX11_on_42 rfl rfl ?_
      refine s_getR 46 dX11_on_43 rfl fl_X11_19 (fun _ _ _ _ => rfl) (by assumption) sh_0 (Nat.le_of_ble_eq_true rfl) ?_
      refine s_getR 49 dX11_on_46 rfl fl_X11_249 (fun _ _ _ _ => rfl) (T_X5_ons hT (by assumption)) (isP_sh (by assumption)) (isP_lt (by assumption)) ?_
      refine s_iload_n 50 dX11_on_49 rfl rfl ?_
      refine s_aald 51 dX11_on_50 rfl (shP_ons (by assumption)) (ltP_ons (by assumption)) (by omega) (by decide) (T_X5_ons_row hT (by assumption) (by omega)) ?_
      refine s_iload_n 52 dX11_on_51 rfl rfl ?_
      have rp := hR.2.2.2.1 i h_5.2.1 h_5.2.2
      unfold rowO at rp
      have ep : I (P + 10 + i.toNat) j = onF r s i j := by unfold onF; rcases (show j = 0 ∨ j = 1 ∨ j = 2 ∨ j = 3 ∨ j = 4 by omega) with z | z | z | z | z <;> subst z <;> simp [rp]
      refine s_iald 53 dX11_on_52 rfl (shP_ons_row (by assumption) (by omega)) (ltP_ons_row (by assumption) (by omega)) (by omega) (by omega) (fun r_52 => ?_)
      rw [ep]
      refine s_callV0 (M' := M_X11_fine) (as := [_]) 56 dX11_on_53 rfl cw_X11_119 rfl rfl sh_0 rfl (by decide) (Nat.le_of_ble_eq_true rfl) (Nat.le_of_ble_eq_true rfl) (Nat.le_of_ble_eq_true rfl) (Nat.le_of_ble_eq_true rfl) ⟨rfl, rfl, rfl⟩ ?_
      refine c_X11_fine ?_
      refine s_iret dX11_on_56 rfl rfl ?_
      have hq := hy ⟨h_5, by omega, by omega⟩ I m (by omega) Hi.rf hC
      first | exact hq | (rw [show onF r s i j = bI (hasI (s 12) i) by unfold onF; rw [if_neg (by omega), if_neg (by omega), if_neg (by omega), if_neg (by omega), if_neg (by omega)]] at hq; exact hq)
    refine s_aload_n 29 dX11_on_28 rfl rfl ?_
    refine s_aload_n 30 dX11_on_29 rfl rfl ?_
    refine s_getR 33 dX11_on_30 rfl fl_X11_38 (fun _ _ _ _ => rfl) (T_X11_evening hT) sh_0 (Nat.le_of_ble_eq_true rfl) ?_
    refine s_iload_n 34 dX11_on_33 rfl rfl ?_
    refine s_callV0 (M' := M_X2_isCut) (as := [_]) 37 dX11_on_34 rfl cw_X11_246 rfl rfl sh_80 rfl (by decide) (Nat.le_of_ble_eq_true rfl) (Nat.le_of_ble_eq_true rfl) (Nat.le_of_ble_eq_true rfl) (Nat.le_of_ble_eq_true rfl) ⟨rfl, rfl, rfl⟩ ?_
    refine c_X2_isCut hE.2.2 ?_
    refine s_callV0 (M' := M_X11_fineIf) (as := [_]) 40 dX11_on_37 rfl cw_X11_217 rfl rfl sh_0 rfl (by decide) (Nat.le_of_ble_eq_true rfl) (Nat.le_of_ble_eq_true rfl) (Nat.le_of_ble_eq_true rfl) (Nat.le_of_ble_eq_true rfl) ⟨rfl, rfl, rfl⟩ ?_
    refine c_X11_fineIf ?_
    refine s_iret dX11_on_40 rfl rfl ?_
    have hq := hy ⟨h_5, by omega, by omega⟩ I m (by omega) Hi.rf hC
    first | exact hq | (rw [show onF r s i j = bI (hasI (s 12) i) by unfold onF; rw [if_neg (by omega), if_neg (by omega), if_neg (by omega), if_neg (by omega), if_neg (by omega)]] at hq; exact hq)
  refine s_aload_n 18 dX11_on_17 rfl rfl ?_
  refine s_iconst 19 dX11_on_18 rfl ?_
  refine s_callV0 (M' := M_X11_refuse) (as := [_]) 22 dX11_on_19 rfl cw_X11_102 rfl rfl sh_0 rfl (by decide) (Nat.le_of_ble_eq_true rfl) (Nat.le_of_ble_eq_true rfl) (Nat.le_of_ble_eq_true rfl) (Nat.le_of_ble_eq_true rfl) ⟨rfl, rfl, rfl⟩ ?_
  refine c_X11_refuse (by decide) ?_
  refine s_iret dX11_on_22 rfl rfl ?_
  first | exact hn (fun z => h_5 z.1) | exact hn (fun z => by omega)
