/-! a NIGHT: its seconds, its row, who meets whom -/
theorem V_rg {X : XT} {M : MT} {z : Nat × Nat × Nat} {pc : Nat} {ls : List (Option AV)} {st : List AV} {I : MI} {L : ML} {R : MR} {F : State → Prop} (k : (∀ c k, -2147483648 ≤ I c k ∧ I c k ≤ 2147483647) → V X M z pc ls st I L R F) : V X M z pc ls st I L R F := fun ok h1 h2 H locs la hR hl hz hv => k hR.2.2.2 ok h1 h2 H locs la hR hl hz hv
def NtF (N : Nat) (I I' : MI) : Prop := ∀ c, (c < N ∨ N + 21 < c) → I' c = I c
theorem NtF.rf {N : Nat} {I : MI} : NtF N I I := fun _ _ => rfl
theorem NtF.tr {N : Nat} {I I' I'' : MI} (h : NtF N I I') (h' : NtF N I' I'') : NtF N I I'' := fun c hc => (h' c hc).trans (h c hc)
theorem NtF.st {N : Nat} {I I' : MI} (h : NtF N I I') {c : Nat} {k v : Int} (hc : N ≤ c ∧ c ≤ N + 21) : NtF N I (up I' c k v) := fun a ha => by
  rw [up_ne (by omega)]
  exact h a ha
theorem PR.nt {N P : Nat} {I I' : MI} {r : F1} (hN : isN N) (hP : isP P) (hr : 0 ≤ r 4 ∧ r 4 ≤ 7 ∧ 0 ≤ r 7 ∧ r 7 ≤ 14 ∧ 0 ≤ r 8 ∧ r 8 ≤ 7) (h : PR I P r) (hf : NtF N I I') : PR I' P r := by
  have hn : N = 85 ∨ N = 113 := hN
  have hp : P = 3 ∨ P = 39 := hP
  exact h.c hr (fun c a b => hf c (by omega))
def NeP (I : MI) (N : Nat) (r : F1) (rd : Int) : Prop := ∀ a b, 0 ≤ a → a < r 7 → 0 ≤ b → b < r 7 → I (N + 3 + a.toNat) b = neF r rd a b
theorem Topo_N {R : MR} {N : Nat} {v : Option Nat} (hT : Topo R) (hN : isN N) : Topo (up R N 1 v) := by
  rcases hN with rfl | rfl
  · exact Topo_up hT (fun b hb => absurd (List.mem_map_of_mem (f := fun t : Nat × Int × Nat => (t.1, t.2.1)) hb) (show ¬ ((85, 1) : Nat × Int) ∈ TOPO.map (fun t : Nat × Int × Nat => (t.1, t.2.1)) by decide +kernel))
  · exact Topo_up hT (fun b hb => absurd (List.mem_map_of_mem (f := fun t : Nat × Int × Nat => (t.1, t.2.1)) hb) (show ¬ ((113, 1) : Nat × Int) ∈ TOPO.map (fun t : Nat × Int × Nat => (t.1, t.2.1)) by decide +kernel))
set_option maxHeartbeats 4000000 in
theorem c_X4_take {E : ET} {I : MI} {L : ML} {R : MR} {Q : Option AV → MI → ML → MR → Prop} {N P : Nat} {r : F1} {rd : Int} (hT : Topo R) (hN : isN N) (hP : isP P) (hr : WFr r) (hh : wHr r) (hR : PR I P r) (hrd : -1 ≤ rd ∧ rd ≤ 7) (h : ∀ I', NtF N I I' → I' N 8 = 0 → (∀ k, k ≠ 8 → I' N k = I N k) → NeP I' N r rd → Q none I' L (up R N 1 (some P))) : CT E M_X4_take 161 yX4_take [(vr (N)), (vr (P)), (vi (rd))] I L R Q := by
  refine CT_of rfl rfl (fun h => by cases h) (Nat.le_of_ble_eq_true rfl) (fun X => ?_)
  show V X _ z0 0 [some (vr (N)), some (vr (P)), some (vi (rd)), none, none] [] I L R _
  have hn : N = 85 ∨ N = 113 := hN
  have hp : P = 3 ∨ P = 39 := hP
  have e0 := hr.1
  have body : ∀ R1 : MR, R1 = up R N 1 (some P) → Topo R1 → R1 N 1 = some P → V X M_X4_take z0 5 [some (vr (N)), some (vr (P)), some (vi (rd)), none, none] [] (I) L R1 (RT X M_X4_take Q) := by
    intro R1 eR hT hNP
    rw [← eR] at h
    have outer : ∀ (f : Nat) (a : Int) (I1 : MI) (w : Option AV), r 7 - a < (f : Int) → 0 ≤ a → a ≤ r 7 → NtF N I I1 → I1 N 8 = 0 → (∀ k, k ≠ 8 → I1 N k = I N k) → (∀ a' b', 0 ≤ a' → a' < a → 0 ≤ b' → b' < r 7 → I1 (N + 3 + a'.toNat) b' = neF r rd a' b') → V X M_X4_take z0 12 [some (vr (N)), some (vr (P)), some (vi (rd)), some (vi (a)), w] [] (I1) L R1 (RT X M_X4_take Q) := by
      intro f
      induction f with
      | zero => intro a I1 w h1 h2 h3; omega
      | succ f ih =>
        intro a I1 w h1 h2 h3 h4 h5 h6 h7
        have e7 := (hR.nt hN hP (by omega) h4).1.2.2.2.2.2.2.1
        by_cases ha : a < r 7
        · have inner : ∀ (f : Nat) (b : Int) (I2 : MI), r 7 - b < (f : Int) → 0 ≤ b → b ≤ r 7 → NtF N I I2 → I2 N 8 = 0 → (∀ k, k ≠ 8 → I2 N k = I N k) → (∀ a' b', 0 ≤ a' → 0 ≤ b' → b' < r 7 → (a' < a ∨ (a' = a ∧ b' < b)) → I2 (N + 3 + a'.toNat) b' = neF r rd a' b') → V X M_X4_take z0 26 [some (vr (N)), some (vr (P)), some (vi (rd)), some (vi (a)), some (vi (b))] [] (I2) L R1 (RT X M_X4_take Q) := by
            intro f
            induction f with
            | zero => intro b I2 h1 h2 h3; omega
            | succ f ih2 =>
              intro b I2 g1 g2 g3 g4 g5 g6 g7
              have hR2 := hR.nt hN hP (by omega) g4
              have e72 := hR2.1.2.2.2.2.2.2.1
              by_cases hb : b < r 7
              · have nb := neF_b (rd := rd) hr ⟨h2, ha⟩ ⟨g2, hb⟩
                refine s_iload 28 dX4_take_26 rfl rfl ?_
                refine s_aload_n 29 dX4_take_28 rfl rfl ?_
                refine s_getR 32 dX4_take_29 rfl fl_X4_49 (fun _ _ _ _ => rfl) (by assumption) (isN_sh hN) (isN_lt hN) ?_
                refine s_getI 35 dX4_take_32 rfl fl_X4_53 (fun _ _ _ _ => rfl) (isP_sh (by assumption)) (isP_lt (by assumption)) (fun r_32 => ?_)
                rw [e72]
                refine s_icmp_ge 64 38 dX4_take_35 rfl rfl (by first | omega | exact bI_r _ | exact iI_r _) (by first | omega | exact bI_r _ | exact iI_r _) (fun h_35 => by exfalso; omega) (fun h_35 => ?_)
                refine s_aload_n 39 dX4_take_38 rfl rfl ?_
                refine s_getR 42 dX4_take_39 rfl fl_X4_11 (fun _ _ _ _ => rfl) (T_X4_needs hT hN) (isN_sh hN) (isN_lt hN) ?_
                refine s_iload_n 43 dX4_take_42 rfl rfl ?_
                refine s_aald 44 dX4_take_43 rfl (shN_needs hN) (ltN_needs hN) (by omega) (by decide) (T_X4_needs_row hT hN (by omega)) ?_
                refine s_iload 46 dX4_take_44 rfl rfl ?_
                refine s_aload_n 47 dX4_take_46 rfl rfl ?_
                refine s_getR 50 dX4_take_47 rfl fl_X4_49 (fun _ _ _ _ => rfl) (by assumption) (isN_sh hN) (isN_lt hN) ?_
                refine s_iload_n 51 dX4_take_50 rfl rfl ?_
                refine s_iload 53 dX4_take_51 rfl rfl ?_
                refine s_iload_n 54 dX4_take_53 rfl rfl ?_
                refine s_callV0 (M' := M_X5_needTime) (as := [_, _, _]) 57 dX4_take_54 rfl cw_X4_58 rfl rfl (isP_sh (by assumption)) rfl (by decide) (isP_lt (by assumption)) (Nat.le_of_ble_eq_true rfl) (Nat.le_of_ble_eq_true rfl) (Nat.le_of_ble_eq_true rfl) ⟨rfl, rfl, rfl⟩ ?_
                refine c_X5_needTime hT hP hr hh hR2 ⟨h2, ha⟩ ⟨g2, hb⟩ hrd ?_
                refine s_iast 58 dX4_take_57 rfl (shN_needs_row hN (by omega)) (ltN_needs_row hN (by omega)) (by omega) (by omega) (by first | omega | exact bI_r _ | exact iI_r _) ?_
                refine s_iinc (ls' := [_, _, _, _, _]) 61 dX4_take_58 rfl rfl (Nat.le_of_ble_eq_true rfl) rfl rfl ?_
                refine s_goto 26 dX4_take_61 rfl ?_
                refine ih2 (b + 1) _ (by omega) (by omega) (by omega) (g4.st (by omega)) ?_ (fun k k1 => ?_) (fun a' b' a1 b1 b2 z => ?_)
                · rw [up_ne (by omega)]; exact g5
                · rw [up_ne (by omega)]; exact g6 k k1
                · by_cases ea : a' = a
                  · subst ea
                    rw [upd9]
                    by_cases eb : b' = b
                    · rw [if_pos eb, eb]
                    · rw [if_neg eb]; exact g7 a' b' a1 b1 b2 (Or.inr ⟨rfl, by omega⟩)
                  · rw [up_ne (by omega)]; exact g7 a' b' a1 b1 b2 (Or.inl (by omega))
              · skip
                refine s_iload 28 dX4_take_26 rfl rfl ?_
                refine s_aload_n 29 dX4_take_28 rfl rfl ?_
                refine s_getR 32 dX4_take_29 rfl fl_X4_49 (fun _ _ _ _ => rfl) (by assumption) (isN_sh hN) (isN_lt hN) ?_
                refine s_getI 35 dX4_take_32 rfl fl_X4_53 (fun _ _ _ _ => rfl) (isP_sh (by assumption)) (isP_lt (by assumption)) (fun r_32 => ?_)
                rw [e72]
                refine s_icmp_ge 64 38 dX4_take_35 rfl rfl (by first | omega | exact bI_r _ | exact iI_r _) (by first | omega | exact bI_r _ | exact iI_r _) (fun h_35 => ?_) (fun h_35 => by exfalso; omega)
                refine s_iinc (ls' := [_, _, _, _, _]) 67 dX4_take_64 rfl rfl (Nat.le_of_ble_eq_true rfl) rfl rfl ?_
                refine s_goto 12 dX4_take_67 rfl ?_
                exact ih (a + 1) I2 _ (by omega) (by omega) (by omega) g4 g5 g6 (fun a' b' a1 a2 b1 b2 => g7 a' b' a1 b1 b2 (by omega))
          refine s_iload_n 13 dX4_take_12 rfl rfl ?_
          refine s_aload_n 14 dX4_take_13 rfl rfl ?_
          refine s_getR 17 dX4_take_14 rfl fl_X4_49 (fun _ _ _ _ => rfl) (by assumption) (isN_sh hN) (isN_lt hN) ?_
          refine s_getI 20 dX4_take_17 rfl fl_X4_53 (fun _ _ _ _ => rfl) (isP_sh (by assumption)) (isP_lt (by assumption)) (fun r_17 => ?_)
          rw [e7]
          refine s_icmp_ge 70 23 dX4_take_20 rfl rfl (by first | omega | exact bI_r _ | exact iI_r _) (by first | omega | exact bI_r _ | exact iI_r _) (fun h_20 => by exfalso; omega) (fun h_20 => ?_)
          refine s_iconst 24 dX4_take_23 rfl ?_
          refine s_istore (ls' := [_, _, _, _, _]) 26 dX4_take_24 rfl (Nat.le_of_ble_eq_true rfl) rfl rfl ?_
          exact inner 16 0 I1 (by omega) (by omega) (by omega) h4 h5 h6 (fun a' b' a1 b1 b2 z => h7 a' b' a1 (by omega) b1 b2)
        · have ea : a = r 7 := by omega
          subst ea
          refine s_iload_n 13 dX4_take_12 rfl rfl ?_
          refine s_aload_n 14 dX4_take_13 rfl rfl ?_
          refine s_getR 17 dX4_take_14 rfl fl_X4_49 (fun _ _ _ _ => rfl) (by assumption) (isN_sh hN) (isN_lt hN) ?_
          refine s_getI 20 dX4_take_17 rfl fl_X4_53 (fun _ _ _ _ => rfl) (isP_sh (by assumption)) (isP_lt (by assumption)) (fun r_17 => ?_)
          rw [e7]
          refine s_icmp_ge 70 23 dX4_take_20 rfl rfl (by first | omega | exact bI_r _ | exact iI_r _) (by first | omega | exact bI_r _ | exact iI_r _) (fun h_20 => ?_) (fun h_20 => by exfalso; omega)
          refine s_vret dX4_take_70 rfl rfl ?_
          exact h I1 h4 h5 h6 h7
    refine s_aload_n 6 dX4_take_5 rfl rfl ?_
    refine s_iconst 7 dX4_take_6 rfl ?_
    refine s_putI 10 dX4_take_7 rfl fl_X4_32 (fun _ => x_nz (by omega)) (fun _ => rfl) (fun _ _ _ _ => rfl) (isN_sh hN) (isN_lt hN) (by first | omega | exact bI_r _ | exact iI_r _) ?_
    refine s_iconst 11 dX4_take_10 rfl ?_
    refine s_istore_n (ls' := [_, _, _, _, _]) 12 dX4_take_11 rfl (Nat.le_of_ble_eq_true rfl) rfl rfl ?_
    exact outer 16 0 _ _ (by omega) (by omega) (by omega) (NtF.rf.st (by omega)) ups (fun k k1 => upn k1) (fun a' b' a1 a2 => by omega)
  refine s_aload_n 1 dX4_take_0 rfl rfl ?_
  refine s_aload_n 2 dX4_take_1 rfl rfl ?_
  refine s_putR 5 dX4_take_2 rfl fl_X4_49 (fun _ => rfl) (fun _ => rfl) (fun _ _ _ _ => rfl) (isN_sh hN) (isN_lt hN) ?_
  exact body _ rfl (Topo_N hT hN) upsR
def LdS (I : MI) (N : Nat) (r : F1) (g : Int) (sc : F1) : Prop := (∀ s, 0 ≤ s → s < r 5 → I (N + 18) s = opF r g sc s) ∧ ∀ k, 0 ≤ k → k < r 7 → I (N + 19) k = bgF r g sc k ∧ I (N + 20) k = clF r g sc k
def LdR (I : MI) (N : Nat) (r : F1) (g : Int) (sc : F1) : Prop := ∀ i, 0 ≤ i → i < r 7 → I (N + 21) i = sqF r g sc i
noncomputable def meS (r : F1) (g : Int) (sc : F1) (k : Int) : Int := setOf (fun l => l ≠ k ∧ meetP (bgF r g sc) (clF r g sc) k l) (r 7).toNat
def LdM (I : MI) (N : Nat) (r : F1) (g : Int) (sc : F1) : Prop := ∀ k, 0 ≤ k → k < r 7 → I (N + 17) k = meS r g sc k
set_option maxHeartbeats 4000000 in
theorem c_X4_setTimes {E : ET} {I : MI} {L : ML} {R : MR} {Q : Option AV → MI → ML → MR → Prop} {N P : Nat} {r sc : F1} {o g : Int} (hT : Topo R) (hN : isN N) (hP : isP P) (hNP : R N 1 = some P) (hr : WFr r) (hR : PR I P r) (e9 : I N 9 = o) (e10 : I N 10 = g) (ho : EnO o sc (r 5)) (hsc : Perm (r 5) sc) (hg : 0 ≤ g ∧ g ≤ 99) (h : ∀ I', Eqo [N + 18, N + 19, N + 20] I I' → LdS I' N r g sc → Q none I' L R) : CT E M_X4_setTimes 161 yX4_setTimes [(vr (N))] I L R Q := by
  refine CT_of rfl rfl (fun h => by cases h) (Nat.le_of_ble_eq_true rfl) (fun X => ?_)
  show V X _ z0 0 [some (vr (N)), none, none, none] [] I L R _
  have hn : N = 85 ∨ N = 113 := hN
  have hp : P = 3 ∨ P = 39 := hP
  have e0 := hr.1
  have toF : ∀ J : MI, Eqo [N + 18, N + 19, N + 20] I J → NtF N I J := fun J z c hc => z c (by simp; omega)
  have loop2 : ∀ (f : Nat) (k t : Int) (I1 : MI) (w : Option AV), r 7 - k < (f : Int) → 0 ≤ k → k ≤ r 7 → Eqo [N + 18, N + 19, N + 20] I I1 → (∀ s, 0 ≤ s → s < r 5 → I1 (N + 18) s = opF r g sc s) → (∀ j, 0 ≤ j → j < k → I1 (N + 19) j = bgF r g sc j ∧ I1 (N + 20) j = clF r g sc j) → V X M_X4_setTimes z0 61 [some (vr (N)), some (vi (t)), some (vi (k)), w] [] (I1) L R (RT X M_X4_setTimes Q) := by
    intro f
    induction f with
    | zero => intro k t I1 w h1 h2 h3; omega
    | succ f ih =>
      intro k t I1 w h1 h2 h3 h4 h5 h6
      have hR1 := hR.nt hN hP (by omega) (toF I1 h4)
      have e7 := hR1.1.2.2.2.2.2.2.1
      by_cases hk : k < r 7
      · have ek := hr.2.2.2.1 k h2 hk
        have rk := hR1.2.2.2.1 k h2 hk
        unfold rowO at rk
        have bc := bc_b hr hsc hg (k := k) ⟨h2, hk⟩
        have e5 := h5 (r (54 + 7 * k + 1)) (by omega) (by omega)
        have eb : opF r g sc (r (54 + 7 * k + 1)) + r (54 + 7 * k + 2) = bgF r g sc k := rfl
        have ec : opF r g sc (r (54 + 7 * k + 1)) + r (54 + 7 * k + 3) = clF r g sc k := rfl
        refine s_iload_n 62 dX4_setTimes_61 rfl rfl ?_
        refine s_aload_n 63 dX4_setTimes_62 rfl rfl ?_
        refine s_getR 66 dX4_setTimes_63 rfl fl_X4_49 (fun _ _ _ _ => rfl) (by assumption) (isN_sh hN) (isN_lt hN) ?_
        refine s_getI 69 dX4_setTimes_66 rfl fl_X4_53 (fun _ _ _ _ => rfl) (isP_sh (by assumption)) (isP_lt (by assumption)) (fun r_66 => ?_)
        rw [e7]
        refine s_icmp_ge 134 72 dX4_setTimes_69 rfl rfl (by first | omega | exact bI_r _ | exact iI_r _) (by first | omega | exact bI_r _ | exact iI_r _) (fun h_69 => by exfalso; omega) (fun h_69 => ?_)
        refine s_aload_n 73 dX4_setTimes_72 rfl rfl ?_
        refine s_getR 76 dX4_setTimes_73 rfl fl_X4_20 (fun _ _ _ _ => rfl) (T_X4_sceneBegins hT hN) (isN_sh hN) (isN_lt hN) ?_
        refine s_aload_n 77 dX4_setTimes_76 rfl rfl ?_
        refine s_getR 80 dX4_setTimes_77 rfl fl_X4_49 (fun _ _ _ _ => rfl) (by assumption) (isN_sh hN) (isN_lt hN) ?_
        refine s_getR 83 dX4_setTimes_80 rfl fl_X4_84 (fun _ _ _ _ => rfl) (T_X5_ons hT (by assumption)) (isP_sh (by assumption)) (isP_lt (by assumption)) ?_
        refine s_iload_n 84 dX4_setTimes_83 rfl rfl ?_
        refine s_aald 85 dX4_setTimes_84 rfl (shP_ons (by assumption)) (ltP_ons (by assumption)) (by omega) (by decide) (T_X5_ons_row hT (by assumption) (by omega)) ?_
        refine s_iconst 86 dX4_setTimes_85 rfl ?_
        refine s_iald 87 dX4_setTimes_86 rfl (shP_ons_row (by assumption) (by omega)) (ltP_ons_row (by assumption) (by omega)) (by omega) (by omega) (fun r_86 => ?_)
        rw [rk.2.1]
        refine s_iald 88 dX4_setTimes_87 rfl (shN_sceneBegins hN) (ltN_sceneBegins hN) (by omega) (by omega) (fun r_87 => ?_)
        rw [e5]
        refine s_istore_n (ls' := [_, _, _, _]) 89 dX4_setTimes_88 rfl (Nat.le_of_ble_eq_true rfl) rfl rfl ?_
        refine s_aload_n 90 dX4_setTimes_89 rfl rfl ?_
        refine s_getR 93 dX4_setTimes_90 rfl fl_X4_23 (fun _ _ _ _ => rfl) (T_X4_onBegins hT hN) (isN_sh hN) (isN_lt hN) ?_
        refine s_iload_n 94 dX4_setTimes_93 rfl rfl ?_
        refine s_iload_n 95 dX4_setTimes_94 rfl rfl ?_
        refine s_aload_n 96 dX4_setTimes_95 rfl rfl ?_
        refine s_getR 99 dX4_setTimes_96 rfl fl_X4_49 (fun _ _ _ _ => rfl) (by assumption) (isN_sh hN) (isN_lt hN) ?_
        refine s_getR 102 dX4_setTimes_99 rfl fl_X4_84 (fun _ _ _ _ => rfl) (T_X5_ons hT (by assumption)) (isP_sh (by assumption)) (isP_lt (by assumption)) ?_
        refine s_iload_n 103 dX4_setTimes_102 rfl rfl ?_
        refine s_aald 104 dX4_setTimes_103 rfl (shP_ons (by assumption)) (ltP_ons (by assumption)) (by omega) (by decide) (T_X5_ons_row hT (by assumption) (by omega)) ?_
        refine s_iconst 105 dX4_setTimes_104 rfl ?_
        refine s_iald 106 dX4_setTimes_105 rfl (shP_ons_row (by assumption) (by omega)) (ltP_ons_row (by assumption) (by omega)) (by omega) (by omega) (fun r_105 => ?_)
        refine s_iadd 107 dX4_setTimes_106 rfl ?_
        rw [rk.2.2.2.2.2.1, eb]
        refine s_iast 108 dX4_setTimes_107 rfl (shN_onBegins hN) (ltN_onBegins hN) (by omega) (by omega) (by first | omega | exact bI_r _ | exact iI_r _) ?_
        refine s_aload_n 109 dX4_setTimes_108 rfl rfl ?_
        refine s_getR 112 dX4_setTimes_109 rfl fl_X4_26 (fun _ _ _ _ => rfl) (T_X4_onEnds hT hN) (isN_sh hN) (isN_lt hN) ?_
        refine s_iload_n 113 dX4_setTimes_112 rfl rfl ?_
        refine s_iload_n 114 dX4_setTimes_113 rfl rfl ?_
        refine s_aload_n 115 dX4_setTimes_114 rfl rfl ?_
        refine s_getR 118 dX4_setTimes_115 rfl fl_X4_49 (fun _ _ _ _ => rfl) (by assumption) (isN_sh hN) (isN_lt hN) ?_
        refine s_getR 121 dX4_setTimes_118 rfl fl_X4_84 (fun _ _ _ _ => rfl) (T_X5_ons hT (by assumption)) (isP_sh (by assumption)) (isP_lt (by assumption)) ?_
        refine s_iload_n 122 dX4_setTimes_121 rfl rfl ?_
        refine s_aald 123 dX4_setTimes_122 rfl (shP_ons (by assumption)) (ltP_ons (by assumption)) (by omega) (by decide) (T_X5_ons_row hT (by assumption) (by omega)) ?_
        refine s_bipush 125 dX4_setTimes_123 rfl (by decide) ?_
        refine s_iald 126 dX4_setTimes_125 rfl (shP_ons_row (by assumption) (by omega)) (ltP_ons_row (by assumption) (by omega)) (by omega) (by omega) (fun r_125 => ?_)
        rw [up_ne (by omega : P + 10 + k.toNat ≠ N + 19), rk.2.2.2.2.2.2]
        refine s_iadd 127 dX4_setTimes_126 rfl ?_
        rw [ec]
        refine s_iast 128 dX4_setTimes_127 rfl (shN_onEnds hN) (ltN_onEnds hN) (by omega) (by omega) (by first | omega | exact bI_r _ | exact iI_r _) ?_
        refine s_iinc (ls' := [_, _, _, _]) 131 dX4_setTimes_128 rfl rfl (Nat.le_of_ble_eq_true rfl) rfl rfl ?_
        refine s_goto 61 dX4_setTimes_131 rfl ?_
        refine ih (k + 1) _ _ _ (by omega) (by omega) (by omega) ((h4.st (by simp)).st (by simp)) (fun s s1 s2 => ?_) (fun j j1 j2 => ?_)
        · rw [up_ne (by omega), up_ne (by omega)]; exact h5 s s1 s2
        · rw [up_ne (by omega : N + 19 ≠ N + 20), upd9, upd9, up_ne (by omega : N + 20 ≠ N + 19)]
          by_cases ej : j = k
          · rw [if_pos ej, if_pos ej, ej]; exact ⟨rfl, rfl⟩
          · rw [if_neg ej, if_neg ej]; exact h6 j j1 (by omega)
      · have ek : k = r 7 := by omega
        subst ek
        refine s_iload_n 62 dX4_setTimes_61 rfl rfl ?_
        refine s_aload_n 63 dX4_setTimes_62 rfl rfl ?_
        refine s_getR 66 dX4_setTimes_63 rfl fl_X4_49 (fun _ _ _ _ => rfl) (by assumption) (isN_sh hN) (isN_lt hN) ?_
        refine s_getI 69 dX4_setTimes_66 rfl fl_X4_53 (fun _ _ _ _ => rfl) (isP_sh (by assumption)) (isP_lt (by assumption)) (fun r_66 => ?_)
        rw [e7]
        refine s_icmp_ge 134 72 dX4_setTimes_69 rfl rfl (by first | omega | exact bI_r _ | exact iI_r _) (by first | omega | exact bI_r _ | exact iI_r _) (fun h_69 => ?_) (fun h_69 => by exfalso; omega)
        refine s_vret dX4_setTimes_134 rfl rfl ?_
        exact h I1 h4 ⟨h5, h6⟩
  have loop1 : ∀ (f : Nat) (i : Int) (I1 : MI) (w : Option AV), r 5 - i < (f : Int) → 0 ≤ i → i ≤ r 5 → Eqo [N + 18] I I1 → (∀ j, 0 ≤ j → j < i → I1 (N + 18) (sc j) = tmI r g sc j) → V X M_X4_setTimes z0 4 [some (vr (N)), some (vi (tmI r g sc i)), some (vi (i)), w] [] (I1) L R (RT X M_X4_setTimes Q) := by
    intro f
    induction f with
    | zero => intro i I1 w h1 h2 h3; omega
    | succ f ih =>
      intro i I1 w h1 h2 h3 h4 h5
      have h4' : Eqo [N + 18, N + 19, N + 20] I I1 := h4.mo (by simp)
      have hR1 := hR.nt hN hP (by omega) (toF I1 h4')
      have e5 := hR1.1.2.2.2.2.1
      have e91 : I1 N 9 = o := by rw [h4 N (by simp)]; exact e9
      by_cases hi : i < r 5
      · have p1 := hsc.1 i h2 hi
        have p2 := hr.2.2.1 (sc i) (by omega) (by omega)
        have p3 := tmI_b hr hsc hg (i := i) ⟨h2, by omega⟩
        have eo := ho.2.1 i h2 hi
        have el := hR1.2.2.2.2.2.1 (sc i) p1.1 p1.2
        have e101 : I1 N 10 = g := by rw [h4 N (by simp)]; exact e10
        refine s_iload_n 5 dX4_setTimes_4 rfl rfl ?_
        refine s_aload_n 6 dX4_setTimes_5 rfl rfl ?_
        refine s_getR 9 dX4_setTimes_6 rfl fl_X4_49 (fun _ _ _ _ => rfl) (by assumption) (isN_sh hN) (isN_lt hN) ?_
        refine s_getI 12 dX4_setTimes_9 rfl fl_X4_74 (fun _ _ _ _ => rfl) (isP_sh (by assumption)) (isP_lt (by assumption)) (fun r_9 => ?_)
        rw [e5]
        refine s_icmp_ge 59 15 dX4_setTimes_12 rfl rfl (by first | omega | exact bI_r _ | exact iI_r _) (by first | omega | exact bI_r _ | exact iI_r _) (fun h_12 => by exfalso; omega) (fun h_12 => ?_)
        refine s_aload_n 16 dX4_setTimes_15 rfl rfl ?_
        refine s_getI 19 dX4_setTimes_16 rfl fl_X4_36 (fun _ _ _ _ => rfl) (isN_sh hN) (isN_lt hN) (fun r_16 => ?_)
        rw [e91]
        refine s_iload_n 20 dX4_setTimes_19 rfl rfl ?_
        refine s_callSN0 (M' := M_X11_sceneAt) (as := [_, _]) 23 dX4_setTimes_20 rfl cw_X4_77 rfl rfl (Nat.le_of_ble_eq_true rfl) (Nat.le_of_ble_eq_true rfl) (Nat.le_of_ble_eq_true rfl) ⟨rfl, rfl, rfl⟩ ?_
        refine c_X11_sceneAt (by omega) ?_
        rw [eo]
        refine s_istore_n (ls' := [_, _, _, _]) 24 dX4_setTimes_23 rfl (Nat.le_of_ble_eq_true rfl) rfl rfl ?_
        refine s_iload_n 25 dX4_setTimes_24 rfl rfl ?_
        refine s_iconst 26 dX4_setTimes_25 rfl ?_
        refine s_icmp_ge 53 29 dX4_setTimes_26 rfl rfl (by first | omega | exact bI_r _ | exact iI_r _) (by first | omega | exact bI_r _ | exact iI_r _) (fun h_26 => by exfalso; omega) (fun h_26 => ?_)
        refine s_aload_n 30 dX4_setTimes_29 rfl rfl ?_
        refine s_getR 33 dX4_setTimes_30 rfl fl_X4_20 (fun _ _ _ _ => rfl) (T_X4_sceneBegins hT hN) (isN_sh hN) (isN_lt hN) ?_
        refine s_iload_n 34 dX4_setTimes_33 rfl rfl ?_
        refine s_iload_n 35 dX4_setTimes_34 rfl rfl ?_
        refine s_iast 36 dX4_setTimes_35 rfl (shN_sceneBegins hN) (ltN_sceneBegins hN) (by omega) (by omega) (by first | omega | exact bI_r _ | exact iI_r _) ?_
        refine s_iload_n 37 dX4_setTimes_36 rfl rfl ?_
        refine s_aload_n 38 dX4_setTimes_37 rfl rfl ?_
        refine s_getR 41 dX4_setTimes_38 rfl fl_X4_49 (fun _ _ _ _ => rfl) (by assumption) (isN_sh hN) (isN_lt hN) ?_
        refine s_getR 44 dX4_setTimes_41 rfl fl_X4_81 (fun _ _ _ _ => rfl) (T_X5_lasts hT (by assumption)) (isP_sh (by assumption)) (isP_lt (by assumption)) ?_
        refine s_iload_n 45 dX4_setTimes_44 rfl rfl ?_
        refine s_iald 46 dX4_setTimes_45 rfl (shP_lasts (by assumption)) (ltP_lasts (by assumption)) (by omega) (by omega) (fun r_45 => ?_)
        rw [up_ne (by omega : P + 32 ≠ N + 18), el]
        refine s_aload_n 47 dX4_setTimes_46 rfl rfl ?_
        refine s_getI 50 dX4_setTimes_47 rfl fl_X4_40 (fun _ _ _ _ => rfl) (isN_sh hN) (isN_lt hN) (fun r_47 => ?_)
        rw [up_ne (by omega : N ≠ N + 18), e101]
        refine s_iadd 51 dX4_setTimes_50 rfl ?_
        refine s_iadd 52 dX4_setTimes_51 rfl ?_
        refine s_istore_n (ls' := [_, _, _, _]) 53 dX4_setTimes_52 rfl (Nat.le_of_ble_eq_true rfl) rfl rfl ?_
        refine s_iinc (ls' := [_, _, _, _]) 56 dX4_setTimes_53 rfl rfl (Nat.le_of_ble_eq_true rfl) rfl rfl ?_
        refine s_goto 4 dX4_setTimes_56 rfl ?_
        rw [← tmI_s h2]
        refine ih (i + 1) _ _ (by omega) (by omega) (by omega) (h4.st (by simp)) (fun j q1 q2 => ?_)
        rw [upd9]
        by_cases ej : j = i
        · rw [if_pos (by rw [ej]), ej]
        · rw [if_neg (fun e => ej (hsc.2.1 j i q1 (by omega) h2 (by omega) e)), h5 j q1 (by omega)]
      · have ei : i = r 5 := by omega
        subst ei
        refine s_iload_n 5 dX4_setTimes_4 rfl rfl ?_
        refine s_aload_n 6 dX4_setTimes_5 rfl rfl ?_
        refine s_getR 9 dX4_setTimes_6 rfl fl_X4_49 (fun _ _ _ _ => rfl) (by assumption) (isN_sh hN) (isN_lt hN) ?_
        refine s_getI 12 dX4_setTimes_9 rfl fl_X4_74 (fun _ _ _ _ => rfl) (isP_sh (by assumption)) (isP_lt (by assumption)) (fun r_9 => ?_)
        rw [e5]
        refine s_icmp_ge 59 15 dX4_setTimes_12 rfl rfl (by first | omega | exact bI_r _ | exact iI_r _) (by first | omega | exact bI_r _ | exact iI_r _) (fun h_12 => ?_) (fun h_12 => by exfalso; omega)
        refine s_iconst 60 dX4_setTimes_59 rfl ?_
        refine s_istore_n (ls' := [_, _, _, _]) 61 dX4_setTimes_60 rfl (Nat.le_of_ble_eq_true rfl) rfl rfl ?_
        refine loop2 16 0 _ I1 _ (by omega) (by omega) (by omega) h4' (fun s q1 q2 => ?_) (fun j q1 q2 => by omega)
        have q3 := posF_at hsc (by omega) ⟨q1, q2⟩
        rw [opF, ← h5 _ q3.1 q3.2.1, q3.2.2]
  refine s_iconst 1 dX4_setTimes_0 rfl ?_
  refine s_istore_n (ls' := [_, _, _, _]) 2 dX4_setTimes_1 rfl (Nat.le_of_ble_eq_true rfl) rfl rfl ?_
  refine s_iconst 3 dX4_setTimes_2 rfl ?_
  refine s_istore_n (ls' := [_, _, _, _]) 4 dX4_setTimes_3 rfl (Nat.le_of_ble_eq_true rfl) rfl rfl ?_
  exact loop1 7 0 I _ (by omega) (by omega) (by omega) Eqo.rf (fun j q1 q2 => by omega)
set_option maxHeartbeats 4000000 in
theorem c_X4_sortRow {E : ET} {I : MI} {L : ML} {R : MR} {Q : Option AV → MI → ML → MR → Prop} {N P : Nat} {r b : F1} (hT : Topo R) (hN : isN N) (hP : isP P) (hNP : R N 1 = some P) (hr : WFr r) (hR : PR I P r) (eb : ∀ k, 0 ≤ k → k < r 7 → I (N + 19) k = b k) (hb : ∀ k, 0 ≤ k → k < r 7 → 0 ≤ b k ∧ b k ≤ 4000) (h : ∀ I', Eqo [N + 21] I I' → (∀ i, 0 ≤ i → i < r 7 → I' (N + 21) i = srF b (r 7).toNat i) → Q none I' L R) : CT E M_X4_sortRow 161 yX4_sortRow [(vr (N))] I L R Q := by
  refine CT_of rfl rfl (fun h => by cases h) (Nat.le_of_ble_eq_true rfl) (fun X => ?_)
  show V X _ z0 0 [some (vr (N)), none, none] [] I L R _
  have hn : N = 85 ∨ N = 113 := hN
  have hp : P = 3 ∨ P = 39 := hP
  have e0 := hr.1
  have loop : ∀ (f : Nat) (k : Int) (I1 : MI) (w : Option AV), r 7 - k < (f : Int) → 0 ≤ k → k ≤ r 7 → Eqo [N + 21] I I1 → (∀ i, 0 ≤ i → i < k → I1 (N + 21) i = srF b k.toNat i) → V X M_X4_sortRow z0 2 [some (vr (N)), some (vi (k)), w] [] (I1) L R (RT X M_X4_sortRow Q) := by
    intro f
    induction f with
    | zero => intro k I1 w h1 h2 h3; omega
    | succ f ih =>
      intro k I1 w h1 h2 h3 h4 h7
      have hR1 := hR.nt hN hP (by omega) (fun c hc => h4 c (by simp; omega))
      have e7 := hR1.1.2.2.2.2.2.2.1
      by_cases hk : k < r 7
      · have rS := (srF_in b k.toNat).1
        have hK : ((k.toNat : Nat) : Int) = k := by omega
        have exit3 : ∀ (i : Int) (I3 : MI), 0 ≤ i → i ≤ k → Eqo [N + 21] I I3 → ipF b (I1 (N + 21)) k k.toNat = i.toNat →
            (∀ j, 0 ≤ j → j ≤ k → j ≠ i → I3 (N + 21) j = if i < j then I1 (N + 21) (j - 1) else I1 (N + 21) j) → V X M_X4_sortRow z0 61 [some (vr (N)), some (vi (k)), some (vi (i))] [] (I3) L R (RT X M_X4_sortRow Q) := by
          intro i I3 k2 k3 k4 k5 k6
          refine s_aload_n 62 dX4_sortRow_61 rfl rfl ?_
          refine s_getR 65 dX4_sortRow_62 rfl fl_X4_29 (fun _ _ _ _ => rfl) (T_X4_row hT hN) (isN_sh hN) (isN_lt hN) ?_
          refine s_iload_n 66 dX4_sortRow_65 rfl rfl ?_
          refine s_iload_n 67 dX4_sortRow_66 rfl rfl ?_
          refine s_iast 68 dX4_sortRow_67 rfl (shN_row hN) (ltN_row hN) (by omega) (by omega) (by first | omega | exact bI_r _ | exact iI_r _) ?_
          refine s_iinc (ls' := [_, _, _]) 71 dX4_sortRow_68 rfl rfl (Nat.le_of_ble_eq_true rfl) rfl rfl ?_
          refine s_goto 2 dX4_sortRow_71 rfl ?_
          refine ih (k + 1) _ _ (by omega) (by omega) (by omega) (k4.st (by simp)) (fun j q1 q2 => ?_)
          rw [show (k + 1).toNat = k.toNat + 1 by omega]
          show _ = inF b (srF b k.toNat) (k.toNat : Int) k.toNat j
          rw [hK, ← inF_c (a := I1 (N + 21)) (fun j q1 q2 => h7 j q1 (by omega)) (by omega)]
          unfold inF
          rw [k5, upd9]
          by_cases ej : j = i
          · rw [if_pos ej, if_neg (by omega), if_pos (by omega)]
          · rw [if_neg ej, k6 j q1 (by omega) ej]
            by_cases e2 : i < j
            · rw [if_pos e2, if_neg (by omega), if_neg (by omega), if_pos (by omega)]
            · rw [if_neg e2, if_pos (by omega)]
        have loop3 : ∀ (f : Nat) (i : Int) (I3 : MI), i < (f : Int) → 0 ≤ i → i ≤ k → Eqo [N + 21] I I3 → ipF b (I1 (N + 21)) k k.toNat = ipF b (I1 (N + 21)) k i.toNat →
            (∀ j, 0 ≤ j → j ≤ k → j ≠ i → I3 (N + 21) j = if i < j then I1 (N + 21) (j - 1) else I1 (N + 21) j) → V X M_X4_sortRow z0 15 [some (vr (N)), some (vi (k)), some (vi (i))] [] (I3) L R (RT X M_X4_sortRow Q) := by
          intro f
          induction f with
          | zero => intro i I3 k1 k2; omega
          | succ f ih3 =>
            intro i I3 k1 k2 k3 k4 k5 k6
            by_cases hi : i = 0
            · subst hi
              refine s_iload_n 16 dX4_sortRow_15 rfl rfl ?_
              refine s_if_le 61 19 dX4_sortRow_16 rfl rfl (by first | omega | exact bI_r _ | exact iI_r _) (fun h_16 => ?_) (fun h_16 => by exfalso; omega)
              exact exit3 0 I3 k2 k3 k4 k5 k6
            · have j1 := k6 (i - 1) (by omega) (by omega) (by omega)
              rw [if_neg (by omega)] at j1
              have j2 := rS (i - 1) (by omega) (by omega)
              rw [← h7 (i - 1) (by omega) (by omega)] at j2
              have j3 : I3 (N + 19) = I (N + 19) := k4 (N + 19) (by simp)
              have j4 := eb (I1 (N + 21) (i - 1)) (by omega) (by omega)
              have j5 := eb k h2 hk
              have j6 := hb (I1 (N + 21) (i - 1)) (by omega) (by omega)
              have j7 := hb k h2 hk
              have ip : ipF b (I1 (N + 21)) k i.toNat = if b (I1 (N + 21) (i - 1)) > b k then ipF b (I1 (N + 21)) k (i - 1).toNat else i.toNat := by
                rw [show i.toNat = (i - 1).toNat + 1 by omega]
                show (if b (I1 (N + 21) (((i - 1).toNat : Nat) : Int)) > _ then _ else _) = _
                rw [show (((i - 1).toNat : Nat) : Int) = i - 1 by omega]
              refine s_iload_n 16 dX4_sortRow_15 rfl rfl ?_
              refine s_if_le 61 19 dX4_sortRow_16 rfl rfl (by first | omega | exact bI_r _ | exact iI_r _) (fun h_16 => by exfalso; omega) (fun h_16 => ?_)
              refine s_aload_n 20 dX4_sortRow_19 rfl rfl ?_
              refine s_getR 23 dX4_sortRow_20 rfl fl_X4_23 (fun _ _ _ _ => rfl) (T_X4_onBegins hT hN) (isN_sh hN) (isN_lt hN) ?_
              refine s_aload_n 24 dX4_sortRow_23 rfl rfl ?_
              refine s_getR 27 dX4_sortRow_24 rfl fl_X4_29 (fun _ _ _ _ => rfl) (T_X4_row hT hN) (isN_sh hN) (isN_lt hN) ?_
              refine s_iload_n 28 dX4_sortRow_27 rfl rfl ?_
              refine s_iconst 29 dX4_sortRow_28 rfl ?_
              refine s_isub 30 dX4_sortRow_29 rfl ?_
              refine s_iald 31 dX4_sortRow_30 rfl (shN_row hN) (ltN_row hN) (by omega) (by omega) (fun r_30 => ?_)
              rw [j1]
              refine s_iald 32 dX4_sortRow_31 rfl (shN_onBegins hN) (ltN_onBegins hN) (by omega) (by omega) (fun r_31 => ?_)
              rw [j3, j4]
              refine s_aload_n 33 dX4_sortRow_32 rfl rfl ?_
              refine s_getR 36 dX4_sortRow_33 rfl fl_X4_23 (fun _ _ _ _ => rfl) (T_X4_onBegins hT hN) (isN_sh hN) (isN_lt hN) ?_
              refine s_iload_n 37 dX4_sortRow_36 rfl rfl ?_
              refine s_iald 38 dX4_sortRow_37 rfl (shN_onBegins hN) (ltN_onBegins hN) (by omega) (by omega) (fun r_37 => ?_)
              rw [j3, j5]
              refine s_icmp_le 61 41 dX4_sortRow_38 rfl rfl (by first | omega | exact bI_r _ | exact iI_r _) (by first | omega | exact bI_r _ | exact iI_r _) (fun h_38 => ?_) (fun h_38 => ?_)
              · skip
                rw [ip, if_neg (by omega)] at k5
                exact exit3 i I3 k2 k3 k4 k5 k6
              refine s_aload_n 42 dX4_sortRow_41 rfl rfl ?_
              refine s_getR 45 dX4_sortRow_42 rfl fl_X4_29 (fun _ _ _ _ => rfl) (T_X4_row hT hN) (isN_sh hN) (isN_lt hN) ?_
              refine s_iload_n 46 dX4_sortRow_45 rfl rfl ?_
              refine s_aload_n 47 dX4_sortRow_46 rfl rfl ?_
              refine s_getR 50 dX4_sortRow_47 rfl fl_X4_29 (fun _ _ _ _ => rfl) (T_X4_row hT hN) (isN_sh hN) (isN_lt hN) ?_
              refine s_iload_n 51 dX4_sortRow_50 rfl rfl ?_
              refine s_iconst 52 dX4_sortRow_51 rfl ?_
              refine s_isub 53 dX4_sortRow_52 rfl ?_
              refine s_iald 54 dX4_sortRow_53 rfl (shN_row hN) (ltN_row hN) (by omega) (by omega) (fun r_53 => ?_)
              rw [j1]
              refine s_iast 55 dX4_sortRow_54 rfl (shN_row hN) (ltN_row hN) (by omega) (by omega) (by first | omega | exact bI_r _ | exact iI_r _) ?_
              refine s_iinc (ls' := [_, _, _]) 58 dX4_sortRow_55 rfl rfl (Nat.le_of_ble_eq_true rfl) rfl rfl ?_
              refine s_goto 15 dX4_sortRow_58 rfl ?_
              rw [ip, if_pos (by omega)] at k5
              refine ih3 (i - 1) _ (by omega) (by omega) (by omega) (k4.st (by simp)) k5 (fun j q1 q2 q3 => ?_)
              rw [upd9]
              by_cases ej : j = i
              · rw [if_pos ej, if_pos (by omega), ej]
              · rw [if_neg ej, k6 j q1 q2 ej]
                by_cases e2 : i < j
                · rw [if_pos e2, if_pos (by omega)]
                · rw [if_neg e2, if_neg (by omega)]
        refine s_iload_n 3 dX4_sortRow_2 rfl rfl ?_
        refine s_aload_n 4 dX4_sortRow_3 rfl rfl ?_
        refine s_getR 7 dX4_sortRow_4 rfl fl_X4_49 (fun _ _ _ _ => rfl) (by assumption) (isN_sh hN) (isN_lt hN) ?_
        refine s_getI 10 dX4_sortRow_7 rfl fl_X4_53 (fun _ _ _ _ => rfl) (isP_sh (by assumption)) (isP_lt (by assumption)) (fun r_7 => ?_)
        rw [e7]
        refine s_icmp_ge 74 13 dX4_sortRow_10 rfl rfl (by first | omega | exact bI_r _ | exact iI_r _) (by first | omega | exact bI_r _ | exact iI_r _) (fun h_10 => by exfalso; omega) (fun h_10 => ?_)
        refine s_iload_n 14 dX4_sortRow_13 rfl rfl ?_
        refine s_istore_n (ls' := [_, _, _]) 15 dX4_sortRow_14 rfl (Nat.le_of_ble_eq_true rfl) rfl rfl ?_
        refine loop3 (k + 1).toNat k I1 (by omega) h2 (Int.le_refl _) h4 rfl (fun j q1 q2 q3 => ?_)
        rw [if_neg (by omega)]
      · have ek : k = r 7 := by omega
        subst ek
        refine s_iload_n 3 dX4_sortRow_2 rfl rfl ?_
        refine s_aload_n 4 dX4_sortRow_3 rfl rfl ?_
        refine s_getR 7 dX4_sortRow_4 rfl fl_X4_49 (fun _ _ _ _ => rfl) (by assumption) (isN_sh hN) (isN_lt hN) ?_
        refine s_getI 10 dX4_sortRow_7 rfl fl_X4_53 (fun _ _ _ _ => rfl) (isP_sh (by assumption)) (isP_lt (by assumption)) (fun r_7 => ?_)
        rw [e7]
        refine s_icmp_ge 74 13 dX4_sortRow_10 rfl rfl (by first | omega | exact bI_r _ | exact iI_r _) (by first | omega | exact bI_r _ | exact iI_r _) (fun h_10 => ?_) (fun h_10 => by exfalso; omega)
        refine s_vret dX4_sortRow_74 rfl rfl ?_
        exact h I1 h4 h7
  refine s_iconst 1 dX4_sortRow_0 rfl ?_
  refine s_istore_n (ls' := [_, _, _]) 2 dX4_sortRow_1 rfl (Nat.le_of_ble_eq_true rfl) rfl rfl ?_
  exact loop 16 0 I _ (by omega) (by omega) (by omega) Eqo.rf (fun i q1 q2 => by omega)
set_option maxHeartbeats 4000000 in
theorem c_X4_doMeet {E : ET} {I : MI} {L : ML} {R : MR} {Q : Option AV → MI → ML → MR → Prop} {N : Nat} {r b c : F1} {k l : Int} (hT : Topo R) (hN : isN N) (hr : WFr r) (eb : ∀ k, 0 ≤ k → k < r 7 → I (N + 19) k = b k ∧ I (N + 20) k = c k) (hb : ∀ k, 0 ≤ k → k < r 7 → 0 ≤ b k ∧ b k ≤ 4000 ∧ 0 ≤ c k ∧ c k ≤ 4000) (hk : 0 ≤ k ∧ k < r 7) (hl : 0 ≤ l ∧ l < r 7) (h : Q (some (vi (bI (meetP b c k l)))) I L R) : CT E M_X4_doMeet 161 yX4_doMeet [(vr (N)), (vi (k)), (vi (l))] I L R Q := by
  refine CT_of rfl rfl (fun h => by cases h) (Nat.le_of_ble_eq_true rfl) (fun X => ?_)
  show V X _ z0 0 [some (vr (N)), some (vi (k)), some (vi (l))] [] I L R _
  have e0 := hr.1
  have a1 := eb k hk.1 hk.2
  have a2 := eb l hl.1 hl.2
  have b1 := hb k hk.1 hk.2
  have b2 := hb l hl.1 hl.2
  unfold meetP at h
  refine s_aload_n 1 dX4_doMeet_0 rfl rfl ?_
  refine s_getR 4 dX4_doMeet_1 rfl fl_X4_23 (fun _ _ _ _ => rfl) (T_X4_onBegins hT hN) (isN_sh hN) (isN_lt hN) ?_
  refine s_iload_n 5 dX4_doMeet_4 rfl rfl ?_
  refine s_iald 6 dX4_doMeet_5 rfl (shN_onBegins hN) (ltN_onBegins hN) (by omega) (by omega) (fun r_5 => ?_)
  rw [a1.1]
  refine s_aload_n 7 dX4_doMeet_6 rfl rfl ?_
  refine s_getR 10 dX4_doMeet_7 rfl fl_X4_26 (fun _ _ _ _ => rfl) (T_X4_onEnds hT hN) (isN_sh hN) (isN_lt hN) ?_
  refine s_iload_n 11 dX4_doMeet_10 rfl rfl ?_
  refine s_iald 12 dX4_doMeet_11 rfl (shN_onEnds hN) (ltN_onEnds hN) (by omega) (by omega) (fun r_11 => ?_)
  rw [a2.2]
  refine s_icmp_ge 34 15 dX4_doMeet_12 rfl rfl (by first | omega | exact bI_r _ | exact iI_r _) (by first | omega | exact bI_r _ | exact iI_r _) (fun h_12 => ?_) (fun h_12 => ?_)
  · skip
    refine s_iconst 35 dX4_doMeet_34 rfl ?_
    refine s_zret dX4_doMeet_35 rfl (by first | omega | exact bI_b _) rfl ?_
    first | exact ret_t (by omega) h | exact ret_f (by omega) h
  refine s_aload_n 16 dX4_doMeet_15 rfl rfl ?_
  refine s_getR 19 dX4_doMeet_16 rfl fl_X4_23 (fun _ _ _ _ => rfl) (T_X4_onBegins hT hN) (isN_sh hN) (isN_lt hN) ?_
  refine s_iload_n 20 dX4_doMeet_19 rfl rfl ?_
  refine s_iald 21 dX4_doMeet_20 rfl (shN_onBegins hN) (ltN_onBegins hN) (by omega) (by omega) (fun r_20 => ?_)
  rw [a2.1]
  refine s_aload_n 22 dX4_doMeet_21 rfl rfl ?_
  refine s_getR 25 dX4_doMeet_22 rfl fl_X4_26 (fun _ _ _ _ => rfl) (T_X4_onEnds hT hN) (isN_sh hN) (isN_lt hN) ?_
  refine s_iload_n 26 dX4_doMeet_25 rfl rfl ?_
  refine s_iald 27 dX4_doMeet_26 rfl (shN_onEnds hN) (ltN_onEnds hN) (by omega) (by omega) (fun r_26 => ?_)
  rw [a1.2]
  refine s_icmp_ge 34 30 dX4_doMeet_27 rfl rfl (by first | omega | exact bI_r _ | exact iI_r _) (by first | omega | exact bI_r _ | exact iI_r _) (fun h_27 => ?_) (fun h_27 => ?_)
  · skip
    refine s_iconst 35 dX4_doMeet_34 rfl ?_
    refine s_zret dX4_doMeet_35 rfl (by first | omega | exact bI_b _) rfl ?_
    first | exact ret_t (by omega) h | exact ret_f (by omega) h
  refine s_iconst 31 dX4_doMeet_30 rfl ?_
  refine s_goto 35 dX4_doMeet_31 rfl ?_
  refine s_zret dX4_doMeet_35 rfl (by first | omega | exact bI_b _) rfl ?_
  first | exact ret_t (by omega) h | exact ret_f (by omega) h
set_option maxHeartbeats 4000000 in
theorem c_X4_findMeetings {E : ET} {I : MI} {L : ML} {R : MR} {Q : Option AV → MI → ML → MR → Prop} {N P : Nat} {r b c : F1} (hT : Topo R) (hN : isN N) (hP : isP P) (hNP : R N 1 = some P) (hr : WFr r) (hR : PR I P r) (eb : ∀ k, 0 ≤ k → k < r 7 → I (N + 19) k = b k ∧ I (N + 20) k = c k) (hb : ∀ k, 0 ≤ k → k < r 7 → 0 ≤ b k ∧ b k ≤ 4000 ∧ 0 ≤ c k ∧ c k ≤ 4000) (h : ∀ I', Eqo [N + 17] I I' → (∀ k, 0 ≤ k → k < r 7 → I' (N + 17) k = setOf (fun l => l ≠ k ∧ meetP b c k l) (r 7).toNat) → Q none I' L R) : CT E M_X4_findMeetings 161 yX4_findMeetings [(vr (N))] I L R Q := by
  refine CT_of rfl rfl (fun h => by cases h) (Nat.le_of_ble_eq_true rfl) (fun X => ?_)
  show V X _ z0 0 [some (vr (N)), none, none] [] I L R _
  have hn : N = 85 ∨ N = 113 := hN
  have hp : P = 3 ∨ P = 39 := hP
  have e0 := hr.1
  -- pairs below (a, l): both of them lower than a, or one a and the other lower than l
  have outer : ∀ (f : Nat) (a : Int) (I1 : MI) (w : Option AV), r 7 - a < (f : Int) → 0 ≤ a → a ≤ r 7 → Eqo [N + 17] I I1 → (∀ k, 0 ≤ k → k < r 7 → ∀ j, 0 ≤ j → j < 32 → (hasI (I1 (N + 17) k) j ↔ j < r 7 ∧ j ≠ k ∧ k < a ∧ j < a ∧ meetP b c k j)) → V X M_X4_findMeetings z0 10 [some (vr (N)), some (vi (a)), w] [] (I1) L R (RT X M_X4_findMeetings Q) := by
    intro f
    induction f with
    | zero => intro a I1 w h1 h2 h3; omega
    | succ f ih =>
      intro a I1 w h1 h2 h3 h4 h5
      have hR1 := hR.nt hN hP (by omega) (fun c hc => h4 c (by simp; omega))
      have e7 := hR1.1.2.2.2.2.2.2.1
      by_cases ha : a < r 7
      · have inner : ∀ (f : Nat) (l : Int) (I2 : MI), a - l < (f : Int) → 0 ≤ l → l ≤ a → Eqo [N + 17] I I2 → (∀ k, 0 ≤ k → k < r 7 → ∀ j, 0 ≤ j → j < 32 → (hasI (I2 (N + 17) k) j ↔ j < r 7 ∧ j ≠ k ∧ ((k < a ∧ j < a) ∨ (k = a ∧ j < l) ∨ (j = a ∧ k < l)) ∧ meetP b c k j)) → V X M_X4_findMeetings z0 23 [some (vr (N)), some (vi (a)), some (vi (l))] [] (I2) L R (RT X M_X4_findMeetings Q) := by
          intro f
          induction f with
          | zero => intro l I2 g1 g2 g3; omega
          | succ f ih2 =>
            intro l I2 g1 g2 g3 g4 g5
            have eb2 : ∀ k, 0 ≤ k → k < r 7 → I2 (N + 19) k = b k ∧ I2 (N + 20) k = c k := fun k k1 k2 => by rw [g4 (N + 19) (by simp), g4 (N + 20) (by simp)]; exact eb k k1 k2
            by_cases hl : l < a
            · by_cases hm : meetP b c a l
              · have hm2 : meetP b c l a := ⟨hm.2, hm.1⟩
                have nx : V X M_X4_findMeetings z0 23 [some (vr N), some (vi a), some (vi (l + 1))] [] (up (up I2 (N + 17) a (ior (I2 (N + 17) a) (ishl 1 l))) (N + 17) l (ior (I2 (N + 17) l) (ishl 1 a))) L R (RT X M_X4_findMeetings Q) := by
                  refine ih2 (l + 1) _ (by omega) (by omega) (by omega) ((g4.st (by simp)).st (by simp)) (fun k k1 k2 j j1 j2 => ?_)
                  rw [upd9, upd9]
                  by_cases kl : k = l
                  · subst kl
                    rw [if_pos rfl, has_or ⟨j1, j2⟩, g5 k k1 k2 j j1 j2, has_shl (by omega) ⟨j1, j2⟩]
                    constructor
                    · rintro (⟨z1, z2, z3, z4⟩ | z)
                      · exact ⟨z1, z2, by omega, z4⟩
                      · subst z; exact ⟨ha, by omega, by omega, hm2⟩
                    · rintro ⟨z1, z2, z3, z4⟩
                      by_cases y : j = a
                      · exact Or.inr y
                      · exact Or.inl ⟨z1, z2, by omega, z4⟩
                  · rw [if_neg kl]
                    by_cases ka : k = a
                    · subst ka
                      rw [if_pos rfl, has_or ⟨j1, j2⟩, g5 k k1 k2 j j1 j2, has_shl (by omega) ⟨j1, j2⟩]
                      constructor
                      · rintro (⟨z1, z2, z3, z4⟩ | z)
                        · exact ⟨z1, z2, by omega, z4⟩
                        · subst z; exact ⟨by omega, by omega, by omega, hm⟩
                      · rintro ⟨z1, z2, z3, z4⟩
                        by_cases y : j = l
                        · exact Or.inr y
                        · exact Or.inl ⟨z1, z2, by omega, z4⟩
                    · rw [if_neg ka, g5 k k1 k2 j j1 j2]
                      constructor
                      · rintro ⟨z1, z2, z3, z4⟩
                        exact ⟨z1, z2, by omega, z4⟩
                      · rintro ⟨z1, z2, z3, z4⟩
                        exact ⟨z1, z2, by omega, z4⟩
                refine s_iload_n 24 dX4_findMeetings_23 rfl rfl ?_
                refine s_iload_n 25 dX4_findMeetings_24 rfl rfl ?_
                refine s_icmp_ge 67 28 dX4_findMeetings_25 rfl rfl (by first | omega | exact bI_r _ | exact iI_r _) (by first | omega | exact bI_r _ | exact iI_r _) (fun h_25 => by exfalso; omega) (fun h_25 => ?_)
                refine s_aload_n 29 dX4_findMeetings_28 rfl rfl ?_
                refine s_iload_n 30 dX4_findMeetings_29 rfl rfl ?_
                refine s_iload_n 31 dX4_findMeetings_30 rfl rfl ?_
                refine s_callV0 (M' := M_X4_doMeet) (as := [_, _]) 34 dX4_findMeetings_31 rfl cw_X4_93 rfl rfl (isN_sh hN) rfl (by decide) (isN_lt hN) (Nat.le_of_ble_eq_true rfl) (Nat.le_of_ble_eq_true rfl) (Nat.le_of_ble_eq_true rfl) ⟨rfl, rfl, rfl⟩ ?_
                refine c_X4_doMeet hT hN hr eb2 hb ⟨h2, ha⟩ ⟨g2, by omega⟩ ?_
                refine s_ifb_eq 61 37 dX4_findMeetings_34 rfl rfl (fun h_34 => by exfalso; exact h_34 hm) (fun h_34 => ?_)
                refine s_aload_n 38 dX4_findMeetings_37 rfl rfl ?_
                refine s_getR 41 dX4_findMeetings_38 rfl fl_X4_16 (fun _ _ _ _ => rfl) (T_X4_meetings hT hN) (isN_sh hN) (isN_lt hN) ?_
                refine s_iload_n 42 dX4_findMeetings_41 rfl rfl ?_
                refine s_dup2 43 dX4_findMeetings_42 rfl rfl rfl ?_
                refine s_iald 44 dX4_findMeetings_43 rfl (shN_meetings hN) (ltN_meetings hN) (by omega) (by omega) (fun r_43 => ?_)
                refine s_iconst 45 dX4_findMeetings_44 rfl ?_
                refine s_iload_n 46 dX4_findMeetings_45 rfl rfl ?_
                refine s_ishl 47 dX4_findMeetings_46 rfl ?_
                refine s_ior 48 dX4_findMeetings_47 rfl ?_
                refine s_iast 49 dX4_findMeetings_48 rfl (shN_meetings hN) (ltN_meetings hN) (by omega) (by omega) (ior_r _ _) ?_
                refine s_aload_n 50 dX4_findMeetings_49 rfl rfl ?_
                refine s_getR 53 dX4_findMeetings_50 rfl fl_X4_16 (fun _ _ _ _ => rfl) (T_X4_meetings hT hN) (isN_sh hN) (isN_lt hN) ?_
                refine s_iload_n 54 dX4_findMeetings_53 rfl rfl ?_
                refine s_dup2 55 dX4_findMeetings_54 rfl rfl rfl ?_
                refine s_iald 56 dX4_findMeetings_55 rfl (shN_meetings hN) (ltN_meetings hN) (by omega) (by omega) (fun r_55 => ?_)
                rw [upn (by omega : l ≠ a)]
                refine s_iconst 57 dX4_findMeetings_56 rfl ?_
                refine s_iload_n 58 dX4_findMeetings_57 rfl rfl ?_
                refine s_ishl 59 dX4_findMeetings_58 rfl ?_
                refine s_ior 60 dX4_findMeetings_59 rfl ?_
                refine s_iast 61 dX4_findMeetings_60 rfl (shN_meetings hN) (ltN_meetings hN) (by omega) (by omega) (ior_r _ _) ?_
                refine s_iinc (ls' := [_, _, _]) 64 dX4_findMeetings_61 rfl rfl (Nat.le_of_ble_eq_true rfl) rfl rfl ?_
                refine s_goto 23 dX4_findMeetings_64 rfl ?_
                exact nx
              · skip
                refine s_iload_n 24 dX4_findMeetings_23 rfl rfl ?_
                refine s_iload_n 25 dX4_findMeetings_24 rfl rfl ?_
                refine s_icmp_ge 67 28 dX4_findMeetings_25 rfl rfl (by first | omega | exact bI_r _ | exact iI_r _) (by first | omega | exact bI_r _ | exact iI_r _) (fun h_25 => by exfalso; omega) (fun h_25 => ?_)
                refine s_aload_n 29 dX4_findMeetings_28 rfl rfl ?_
                refine s_iload_n 30 dX4_findMeetings_29 rfl rfl ?_
                refine s_iload_n 31 dX4_findMeetings_30 rfl rfl ?_
                refine s_callV0 (M' := M_X4_doMeet) (as := [_, _]) 34 dX4_findMeetings_31 rfl cw_X4_93 rfl rfl (isN_sh hN) rfl (by decide) (isN_lt hN) (Nat.le_of_ble_eq_true rfl) (Nat.le_of_ble_eq_true rfl) (Nat.le_of_ble_eq_true rfl) ⟨rfl, rfl, rfl⟩ ?_
                refine c_X4_doMeet hT hN hr eb2 hb ⟨h2, ha⟩ ⟨g2, by omega⟩ ?_
                refine s_ifb_eq 61 37 dX4_findMeetings_34 rfl rfl (fun h_34 => ?_) (fun h_34 => by exfalso; exact hm h_34)
                refine s_iinc (ls' := [_, _, _]) 64 dX4_findMeetings_61 rfl rfl (Nat.le_of_ble_eq_true rfl) rfl rfl ?_
                refine s_goto 23 dX4_findMeetings_64 rfl ?_
                refine ih2 (l + 1) I2 (by omega) (by omega) (by omega) g4 (fun k k1 k2 j j1 j2 => ?_)
                rw [g5 k k1 k2 j j1 j2]
                constructor
                · rintro ⟨z1, z2, z3, z4⟩
                  exact ⟨z1, z2, by omega, z4⟩
                · rintro ⟨z1, z2, z3, z4⟩
                  refine ⟨z1, z2, ?_, z4⟩
                  by_cases y : (k = a ∧ j = l) ∨ (j = a ∧ k = l)
                  · rcases y with ⟨y1, y2⟩ | ⟨y1, y2⟩
                    · rw [y1, y2] at z4; exact absurd z4 hm
                    · rw [y1, y2] at z4; exact absurd ⟨z4.2, z4.1⟩ hm
                  · omega
            · have el : l = a := by omega
              subst el
              refine s_iload_n 24 dX4_findMeetings_23 rfl rfl ?_
              refine s_iload_n 25 dX4_findMeetings_24 rfl rfl ?_
              refine s_icmp_ge 67 28 dX4_findMeetings_25 rfl rfl (by first | omega | exact bI_r _ | exact iI_r _) (by first | omega | exact bI_r _ | exact iI_r _) (fun h_25 => ?_) (fun h_25 => by exfalso; omega)
              refine s_iinc (ls' := [_, _, _]) 70 dX4_findMeetings_67 rfl rfl (Nat.le_of_ble_eq_true rfl) rfl rfl ?_
              refine s_goto 10 dX4_findMeetings_70 rfl ?_
              refine ih (l + 1) I2 _ (by omega) (by omega) (by omega) g4 (fun k k1 k2 j j1 j2 => ?_)
              rw [g5 k k1 k2 j j1 j2]
              constructor
              · rintro ⟨z1, z2, z3, z4⟩
                exact ⟨z1, z2, by omega, by omega, z4⟩
              · rintro ⟨z1, z2, z3, z5, z4⟩
                exact ⟨z1, z2, by omega, z4⟩
        refine s_iload_n 11 dX4_findMeetings_10 rfl rfl ?_
        refine s_aload_n 12 dX4_findMeetings_11 rfl rfl ?_
        refine s_getR 15 dX4_findMeetings_12 rfl fl_X4_49 (fun _ _ _ _ => rfl) (by assumption) (isN_sh hN) (isN_lt hN) ?_
        refine s_getI 18 dX4_findMeetings_15 rfl fl_X4_53 (fun _ _ _ _ => rfl) (isP_sh (by assumption)) (isP_lt (by assumption)) (fun r_15 => ?_)
        rw [e7]
        refine s_icmp_ge 73 21 dX4_findMeetings_18 rfl rfl (by first | omega | exact bI_r _ | exact iI_r _) (by first | omega | exact bI_r _ | exact iI_r _) (fun h_18 => by exfalso; omega) (fun h_18 => ?_)
        refine s_iconst 22 dX4_findMeetings_21 rfl ?_
        refine s_istore_n (ls' := [_, _, _]) 23 dX4_findMeetings_22 rfl (Nat.le_of_ble_eq_true rfl) rfl rfl ?_
        refine inner 16 0 I1 (by omega) (by omega) (by omega) h4 (fun k k1 k2 j j1 j2 => ?_)
        rw [h5 k k1 k2 j j1 j2]
        constructor
        · rintro ⟨z1, z2, z3, z5, z4⟩
          exact ⟨z1, z2, by omega, z4⟩
        · rintro ⟨z1, z2, z3, z4⟩
          exact ⟨z1, z2, by omega, by omega, z4⟩
      · have ea : a = r 7 := by omega
        subst ea
        have fin : ∀ k, 0 ≤ k → k < r 7 → (-2147483648 ≤ I1 (N + 17) k ∧ I1 (N + 17) k ≤ 2147483647) → I1 (N + 17) k = setOf (fun l => l ≠ k ∧ meetP b c k l) (r 7).toNat := fun k k1 k2 hrg => set_ext hrg (setOf_r _ _) (fun j j1 j2 => by
          rw [h5 k k1 k2 j j1 j2, has_setOf (by omega) ⟨j1, j2⟩, show ((r 7).toNat : Int) = r 7 by omega]
          exact ⟨fun z => ⟨z.1, z.2.1, z.2.2.2.2⟩, fun z => ⟨z.1, z.2.1, k2, z.1, z.2.2⟩⟩)
        refine V_rg (fun hrg => ?_)
        refine s_iload_n 11 dX4_findMeetings_10 rfl rfl ?_
        refine s_aload_n 12 dX4_findMeetings_11 rfl rfl ?_
        refine s_getR 15 dX4_findMeetings_12 rfl fl_X4_49 (fun _ _ _ _ => rfl) (by assumption) (isN_sh hN) (isN_lt hN) ?_
        refine s_getI 18 dX4_findMeetings_15 rfl fl_X4_53 (fun _ _ _ _ => rfl) (isP_sh (by assumption)) (isP_lt (by assumption)) (fun r_15 => ?_)
        rw [e7]
        refine s_icmp_ge 73 21 dX4_findMeetings_18 rfl rfl (by first | omega | exact bI_r _ | exact iI_r _) (by first | omega | exact bI_r _ | exact iI_r _) (fun h_18 => ?_) (fun h_18 => by exfalso; omega)
        refine s_vret dX4_findMeetings_73 rfl rfl ?_
        exact h I1 h4 (fun k k1 k2 => fin k k1 k2 (hrg _ _))
  refine s_aload_n 1 dX4_findMeetings_0 rfl rfl ?_
  refine s_getR 4 dX4_findMeetings_1 rfl fl_X4_16 (fun _ _ _ _ => rfl) (T_X4_meetings hT hN) (isN_sh hN) (isN_lt hN) ?_
  refine s_iconst 5 dX4_findMeetings_4 rfl ?_
  refine s_callS0 (M' := M_J7_fill_53178) (as := [_, _]) 8 dX4_findMeetings_5 rfl cw_X4_87 rfl rfl (Nat.le_of_ble_eq_true rfl) (Nat.le_of_ble_eq_true rfl) (Nat.le_of_ble_eq_true rfl) ⟨rfl, rfl, rfl⟩ ?_
  refine c_fill (shN_meetings hN) (ltN_meetings hN) (by decide) (by decide) ?_
  refine s_iconst 9 dX4_findMeetings_8 rfl ?_
  refine s_istore_n (ls' := [_, _, _]) 10 dX4_findMeetings_9 rfl (Nat.le_of_ble_eq_true rfl) rfl rfl ?_
  refine outer 16 0 _ _ (by omega) (by omega) (by omega) (fun c hc => flI_n (by simpa using hc)) (fun k k1 k2 j j1 j2 => ?_)
  rw [flI_k, if_pos ⟨k1, show k < ((14 : Nat) : Int) by omega⟩]
  exact ⟨fun z => absurd z (has_0 ⟨j1, j2⟩), fun z => by omega⟩
