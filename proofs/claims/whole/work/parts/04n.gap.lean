/-! the least gap, by the reference -/
def rG (r : F1) (g : Int) : F1 := fun k => if k = 2 then g else r k
theorem rG_n {r : F1} {g k : Int} (h : k ≠ 2) : rG r g k = r k := if_neg h
theorem rG_2 {r : F1} {g : Int} : rG r g 2 = g := if_pos rfl
theorem rG_W {r : F1} {g : Int} (hr : WFr r) (hg : 0 ≤ g ∧ g ≤ 99) : WFr (rG r g) := by
  obtain ⟨a, b, c, d, e, f⟩ := hr
  refine ⟨?_, fun p h1 h2 => ?_, fun s h1 h2 => ?_, fun k h1 h2 => ?_, fun w h1 h2 => ?_, fun s h1 h2 q h3 h4 => ?_⟩
  · rw [rG_n (k := 4) (by omega), rG_n (k := 5) (by omega), rG_n (k := 6) (by omega), rG_n (k := 7) (by omega), rG_n (k := 8) (by omega), rG_n (k := 1) (by omega), rG_n (k := 3) (by omega), rG_2]
    omega
  · rw [rG_n (k := 9 + p) (by omega), rG_n (k := 16 + p) (by omega), rG_n (k := 23 + p) (by omega), rG_n (k := 30 + p) (by omega), rG_n (k := 37 + p) (by omega)]
    exact b p h1 h2
  · rw [rG_n (k := 44 + s) (by omega), rG_n (k := 49 + s) (by omega)]
    exact c s h1 h2
  · rw [rG_n (k := 7) (by omega)] at h2
    have := d k h1 h2
    rw [rG_n (k := 54 + 7 * k + 0) (by omega), rG_n (k := 54 + 7 * k + 1) (by omega), rG_n (k := 54 + 7 * k + 2) (by omega), rG_n (k := 54 + 7 * k + 3) (by omega), rG_n (k := 54 + 7 * k + 4) (by omega), rG_n (k := 54 + 7 * k + 5) (by omega), rG_n (k := 54 + 7 * k + 6) (by omega), rG_n (k := 4) (by omega), rG_n (k := 5) (by omega), rG_n (k := 44 + r (54 + 7 * k + 1)) (by omega)]
    exact this
  · rw [rG_n (k := 8) (by omega)] at h2
    rw [rG_n (k := 152 + 3 * w + 0) (by omega), rG_n (k := 152 + 3 * w + 1) (by omega), rG_n (k := 152 + 3 * w + 2) (by omega), rG_n (k := 4) (by omega)]
    exact e w h1 h2
  · rw [rG_n (k := 5) (by omega)] at h2 ⊢
    rw [rG_n (k := 49 + s) (by omega)]
    exact f s h1 h2 q h3 h4
def GapV (r s : F1) (v : Int) : Prop := (v = -2 ∧ ∀ g, 0 ≤ g → g < 100 → ¬ TP (rG r g) (-1) g s (s 12)) ∨ (0 ≤ v ∧ v < 100 ∧ TP (rG r v) (-1) v s (s 12) ∧ ∀ g, 0 ≤ g → g < v → ¬ TP (rG r g) (-1) g s (s 12))
theorem GapV.uq {r s : F1} {v w : Int} (h : GapV r s v) (h' : GapV r s w) : v = w := by
  rcases h with ⟨a, b⟩ | ⟨a, b, c, d⟩ <;> rcases h' with ⟨a', b'⟩ | ⟨a', b', c', d'⟩
  · omega
  · exact absurd c' (b _ a' b')
  · exact absurd c (b' _ a b)
  · rcases Int.lt_trichotomy v w with z | z | z
    · exact absurd c (d' _ a z)
    · exact z
    · exact absurd c' (d _ a' z)
noncomputable def gapF (r s : F1) : Int := Classical.epsilon (GapV r s)
theorem GapV.v {r s : F1} {v : Int} (h : GapV r s v) : gapF r s = v := (Classical.epsilon_spec (p := GapV r s) ⟨v, h⟩).uq h
set_option maxHeartbeats 4000000 in
theorem c_X12_gap {E : ET} {I : MI} {L : ML} {R : MR} {Q : Option AV → MI → ML → MR → Prop} {r s : F1} {HP : Prop} (hT : Topo R) (er : I 141 = r) (es : I 143 = s) (erd : I 138 30 = -1) (ehp : I 138 14 = bI HP) (hr : HP → WFr r ∧ Perm (r 5) s) (h : ∀ I', Eqo MS (gd I (pick HP 0 1)) I' → Q (some (vi (pick HP (gapF r s) (-1)))) I' L R) : CT E M_X12_gap 161 yX12_gap [(vr (138))] I L R Q := by
  refine CT_of rfl rfl (fun h => by cases h) (Nat.le_of_ble_eq_true rfl) (fun X => ?_)
  show V X _ z0 0 [some (vr (138)), none, none, none] [] I L R _
  have loop : HP → ∀ (f : Nat) (g v : Int) (I1 : MI), 100 - g < (f : Int) → 0 ≤ g → g ≤ 100 → Eqo (141 :: MS) (gd I 0) I1 → (∀ k, k ≠ 2 → I1 141 k = r k) → (v = -2 ∧ ∀ x, 0 ≤ x → x < g → ¬ TP (rG r x) (-1) x s (s 12)) ∨ (0 ≤ v ∧ v < 100 ∧ TP (rG r v) (-1) v s (s 12) ∧ ∀ x, 0 ≤ x → x < v → ¬ TP (rG r x) (-1) x s (s 12)) →
      V X M_X12_gap z0 29 [some (vr (138)), some (vi (r 2)), some (vi (v)), some (vi (g))] [] (I1) L R (RT X M_X12_gap Q) := by
    intro hP f
    obtain ⟨hr, hp⟩ := hr hP
    have e0 := hr.1
    rw [pick_t hP, pick_t hP] at h
    induction f with
    | zero => intro g v I1 h1 h2 h3; omega
    | succ f ih =>
      intro g v I1 h1 h2 h3 h4 h5 h6
      have b67 : GapV r s v → V X M_X12_gap z0 67 [some (vr (138)), some (vi (r 2)), some (vi (v)), some (vi (g))] [] (I1) L R (RT X M_X12_gap Q) := by
        intro hG
        have hb : -2147483648 ≤ v ∧ v ≤ 2147483647 := by rcases hG with ⟨a, b⟩ | ⟨a, b, _⟩ <;> omega
        refine s_aload_n 68 dX12_gap_67 rfl rfl ?_
        refine s_getR 71 dX12_gap_68 rfl fl_X12_20 (fun _ _ _ _ => rfl) (T_X12_r hT) sh_138 (Nat.le_of_ble_eq_true rfl) ?_
        refine s_iconst 72 dX12_gap_71 rfl ?_
        refine s_iload_n 73 dX12_gap_72 rfl rfl ?_
        refine s_iast 74 dX12_gap_73 rfl sh_141 (Nat.le_of_ble_eq_true rfl) (by omega) (by omega) (by first | omega | exact bI_r _ | exact iI_r _) ?_
        refine s_iload_n 75 dX12_gap_74 rfl rfl ?_
        refine s_iret dX12_gap_75 rfl rfl ?_
        rw [hG.v] at h
        refine h _ (fun a ha => ?_)
        by_cases e : a = 141
        · subst e
          funext k
          rw [upd9, gd_n (by decide), er]
          by_cases ek : k = 2
          · rw [if_pos ek, ek]
          · rw [if_neg ek]; exact h5 k ek
        · rw [up_ne e]; exact h4 a (fun z => by rcases List.mem_cons.mp z with q | q; exact e q; exact ha q)
      by_cases hv : v = -2
      · have h7 : ∀ x, 0 ≤ x → x < g → ¬ TP (rG r x) (-1) x s (s 12) := by
          rcases h6 with ⟨a, b⟩ | ⟨a, b, _⟩
          · exact b
          · omega
        subst hv
        have b61 : ∀ (v : Int) (I2 : MI), g < 100 → (∀ k, k ≠ 2 → I2 141 k = r k) → Eqo (141 :: MS) (gd I 0) I2 → (v = -2 ∧ ¬ TP (rG r g) (-1) g s (s 12)) ∨ (v = g ∧ TP (rG r g) (-1) g s (s 12)) → V X M_X12_gap z0 61 [some (vr (138)), some (vi (r 2)), some (vi (v)), some (vi (g))] [] (I2) L R (RT X M_X12_gap Q) := by
          intro v I2 j0 j1 j2 j3
          refine s_iinc (ls' := [_, _, _, _]) 64 dX12_gap_61 rfl rfl (Nat.le_of_ble_eq_true rfl) rfl rfl ?_
          refine s_goto 29 dX12_gap_64 rfl ?_
          refine ih (g + 1) v I2 (by omega) (by omega) (by omega) j2 j1 ?_
          rcases j3 with ⟨a, b⟩ | ⟨a, b⟩
          · refine Or.inl ⟨a, fun x x1 x2 => ?_⟩
            by_cases ex : x = g
            · rw [ex]; exact b
            · exact h7 x x1 (by omega)
          · rw [a]
            exact Or.inr ⟨by omega, by omega, b, h7⟩
        refine s_iload_n 30 dX12_gap_29 rfl rfl ?_
        refine s_bipush 32 dX12_gap_30 rfl (by decide) ?_
        refine s_icmp_ge 67 35 dX12_gap_32 rfl rfl (by first | omega | exact bI_r _ | exact iI_r _) (by first | omega | exact bI_r _ | exact iI_r _) (fun h_32 => ?_) (fun h_32 => ?_)
        · skip
          exact b67 (Or.inl ⟨rfl, fun x a b => h7 x a (by omega)⟩)
        refine s_iload_n 36 dX12_gap_35 rfl rfl ?_
        refine s_bipush 38 dX12_gap_36 rfl (by decide) ?_
        refine s_icmp_ne 67 41 dX12_gap_38 rfl rfl (by first | omega | exact bI_r _ | exact iI_r _) (by first | omega | exact bI_r _ | exact iI_r _) (fun h_38 => by exfalso; omega) (fun h_38 => ?_)
        skip
        have eg : up I1 141 2 g 141 = rG r g := by
          funext k
          rw [upd9]
          unfold rG
          by_cases ek : k = 2
          · rw [if_pos ek, if_pos ek]
          · rw [if_neg ek, if_neg ek]; exact h5 k ek
        have es1 : up I1 141 2 g 143 = s := by rw [up_ne (by decide)]; exact (h4 143 (by decide)).trans ((gd_n (by decide)).trans es)
        have erd1 : up I1 141 2 g 138 30 = -1 := by rw [up_ne (by decide)]; exact (congrFun (h4 138 (by decide)) 30).trans ((gd_f (by decide)).trans erd)
        have h4' : Eqo (141 :: MS) (gd I 0) (up I1 141 2 g) := h4.st (by decide)
        refine s_aload_n 42 dX12_gap_41 rfl rfl ?_
        refine s_getR 45 dX12_gap_42 rfl fl_X12_20 (fun _ _ _ _ => rfl) (T_X12_r hT) sh_138 (Nat.le_of_ble_eq_true rfl) ?_
        refine s_iconst 46 dX12_gap_45 rfl ?_
        refine s_iload_n 47 dX12_gap_46 rfl rfl ?_
        refine s_iast 48 dX12_gap_47 rfl sh_141 (Nat.le_of_ble_eq_true rfl) (by omega) (by omega) (by first | omega | exact bI_r _ | exact iI_r _) ?_
        refine s_aload_n 49 dX12_gap_48 rfl rfl ?_
        refine s_aload_n 50 dX12_gap_49 rfl rfl ?_
        refine s_getR 53 dX12_gap_50 rfl fl_X12_26 (fun _ _ _ _ => rfl) (T_X12_st hT) sh_138 (Nat.le_of_ble_eq_true rfl) ?_
        refine s_callV0 (M' := M_X12_doTold) (as := [_]) 56 dX12_gap_53 rfl cw_X12_392 rfl rfl sh_138 rfl (by decide) (Nat.le_of_ble_eq_true rfl) (Nat.le_of_ble_eq_true rfl) (Nat.le_of_ble_eq_true rfl) (Nat.le_of_ble_eq_true rfl) ⟨rfl, rfl, rfl⟩ ?_
        refine c_X12_doTold hT eg es1 erd1 (rG_W hr (by omega)) rG_2 sh_143 (by decide) (by decide) (by decide) es1 (by rw [rG_n (by omega)]; exact hp) (fun I2 k1 => ?_)
        have k2 : Eqo (141 :: MS) (gd I 0) I2 := h4'.tr (k1.mo (by decide))
        have k3 : ∀ k, k ≠ 2 → I2 141 k = r k := fun k hk => by rw [k1 141 (by decide), upn hk]; exact h5 k hk
        refine s_ifb_eq 61 59 dX12_gap_56 rfl rfl (fun h_56 => ?_) (fun h_56 => ?_)
        · skip
          first | exact b61 _ I2 (by omega) k3 k2 (Or.inl ⟨rfl, by assumption⟩) | exact b61 _ I2 (by omega) k3 k2 (Or.inr ⟨rfl, by assumption⟩)
        refine s_iload_n 60 dX12_gap_59 rfl rfl ?_
        refine s_istore_n (ls' := [_, _, _, _]) 61 dX12_gap_60 rfl (Nat.le_of_ble_eq_true rfl) rfl rfl ?_
        first | exact b61 _ I2 (by omega) k3 k2 (Or.inl ⟨rfl, by assumption⟩) | exact b61 _ I2 (by omega) k3 k2 (Or.inr ⟨rfl, by assumption⟩)
      · have h7 : GapV r s v := by
          rcases h6 with ⟨a, b⟩ | hq
          · exact absurd a hv
          · exact Or.inr hq
        have hb : -2147483648 ≤ v ∧ v ≤ 2147483647 := by rcases h7 with ⟨a, b⟩ | ⟨a, b, _⟩ <;> omega
        refine s_iload_n 30 dX12_gap_29 rfl rfl ?_
        refine s_bipush 32 dX12_gap_30 rfl (by decide) ?_
        refine s_icmp_ge 67 35 dX12_gap_32 rfl rfl (by first | omega | exact bI_r _ | exact iI_r _) (by first | omega | exact bI_r _ | exact iI_r _) (fun h_32 => ?_) (fun h_32 => ?_)
        · skip
          exact b67 h7
        refine s_iload_n 36 dX12_gap_35 rfl rfl ?_
        refine s_bipush 38 dX12_gap_36 rfl (by decide) ?_
        refine s_icmp_ne 67 41 dX12_gap_38 rfl rfl (by first | omega | exact bI_r _ | exact iI_r _) (by first | omega | exact bI_r _ | exact iI_r _) (fun h_38 => ?_) (fun h_38 => by exfalso; omega)
        exact b67 h7
  refine s_aload_n 1 dX12_gap_0 rfl rfl ?_
  refine s_callV0 (M' := M_X12_good) (as := []) 4 dX12_gap_1 rfl cw_X12_190 rfl rfl sh_138 rfl (by decide) (Nat.le_of_ble_eq_true rfl) (Nat.le_of_ble_eq_true rfl) (Nat.le_of_ble_eq_true rfl) (Nat.le_of_ble_eq_true rfl) ⟨rfl, rfl, rfl⟩ ?_
  refine c_X12_good ?_
  refine s_aload_n 5 dX12_gap_4 rfl rfl ?_
  refine s_getI 8 dX12_gap_5 rfl fl_X12_203 (fun _ _ _ _ => rfl) sh_138 (Nat.le_of_ble_eq_true rfl) (fun r_5 => ?_)
  rw [show up (up I 138 0 0) 138 11 0 138 14 = bI HP from (gd_f (by decide)).trans ehp]
  refine s_ifb_ne 17 11 dX12_gap_8 rfl rfl (fun h_8 => ?_) (fun h_8 => ?_)
  · skip
    refine s_aload_n 18 dX12_gap_17 rfl rfl ?_
    refine s_getR 21 dX12_gap_18 rfl fl_X12_20 (fun _ _ _ _ => rfl) (T_X12_r hT) sh_138 (Nat.le_of_ble_eq_true rfl) ?_
    refine s_iconst 22 dX12_gap_21 rfl ?_
    refine s_iald 23 dX12_gap_22 rfl sh_141 (Nat.le_of_ble_eq_true rfl) (by omega) (by omega) (fun r_22 => ?_)
    rw [show up (up I 138 0 0) 138 11 0 141 = r from (gd_n (by decide)).trans er] at r_22 ⊢
    refine s_istore_n (ls' := [_, _, _, _]) 24 dX12_gap_23 rfl (Nat.le_of_ble_eq_true rfl) rfl rfl ?_
    refine s_bipush 26 dX12_gap_24 rfl (by decide) ?_
    refine s_istore_n (ls' := [_, _, _, _]) 27 dX12_gap_26 rfl (Nat.le_of_ble_eq_true rfl) rfl rfl ?_
    refine s_iconst 28 dX12_gap_27 rfl ?_
    refine s_istore_n (ls' := [_, _, _, _]) 29 dX12_gap_28 rfl (Nat.le_of_ble_eq_true rfl) rfl rfl ?_
    exact loop (by assumption) 101 0 (-2) _ (by omega) (by omega) (by omega) Eqo.rf (fun k _ => congrFun ((gd_n (by decide)).trans er) k) (Or.inl ⟨rfl, fun x a b => by omega⟩)
  refine s_aload_n 12 dX12_gap_11 rfl rfl ?_
  refine s_iconst 13 dX12_gap_12 rfl ?_
  refine s_callV0 (M' := M_X12_no) (as := [_]) 16 dX12_gap_13 rfl cw_X12_193 rfl rfl sh_138 rfl (by decide) (Nat.le_of_ble_eq_true rfl) (Nat.le_of_ble_eq_true rfl) (Nat.le_of_ble_eq_true rfl) (Nat.le_of_ble_eq_true rfl) ⟨rfl, rfl, rfl⟩ ?_
  refine c_X12_no (by decide) ?_
  rw [show up (up (up I 138 0 0) 138 11 0) 138 11 1 = gd I 1 from gd_no]
  refine s_iret dX12_gap_16 rfl rfl ?_
  rw [pick_f (by assumption), pick_f (by assumption)] at h
  exact h _ Eqo.rf
