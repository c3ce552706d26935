/-! troubled, led, feed, by the reference -/
def TrS (r q s : F1) (i k : Int) : Prop := (∃ j, 0 ≤ j ∧ j ≤ i ∧ q j = k) ∧ Ons r s (s (5 + r (54 + 7 * q i + 0))) k
def TrV (r b c q s : F1) (x : Int) : Prop := (x = -2 ∧ ∀ i, 0 ≤ i → i < r 7 → ¬ hasI (s 12) (q i) → Can r (-1) b c q (TrS r q s i)) ∨
  ∃ i, 0 ≤ i ∧ i < r 7 ∧ x = q i ∧ ¬ hasI (s 12) (q i) ∧ ¬ Can r (-1) b c q (TrS r q s i) ∧ ∀ j, 0 ≤ j → j < i → ¬ hasI (s 12) (q j) → Can r (-1) b c q (TrS r q s j)
theorem TrV.uq {r b c q s : F1} {x y : Int} (hq : ∀ i, 0 ≤ i → i < r 7 → 0 ≤ q i ∧ q i < r 7) (h : TrV r b c q s x) (h' : TrV r b c q s y) : x = y := by
  rcases h with ⟨a, b⟩ | ⟨i, a, b, c, d, e, f⟩ <;> rcases h' with ⟨a', b'⟩ | ⟨i', a', b', c', d', e', f'⟩
  · omega
  · exact absurd (b i' a' b' d') e'
  · exact absurd (b' i a b d) e
  · rcases Int.lt_trichotomy i i' with z | z | z
    · exact absurd (f' i a z d) e
    · rw [c, c', z]
    · exact absurd (f i' a' z d') e'
noncomputable def trF (r b c q s : F1) : Int := Classical.epsilon (TrV r b c q s)
theorem TrV.v {r b c q s : F1} {x : Int} (hq : ∀ i, 0 ≤ i → i < r 7 → 0 ≤ q i ∧ q i < r 7) (h : TrV r b c q s x) : trF r b c q s = x := TrV.uq hq (Classical.epsilon_spec (p := TrV r b c q s) ⟨x, h⟩) h
theorem TrV_c {r b b' c c' q q' s : F1} {x : Int} (hr : WFr r) (hq : Perm (r 7) q) (eb : ∀ k, 0 ≤ k → k < r 7 → b' k = b k ∧ c' k = c k) (e : ∀ i, 0 ≤ i → i < r 7 → q' i = q i) (h : TrV r b' c' q' s x) : TrV r b c q s x := by
  have hS : ∀ i, 0 ≤ i → i < r 7 → ∀ k, (TrS r q' s i k ↔ TrS r q s i k) := by
    intro i i1 i2 k
    unfold TrS
    rw [e i i1 i2]
    constructor
    · rintro ⟨⟨j, j1, j2, j3⟩, z⟩; exact ⟨⟨j, j1, j2, by rw [← e j j1 (by omega)]; exact j3⟩, z⟩
    · rintro ⟨⟨j, j1, j2, j3⟩, z⟩; exact ⟨⟨j, j1, j2, by rw [e j j1 (by omega)]; exact j3⟩, z⟩
  have hC : ∀ i, 0 ≤ i → i < r 7 → (Can r (-1) b' c' q' (TrS r q' s i) ↔ Can r (-1) b c q (TrS r q s i)) := fun i i1 i2 => Can_c hr hq eb e (fun k _ _ => (hS i i1 i2 k).symm)
  rcases h with ⟨a, b⟩ | ⟨i, a, b, c, d, f, g⟩
  · exact Or.inl ⟨a, fun i i1 i2 i3 => (hC i i1 i2).mp (b i i1 i2 (by rw [e i i1 i2]; exact i3))⟩
  · exact Or.inr ⟨i, a, b, by rw [c, e i a b], by rw [← e i a b]; exact d, fun z => f ((hC i a b).mpr z), fun j j1 j2 j3 => (hC j j1 (by omega)).mp (g j j1 j2 (by rw [e j j1 (by omega)]; exact j3))⟩
set_option maxHeartbeats 4000000 in
theorem c_X12_troubled {E : ET} {I : MI} {L : ML} {R : MR} {Q : Option AV → MI → ML → MR → Prop} {r s : F1} {a : List Int} {HP : Prop} (hT : Topo R) (er : I 141 = r) (es : I 143 = s) (erd : I 138 30 = -1) (ehp : I 138 14 = bI HP) (hr : HP → SOk r s a) (h : ∀ I', Eqo MS (gd I (pick HP 0 1)) I' → Q (some (vi (pick HP (trF r (bgF r (r 2) s) (clF r (r 2) s) (sqF r (r 2) s) s) (-1)))) I' L R) : CT E M_X12_troubled 161 yX12_troubled [(vr (138))] I L R Q := by
  refine CT_of rfl rfl (fun h => by cases h) (Nat.le_of_ble_eq_true rfl) (fun X => ?_)
  show V X _ z0 0 [some (vr (138)), none, none, none] [] I L R _
  have hno := (pick_spl h).1
  have hye := (pick_spl h).2
  have er1 : up (up I 138 0 0) 138 11 0 141 = r := (gd_n (by decide)).trans er
  have es1 : up (up I 138 0 0) 138 11 0 143 = s := (gd_n (by decide)).trans es
  have erd1 : up (up I 138 0 0) 138 11 0 138 30 = -1 := (gd_f (by decide)).trans erd
  have ehp1 : up (up I 138 0 0) 138 11 0 138 14 = bI HP := (gd_f (by decide)).trans ehp
  have hr1 : HP → WFr r := fun z => (hr z).1
  have loop : HP → ∀ (b c q : F1) (I1 : MI), I1 141 = r → I1 143 = s → I1 138 30 = -1 → I1 150 = b → I1 151 = c → I1 152 = q → Perm (r 7) q → (∀ k, 0 ≤ k → k < r 7 → 0 ≤ b k ∧ b k ≤ 4000 ∧ 0 ≤ c k ∧ c k ≤ 4000) →
      (∀ x, TrV r b c q s x → Q (some (vi x)) I1 L R) → ∀ (f : Nat) (t A : Int) (w3 : Option AV), r 7 - t < (f : Int) → 0 ≤ t → t ≤ r 7 → (∀ k, 0 ≤ k → k < 32 → (hasI A k ↔ (∃ j, 0 ≤ j ∧ j < t ∧ q j = k) ∧ ¬ hasI (s 12) k)) → (∀ j, 0 ≤ j → j < t → ¬ hasI (s 12) (q j) → Can r (-1) b c q (TrS r q s j)) →
      V X M_X12_troubled z0 29 [some (vr 138), some (vi A), some (vi t), w3] [] I1 L R (RT X M_X12_troubled Q) := by
    intro hP b c q I1 er es erd eb ec eq hq hb hQ f
    have hrr := (hr hP).1
    have e0 := hrr.1
    induction f with
    | zero => intro t A w3 h1 h2 h3; omega
    | succ f ih =>
      intro t A w3 h1 h2 h3 h4 h5
      refine s_iload_n 30 dX12_troubled_29 rfl rfl ?_
      refine s_aload_n 31 dX12_troubled_30 rfl rfl ?_
      refine s_getR 34 dX12_troubled_31 rfl fl_X12_20 (fun _ _ _ _ => rfl) (T_X12_r hT) sh_138 (Nat.le_of_ble_eq_true rfl) ?_
      refine s_bipush 36 dX12_troubled_34 rfl (by decide) ?_
      refine s_iald 37 dX12_troubled_36 rfl sh_141 (Nat.le_of_ble_eq_true rfl) (by omega) (by omega) (fun r_36 => ?_)
      rw [er] at r_36 ⊢
      refine s_icmp_ge 104 40 dX12_troubled_37 rfl rfl (by first | omega | exact bI_r _ | exact iI_r _) (by first | omega | exact bI_r _ | exact iI_r _) (fun h_37 => ?_) (fun h_37 => ?_)
      · skip
        refine s_bipush 106 dX12_troubled_104 rfl (by decide) ?_
        refine s_iret dX12_troubled_106 rfl rfl ?_
        exact hQ _ (Or.inl ⟨rfl, fun i z1 z2 => h5 i z1 (by omega)⟩)
      skip
      have q1 := hq.1 t h2 (by omega)
      have k1 := hrr.2.2.2.1 (q t) q1.1 q1.2
      have k2 := (hr hP).2.2.2.1 (r (54 + 7 * q t + 0)) (by omega) (by omega)
      by_cases hc : hasI (s 12) (q t)
      · skip
        refine s_aload_n 41 dX12_troubled_40 rfl rfl ?_
        refine s_getR 44 dX12_troubled_41 rfl fl_X12_53 (fun _ _ _ _ => rfl) (T_X12_inTime hT) sh_138 (Nat.le_of_ble_eq_true rfl) ?_
        refine s_iload_n 45 dX12_troubled_44 rfl rfl ?_
        refine s_iald 46 dX12_troubled_45 rfl sh_152 (Nat.le_of_ble_eq_true rfl) (by omega) (by omega) (fun r_45 => ?_)
        rw [eq] at r_45 ⊢
        refine s_istore_n (ls' := [_, _, _, _]) 47 dX12_troubled_46 rfl (Nat.le_of_ble_eq_true rfl) rfl rfl ?_
        refine s_aload_n 48 dX12_troubled_47 rfl rfl ?_
        refine s_getR 51 dX12_troubled_48 rfl fl_X12_26 (fun _ _ _ _ => rfl) (T_X12_st hT) sh_138 (Nat.le_of_ble_eq_true rfl) ?_
        refine s_bipush 53 dX12_troubled_51 rfl (by decide) ?_
        refine s_iald 54 dX12_troubled_53 rfl sh_143 (Nat.le_of_ble_eq_true rfl) (by omega) (by omega) (fun r_53 => ?_)
        rw [es] at r_53 ⊢
        refine s_iload_n 55 dX12_troubled_54 rfl rfl ?_
        refine s_callS0 (M' := M_X12_has) (as := [_, _]) 58 dX12_troubled_55 rfl cw_X12_278 rfl rfl (Nat.le_of_ble_eq_true rfl) (Nat.le_of_ble_eq_true rfl) (Nat.le_of_ble_eq_true rfl) ⟨rfl, rfl, rfl⟩ ?_
        refine c_X12_has ?_
        refine s_ifb_eq 64 61 dX12_troubled_58 rfl rfl (fun h_58 => by exfalso; exact absurd hc (by assumption)) (fun h_58 => ?_)
        refine s_goto 98 dX12_troubled_61 rfl ?_
        refine s_iinc (ls' := [_, _, _, _]) 101 dX12_troubled_98 rfl rfl (Nat.le_of_ble_eq_true rfl) rfl rfl ?_
        refine s_goto 29 dX12_troubled_101 rfl ?_
        refine ih (t + 1) A _ (by omega) (by omega) (by omega) (fun k z1 z2 => ?_) (fun j z1 z2 z3 => ?_)
        · rw [h4 k z1 z2]
          constructor
          · rintro ⟨⟨j, j1, j2, j3⟩, y⟩; exact ⟨⟨j, j1, by omega, j3⟩, y⟩
          · rintro ⟨⟨j, j1, j2, j3⟩, y⟩
            refine ⟨⟨j, j1, ?_, j3⟩, y⟩
            apply Classical.byContradiction
            intro z
            have : j = t := by omega
            rw [this] at j3
            rw [j3] at hc
            exact y hc
        · by_cases ej : j = t
          · rw [ej] at z3; exact absurd hc z3
          · exact h5 j z1 (by omega) z3
      · have hA : ∀ k, 0 ≤ k → k < 32 → (hasI (ior A (ishl 1 (q t))) k ↔ (∃ j, 0 ≤ j ∧ j < t + 1 ∧ q j = k) ∧ ¬ hasI (s 12) k) := by
          intro k z1 z2
          rw [has_or ⟨z1, z2⟩, h4 k z1 z2, has_shl (by omega) ⟨z1, z2⟩]
          constructor
          · rintro (⟨⟨j, j1, j2, j3⟩, y⟩ | y)
            · exact ⟨⟨j, j1, by omega, j3⟩, y⟩
            · exact ⟨⟨t, h2, by omega, y.symm⟩, by rw [y]; exact hc⟩
          · rintro ⟨⟨j, j1, j2, j3⟩, y⟩
            by_cases ej : j = t
            · rw [ej] at j3; exact Or.inr j3.symm
            · exact Or.inl ⟨⟨j, j1, by omega, j3⟩, y⟩
        have hset : Can r (-1) b c q (fun k => hasI (iand (ior A (ishl 1 (q t))) (setOf (fun k => s (5 + r (54 + 7 * k + 0)) = s (5 + r (54 + 7 * q t + 0)) ∧ ¬ hasI (s 12) k) (r 7).toNat)) k) ↔ Can r (-1) b c q (TrS r q s t) := by
          refine Can_c (S := TrS r q s t) hrr hq (fun _ _ _ => ⟨rfl, rfl⟩) (fun _ _ _ => rfl) (fun k z1 z2 => ?_)
          rw [has_and ⟨z1, by omega⟩, hA k z1 (by omega), has_setOf (by omega) (by omega)]
          constructor
          · rintro ⟨⟨j, j1, j2, j3⟩, y⟩; exact ⟨⟨⟨j, j1, by omega, j3⟩, y.2⟩, by omega, y⟩
          · rintro ⟨⟨⟨j, j1, j2, j3⟩, _⟩, _, y⟩; exact ⟨⟨j, j1, by omega, j3⟩, y⟩
        refine s_aload_n 41 dX12_troubled_40 rfl rfl ?_
        refine s_getR 44 dX12_troubled_41 rfl fl_X12_53 (fun _ _ _ _ => rfl) (T_X12_inTime hT) sh_138 (Nat.le_of_ble_eq_true rfl) ?_
        refine s_iload_n 45 dX12_troubled_44 rfl rfl ?_
        refine s_iald 46 dX12_troubled_45 rfl sh_152 (Nat.le_of_ble_eq_true rfl) (by omega) (by omega) (fun r_45 => ?_)
        rw [eq] at r_45 ⊢
        refine s_istore_n (ls' := [_, _, _, _]) 47 dX12_troubled_46 rfl (Nat.le_of_ble_eq_true rfl) rfl rfl ?_
        refine s_aload_n 48 dX12_troubled_47 rfl rfl ?_
        refine s_getR 51 dX12_troubled_48 rfl fl_X12_26 (fun _ _ _ _ => rfl) (T_X12_st hT) sh_138 (Nat.le_of_ble_eq_true rfl) ?_
        refine s_bipush 53 dX12_troubled_51 rfl (by decide) ?_
        refine s_iald 54 dX12_troubled_53 rfl sh_143 (Nat.le_of_ble_eq_true rfl) (by omega) (by omega) (fun r_53 => ?_)
        rw [es] at r_53 ⊢
        refine s_iload_n 55 dX12_troubled_54 rfl rfl ?_
        refine s_callS0 (M' := M_X12_has) (as := [_, _]) 58 dX12_troubled_55 rfl cw_X12_278 rfl rfl (Nat.le_of_ble_eq_true rfl) (Nat.le_of_ble_eq_true rfl) (Nat.le_of_ble_eq_true rfl) ⟨rfl, rfl, rfl⟩ ?_
        refine c_X12_has ?_
        refine s_ifb_eq 64 61 dX12_troubled_58 rfl rfl (fun h_58 => ?_) (fun h_58 => by exfalso; exact absurd h_58 hc)
        refine s_iload_n 65 dX12_troubled_64 rfl rfl ?_
        refine s_iconst 66 dX12_troubled_65 rfl ?_
        refine s_iload_n 67 dX12_troubled_66 rfl rfl ?_
        refine s_ishl 68 dX12_troubled_67 rfl ?_
        refine s_ior 69 dX12_troubled_68 rfl ?_
        refine s_istore_n (ls' := [_, _, _, _]) 70 dX12_troubled_69 rfl (Nat.le_of_ble_eq_true rfl) rfl rfl ?_
        refine s_aload_n 71 dX12_troubled_70 rfl rfl ?_
        refine s_iload_n 72 dX12_troubled_71 rfl rfl ?_
        refine s_aload_n 73 dX12_troubled_72 rfl rfl ?_
        refine s_aload_n 74 dX12_troubled_73 rfl rfl ?_
        refine s_getR 77 dX12_troubled_74 rfl fl_X12_26 (fun _ _ _ _ => rfl) (T_X12_st hT) sh_138 (Nat.le_of_ble_eq_true rfl) ?_
        refine s_iconst 78 dX12_troubled_77 rfl ?_
        refine s_aload_n 79 dX12_troubled_78 rfl rfl ?_
        refine s_iload_n 80 dX12_troubled_79 rfl rfl ?_
        refine s_iconst 81 dX12_troubled_80 rfl ?_
        refine s_callV0 (M' := M_X12_onOf) (as := [_, _]) 84 dX12_troubled_81 rfl cw_X12_302 rfl rfl sh_138 rfl (by decide) (Nat.le_of_ble_eq_true rfl) (Nat.le_of_ble_eq_true rfl) (Nat.le_of_ble_eq_true rfl) (Nat.le_of_ble_eq_true rfl) ⟨rfl, rfl, rfl⟩ ?_
        refine c_X12_onOf hT er (by omega) (by omega) ?_
        refine s_iadd 85 dX12_troubled_84 rfl ?_
        refine s_iald 86 dX12_troubled_85 rfl sh_143 (Nat.le_of_ble_eq_true rfl) (by omega) (by omega) (fun r_85 => ?_)
        rw [es] at r_85 ⊢
        refine s_callV0 (M' := M_X12_onsOfPlayer) (as := [_]) 89 dX12_troubled_86 rfl cw_X12_345 rfl rfl sh_138 rfl (by decide) (Nat.le_of_ble_eq_true rfl) (Nat.le_of_ble_eq_true rfl) (Nat.le_of_ble_eq_true rfl) (Nat.le_of_ble_eq_true rfl) ⟨rfl, rfl, rfl⟩ ?_
        refine c_X12_onsOfPlayer hT er es hrr (hr hP).2.2.2.1 (by omega) ?_
        refine s_iand 90 dX12_troubled_89 rfl ?_
        refine s_callV0 (M' := M_X12_canHave) (as := [_]) 93 dX12_troubled_90 rfl cw_X12_351 rfl rfl sh_138 rfl (by decide) (Nat.le_of_ble_eq_true rfl) (Nat.le_of_ble_eq_true rfl) (Nat.le_of_ble_eq_true rfl) (Nat.le_of_ble_eq_true rfl) ⟨rfl, rfl, rfl⟩ ?_
        refine c_X12_canHave hT er erd eb ec eq hrr hq hb ?_
        refine s_ifb_ne 98 96 dX12_troubled_93 rfl rfl (fun h_93 => ?_) (fun h_93 => ?_)
        · skip
          refine s_iinc (ls' := [_, _, _, _]) 101 dX12_troubled_98 rfl rfl (Nat.le_of_ble_eq_true rfl) rfl rfl ?_
          refine s_goto 29 dX12_troubled_101 rfl ?_
          refine ih (t + 1) _ _ (by omega) (by omega) (by omega) hA (fun j z1 z2 z3 => ?_)
          by_cases ej : j = t
          · rw [ej]; exact hset.mp (by assumption)
          · exact h5 j z1 (by omega) z3
        refine s_iload_n 97 dX12_troubled_96 rfl rfl ?_
        refine s_iret dX12_troubled_97 rfl rfl ?_
        exact hQ _ (Or.inr ⟨t, h2, by omega, rfl, hc, fun z => absurd (hset.mpr z) (by assumption), h5⟩)
  refine s_aload_n 1 dX12_troubled_0 rfl rfl ?_
  refine s_callV0 (M' := M_X12_good) (as := []) 4 dX12_troubled_1 rfl cw_X12_190 rfl rfl sh_138 rfl (by decide) (Nat.le_of_ble_eq_true rfl) (Nat.le_of_ble_eq_true rfl) (Nat.le_of_ble_eq_true rfl) (Nat.le_of_ble_eq_true rfl) ⟨rfl, rfl, rfl⟩ ?_
  refine c_X12_good ?_
  refine s_aload_n 5 dX12_troubled_4 rfl rfl ?_
  refine s_getI 8 dX12_troubled_5 rfl fl_X12_203 (fun _ _ _ _ => rfl) sh_138 (Nat.le_of_ble_eq_true rfl) (fun r_5 => ?_)
  rw [ehp1]
  refine s_ifb_ne 17 11 dX12_troubled_8 rfl rfl (fun h_8 => ?_) (fun h_8 => ?_)
  · skip
    refine s_aload_n 18 dX12_troubled_17 rfl rfl ?_
    refine s_aload_n 19 dX12_troubled_18 rfl rfl ?_
    refine s_getR 22 dX12_troubled_19 rfl fl_X12_26 (fun _ _ _ _ => rfl) (T_X12_st hT) sh_138 (Nat.le_of_ble_eq_true rfl) ?_
    refine s_callV0 (M' := M_X12_layTime) (as := [_]) 25 dX12_troubled_22 rfl cw_X12_305 rfl rfl sh_138 rfl (by decide) (Nat.le_of_ble_eq_true rfl) (Nat.le_of_ble_eq_true rfl) (Nat.le_of_ble_eq_true rfl) (Nat.le_of_ble_eq_true rfl) ⟨rfl, rfl, rfl⟩ ?_
    have hP : HP := by assumption
    have hrr := (hr hP).1
    have e0 := hrr.1
    refine c_X12_layTime hT er1 hrr rfl sh_143 (by decide) (by decide) (by decide) es1 (hr hP).p (fun I1 hL => ?_)
    have er : I1 141 = r := (hL.1 141 (by decide)).trans er1
    have es2 : I1 143 = s := (hL.1 143 (by decide)).trans es1
    have erd2 : I1 138 30 = -1 := (congrFun (hL.1 138 (by decide)) 30).trans erd1
    have hE : Eqo MS (gd I 0) I1 := hL.1.mo (by decide)
    obtain ⟨q1, q2⟩ := hL.rep hrr (hr hP).p (by omega)
    refine s_iconst 26 dX12_troubled_25 rfl ?_
    refine s_istore_n (ls' := [_, _, _, _]) 27 dX12_troubled_26 rfl (Nat.le_of_ble_eq_true rfl) rfl rfl ?_
    refine s_iconst 28 dX12_troubled_27 rfl ?_
    refine s_istore_n (ls' := [_, _, _, _]) 29 dX12_troubled_28 rfl (Nat.le_of_ble_eq_true rfl) rfl rfl ?_
    have hsq := srF_in (bgF r (r 2) s) (r 7).toNat
    rw [show (((r 7).toNat : Nat) : Int) = r 7 by omega] at hsq
    refine loop hP _ _ _ I1 er es2 erd2 rfl rfl rfl q1 q2 (fun x hx => ?_) (r 7 + 1).toNat 0 0 none (by omega) (by omega) (by omega) (fun k z1 z2 => ⟨fun z => absurd z (has_0 ⟨z1, z2⟩), fun ⟨⟨j, j1, j2, _⟩, _⟩ => by omega⟩) (fun j z1 z2 => by omega)
    have := (TrV_c (b := bgF r (r 2) s) (c := clF r (r 2) s) (q := sqF r (r 2) s) hrr hsq (fun k z1 z2 => hL.2.2.1 k z1 z2) (fun i z1 z2 => hL.2.2.2 i z1 z2) hx).v (sq_in hrr)
    rw [← this]
    exact hye hP I1 hE
  refine s_aload_n 12 dX12_troubled_11 rfl rfl ?_
  refine s_iconst 13 dX12_troubled_12 rfl ?_
  refine s_callV0 (M' := M_X12_no) (as := [_]) 16 dX12_troubled_13 rfl cw_X12_193 rfl rfl sh_138 rfl (by decide) (Nat.le_of_ble_eq_true rfl) (Nat.le_of_ble_eq_true rfl) (Nat.le_of_ble_eq_true rfl) (Nat.le_of_ble_eq_true rfl) ⟨rfl, rfl, rfl⟩ ?_
  refine c_X12_no (by decide) ?_
  first | rw [show up (up (up I 138 0 0) 138 11 0) 138 11 1 = gd I 1 from gd_no] | rw [show up (up (up I 138 0 0) 138 11 0) 138 11 2 = gd I 2 from gd_no]
  refine s_iret dX12_troubled_16 rfl rfl ?_
  exact hno (by assumption)
/-- so many of a player's are earlier in time -/
noncomputable def cnF (S : Int → Prop) (q : F1) : Nat → Int
  | 0 => 0
  | i + 1 => cnF S q i + pick (S (q i)) 1 0
theorem cnF_s {S : Int → Prop} {q : F1} {i : Int} (h : 0 ≤ i) : cnF S q (i + 1).toNat = cnF S q i.toNat + pick (S (q i)) 1 0 := by
  rw [(nat1 h).1]
  show _ + pick (S (q (i.toNat : Nat))) 1 0 = _
  rw [(nat1 h).2]
theorem cnF_c {S S' : Int → Prop} {q q' : F1} : ∀ {i : Nat} (_ : ∀ j : Int, 0 ≤ j → j < i → q' j = q j ∧ (S' (q j) ↔ S (q j))), cnF S' q' i = cnF S q i
  | 0, _ => rfl
  | i + 1, h => by
    have h1 := h i (by omega) (by omega)
    unfold cnF
    rw [cnF_c (i := i) (fun j a b => h j a (by omega)), h1.1]
    congr 1
    exact pick_c h1.2 rfl rfl
theorem cnF_b {S : Int → Prop} {q : F1} : ∀ i : Nat, 0 ≤ cnF S q i ∧ cnF S q i ≤ i
  | 0 => by unfold cnF; omega
  | i + 1 => by
    have := cnF_b (S := S) (q := q) i
    unfold cnF
    by_cases z : S (q i)
    · rw [pick_t z]; omega
    · rw [pick_f z]; omega
theorem cnF_mo {S : Int → Prop} {q : F1} {i : Nat} : ∀ {j : Nat} (_ : i ≤ j), cnF S q i ≤ cnF S q j
  | 0, h => by rw [show i = 0 by omega]; exact Int.le_refl _
  | j + 1, h => by
    by_cases e : i = j + 1
    · rw [e]; exact Int.le_refl _
    · have := cnF_mo (S := S) (q := q) (i := i) (j := j) (by omega)
      show _ ≤ cnF S q j + pick (S (q j)) 1 0
      by_cases z : S (q j)
      · rw [pick_t z]; omega
      · rw [pick_f z]; omega
def LedV (r q : F1) (S : Int → Prop) (i x t : Int) : Prop := (t = 1 ∧ x = 0 ∧ ∀ j, 0 ≤ j → j < r 7 → S (q j) → cnF S q j.toNat ≠ i) ∨ (t = 0 ∧ ∃ j, 0 ≤ j ∧ j < r 7 ∧ S (q j) ∧ cnF S q j.toNat = i ∧ x = q j)
theorem LedV.uq {r q : F1} {S : Int → Prop} {i x t x' t' : Int} (h : LedV r q S i x t) (h' : LedV r q S i x' t') : x = x' ∧ t = t' := by
  have key : ∀ j j', 0 ≤ j → j < j' → S (q j) → cnF S q j.toNat < cnF S q j'.toNat := by
    intro j j' a b c
    have h1 := cnF_s (S := S) (q := q) a
    rw [pick_t c] at h1
    have h2 := cnF_mo (S := S) (q := q) (i := (j + 1).toNat) (j := j'.toNat) (by omega)
    omega
  rcases h with ⟨a, b, c⟩ | ⟨a, j, b, c, d, e, f⟩ <;> rcases h' with ⟨a', b', c'⟩ | ⟨a', j', b', c', d', e', f'⟩
  · omega
  · exact absurd e' (c j' b' c' d')
  · exact absurd e (c' j b c d)
  · rcases Int.lt_trichotomy j j' with z | z | z
    · have := key j j' b z d; omega
    · rw [f, f', z]; omega
    · have := key j' j b' z d'; omega
theorem LedV_c {r q q' : F1} {S S' : Int → Prop} {i x t : Int} (hq : ∀ i, 0 ≤ i → i < r 7 → 0 ≤ q i ∧ q i < r 7) (e : ∀ i, 0 ≤ i → i < r 7 → q' i = q i) (hS : ∀ k, 0 ≤ k → k < r 7 → (S' k ↔ S k)) (h : LedV r q' S' i x t) : LedV r q S i x t := by
  have hc : ∀ j, 0 ≤ j → j < r 7 → cnF S' q' j.toNat = cnF S q j.toNat := fun j a b => cnF_c (fun k z1 z2 => ⟨e k z1 (by omega), hS _ (hq k z1 (by omega)).1 (hq k z1 (by omega)).2⟩)
  rcases h with ⟨a, b, c⟩ | ⟨a, j, b, c, d, g, f⟩
  · refine Or.inl ⟨a, b, fun j z1 z2 z3 => ?_⟩
    rw [← hc j z1 z2]
    exact c j z1 z2 (by rw [e j z1 z2]; exact (hS _ (hq j z1 z2).1 (hq j z1 z2).2).mpr z3)
  · refine Or.inr ⟨a, j, b, c, ?_, ?_, ?_⟩
    · have := d; rw [e j b c] at this; exact (hS _ (hq j b c).1 (hq j b c).2).mp this
    · rw [← hc j b c]; exact g
    · rw [f, e j b c]
set_option maxHeartbeats 4000000 in
theorem c_X12_led {E : ET} {I : MI} {L : ML} {R : MR} {Q : Option AV → MI → ML → MR → Prop} {r s : F1} {a : List Int} {HP : Prop} {p i : Int} (hT : Topo R) (er : I 141 = r) (es : I 143 = s) (erd : I 138 30 = -1) (ehp : I 138 14 = bI HP) (hr : HP → SOk r s a) (hp : -2147483648 ≤ p ∧ p ≤ 2147483647) (hi : -2147483648 ≤ i ∧ i ≤ 2147483647) (h : ∀ x t I', Eqo MS (tz I t) I' → ((HP ∧ 0 ≤ p ∧ p < 7) → LedV r (sqF r (r 2) s) (Ons r s p) i x t) → (¬ (HP ∧ 0 ≤ p ∧ p < 7) → x = 0 ∧ t = 1) → Q (some (vi x)) I' L R) : CT E M_X12_led 161 yX12_led [(vr (138)), (vi (p)), (vi (i))] I L R Q := by
  refine CT_of rfl rfl (fun h => by cases h) (Nat.le_of_ble_eq_true rfl) (fun X => ?_)
  show V X _ z0 0 [some (vr (138)), some (vi (p)), some (vi (i)), none, none, none] [] I L R _
  have hr1 : HP → WFr r := fun z => (hr z).1
  by_cases hC : HP ∧ 0 ≤ p ∧ p < 7
  · have hrr := (hr hC.1).1
    have e0 := hrr.1
    have hsq := sq_in (r := r) (g := r 2) (sc := s) hrr
    have loop : ∀ (q : F1) (I1 : MI), I1 141 = r → I1 143 = s → I1 138 14 = bI HP → I1 152 = q → (∀ j, 0 ≤ j → j < r 7 → q j = sqF r (r 2) s j) → Eqo MS I I1 → ∀ (f : Nat) (t : Int) (w5 : Option AV), r 7 - t < (f : Int) → 0 ≤ t → t ≤ r 7 → (∀ j, 0 ≤ j → j < t → Ons r s p (q j) → cnF (Ons r s p) q j.toNat ≠ i) →
        V X M_X12_led z0 21 [some (vr 138), some (vi p), some (vi i), some (vi (cnF (Ons r s p) q t.toNat)), some (vi t), w5] [] I1 L R (RT X M_X12_led Q) := by
      intro q I1 er es ehp eq hq hE f
      induction f with
      | zero => intro t w5 h1 h2 h3; omega
      | succ f ih =>
        intro t w5 h1 h2 h3 h4
        have hE1 : ∀ v, Eqo MS (tz I v) (up I1 138 0 v) := fun v c hc => by
          by_cases ec : c = 138
          · subst ec; unfold tz; rw [up_eq, up_eq, hE 138 (by decide)]
          · unfold tz; rw [up_ne ec, up_ne ec]; exact hE c hc
        have cb := cnF_b (S := Ons r s p) (q := q) t.toNat
        refine s_aload_n 22 dX12_led_21 rfl rfl ?_
        refine s_iload_n 23 dX12_led_22 rfl rfl ?_
        refine s_callV0 (M' := M_X12_isPlayer) (as := [_]) 26 dX12_led_23 rfl cw_X12_348 rfl rfl sh_138 rfl (by decide) (Nat.le_of_ble_eq_true rfl) (Nat.le_of_ble_eq_true rfl) (Nat.le_of_ble_eq_true rfl) (Nat.le_of_ble_eq_true rfl) ⟨rfl, rfl, rfl⟩ ?_
        refine c_X12_isPlayer ehp (by omega) ?_
        refine s_ifb_eq 88 29 dX12_led_26 rfl rfl (fun h_26 => by exfalso; exact absurd hC (by assumption)) (fun h_26 => ?_)
        refine s_iload 31 dX12_led_29 rfl rfl ?_
        refine s_aload_n 32 dX12_led_31 rfl rfl ?_
        refine s_getR 35 dX12_led_32 rfl fl_X12_20 (fun _ _ _ _ => rfl) (T_X12_r hT) sh_138 (Nat.le_of_ble_eq_true rfl) ?_
        refine s_bipush 37 dX12_led_35 rfl (by decide) ?_
        refine s_iald 38 dX12_led_37 rfl sh_141 (Nat.le_of_ble_eq_true rfl) (by omega) (by omega) (fun r_37 => ?_)
        rw [er] at r_37 ⊢
        refine s_icmp_ge 88 41 dX12_led_38 rfl rfl (by first | omega | exact bI_r _ | exact iI_r _) (by first | omega | exact bI_r _ | exact iI_r _) (fun h_38 => ?_) (fun h_38 => ?_)
        · skip
          refine s_aload_n 89 dX12_led_88 rfl rfl ?_
          refine s_iconst 90 dX12_led_89 rfl ?_
          refine s_putI 93 dX12_led_90 rfl fl_X12_81 (fun _ => rfl) (fun _ => rfl) (fun _ _ _ _ => rfl) sh_138 (Nat.le_of_ble_eq_true rfl) (by first | omega | exact bI_r _ | exact iI_r _) ?_
          refine s_iconst 94 dX12_led_93 rfl ?_
          refine s_iret dX12_led_94 rfl rfl ?_
          refine h 0 1 _ (hE1 1) (fun _ => LedV_c hsq hq (fun k _ _ => Iff.rfl) (Or.inl ⟨rfl, rfl, fun j z1 z2 z3 => h4 j z1 (by omega) z3⟩)) (fun z => absurd hC z)
        skip
        have q1 := hsq t h2 (by omega)
        have q2 := hq t h2 (by omega)
        rw [← q2] at q1
        have hO := has_Ons (s := s) (p := p) hrr q1
        have s1 := cnF_s (S := Ons r s p) (q := q) h2
        refine s_aload_n 42 dX12_led_41 rfl rfl ?_
        refine s_getR 45 dX12_led_42 rfl fl_X12_53 (fun _ _ _ _ => rfl) (T_X12_inTime hT) sh_138 (Nat.le_of_ble_eq_true rfl) ?_
        refine s_iload 47 dX12_led_45 rfl rfl ?_
        refine s_iald 48 dX12_led_47 rfl sh_152 (Nat.le_of_ble_eq_true rfl) (by omega) (by omega) (fun r_47 => ?_)
        rw [eq] at r_47 ⊢
        refine s_istore (ls' := [_, _, _, _, _, _]) 50 dX12_led_48 rfl (Nat.le_of_ble_eq_true rfl) rfl rfl ?_
        refine s_aload_n 51 dX12_led_50 rfl rfl ?_
        refine s_iload_n 52 dX12_led_51 rfl rfl ?_
        refine s_callV0 (M' := M_X12_onsOfPlayer) (as := [_]) 55 dX12_led_52 rfl cw_X12_345 rfl rfl sh_138 rfl (by decide) (Nat.le_of_ble_eq_true rfl) (Nat.le_of_ble_eq_true rfl) (Nat.le_of_ble_eq_true rfl) (Nat.le_of_ble_eq_true rfl) ⟨rfl, rfl, rfl⟩ ?_
        refine c_X12_onsOfPlayer hT er es hrr (hr hC.1).2.2.2.1 (by omega) ?_
        refine s_iload 57 dX12_led_55 rfl rfl ?_
        refine s_callS0 (M' := M_X12_has) (as := [_, _]) 60 dX12_led_57 rfl cw_X12_278 rfl rfl (Nat.le_of_ble_eq_true rfl) (Nat.le_of_ble_eq_true rfl) (Nat.le_of_ble_eq_true rfl) ⟨rfl, rfl, rfl⟩ ?_
        refine c_X12_has ?_
        refine s_ifb_ne 66 63 dX12_led_60 rfl rfl (fun h_60 => ?_) (fun h_60 => ?_)
        · skip
          refine s_iload_n 67 dX12_led_66 rfl rfl ?_
          refine s_iload_n 68 dX12_led_67 rfl rfl ?_
          refine s_icmp_ne 79 71 dX12_led_68 rfl rfl (by first | omega | exact bI_r _ | exact iI_r _) (by first | omega | exact bI_r _ | exact iI_r _) (fun h_68 => ?_) (fun h_68 => ?_)
          · skip
            refine s_iinc (ls' := [_, _, _, _, _, _]) 82 dX12_led_79 rfl rfl (Nat.le_of_ble_eq_true rfl) rfl rfl ?_
            refine s_iinc (ls' := [_, _, _, _, _, _]) 85 dX12_led_82 rfl rfl (Nat.le_of_ble_eq_true rfl) rfl rfl ?_
            refine s_goto 21 dX12_led_85 rfl ?_
            first | (have hs : Ons r s p (q t) := hO.mp (by assumption)) | (have hs : ¬ Ons r s p (q t) := fun z => absurd (hO.mpr z) (by assumption))
            first | rw [pick_t hs] at s1 | rw [pick_f hs, Int.add_zero] at s1
            rw [← s1]
            refine ih (t + 1) _ (by omega) (by omega) (by omega) (fun j z1 z2 z3 => ?_)
            by_cases ej : j = t
            · rw [ej] at z3 ⊢; first | (exact absurd z3 hs) | (rw [← ej]; rw [ej]; assumption)
            · exact h4 j z1 (by omega) z3
          refine s_aload_n 72 dX12_led_71 rfl rfl ?_
          refine s_iconst 73 dX12_led_72 rfl ?_
          refine s_putI 76 dX12_led_73 rfl fl_X12_81 (fun _ => rfl) (fun _ => rfl) (fun _ _ _ _ => rfl) sh_138 (Nat.le_of_ble_eq_true rfl) (by first | omega | exact bI_r _ | exact iI_r _) ?_
          refine s_iload 78 dX12_led_76 rfl rfl ?_
          refine s_iret dX12_led_78 rfl rfl ?_
          refine h _ 0 _ (hE1 0) (fun _ => LedV_c hsq hq (fun k _ _ => Iff.rfl) (Or.inr ⟨rfl, t, h2, by omega, hO.mp (by assumption), by assumption, rfl⟩)) (fun z => absurd hC z)
        refine s_goto 82 dX12_led_63 rfl ?_
        refine s_iinc (ls' := [_, _, _, _, _, _]) 85 dX12_led_82 rfl rfl (Nat.le_of_ble_eq_true rfl) rfl rfl ?_
        refine s_goto 21 dX12_led_85 rfl ?_
        first | (have hs : Ons r s p (q t) := hO.mp (by assumption)) | (have hs : ¬ Ons r s p (q t) := fun z => absurd (hO.mpr z) (by assumption))
        first | rw [pick_t hs] at s1 | rw [pick_f hs, Int.add_zero] at s1
        rw [← s1]
        refine ih (t + 1) _ (by omega) (by omega) (by omega) (fun j z1 z2 z3 => ?_)
        by_cases ej : j = t
        · rw [ej] at z3 ⊢; first | (exact absurd z3 hs) | (rw [← ej]; rw [ej]; assumption)
        · exact h4 j z1 (by omega) z3
    refine s_iconst 1 dX12_led_0 rfl ?_
    refine s_istore_n (ls' := [_, _, _, _, _, _]) 2 dX12_led_1 rfl (Nat.le_of_ble_eq_true rfl) rfl rfl ?_
    refine s_aload_n 3 dX12_led_2 rfl rfl ?_
    refine s_iload_n 4 dX12_led_3 rfl rfl ?_
    refine s_callV0 (M' := M_X12_isPlayer) (as := [_]) 7 dX12_led_4 rfl cw_X12_348 rfl rfl sh_138 rfl (by decide) (Nat.le_of_ble_eq_true rfl) (Nat.le_of_ble_eq_true rfl) (Nat.le_of_ble_eq_true rfl) (Nat.le_of_ble_eq_true rfl) ⟨rfl, rfl, rfl⟩ ?_
    refine c_X12_isPlayer ehp (by omega) ?_
    refine s_ifb_eq 18 10 dX12_led_7 rfl rfl (fun h_7 => by exfalso; exact absurd hC (by assumption)) (fun h_7 => ?_)
    refine s_aload_n 11 dX12_led_10 rfl rfl ?_
    refine s_aload_n 12 dX12_led_11 rfl rfl ?_
    refine s_getR 15 dX12_led_12 rfl fl_X12_26 (fun _ _ _ _ => rfl) (T_X12_st hT) sh_138 (Nat.le_of_ble_eq_true rfl) ?_
    refine s_callV0 (M' := M_X12_layTime) (as := [_]) 18 dX12_led_15 rfl cw_X12_305 rfl rfl sh_138 rfl (by decide) (Nat.le_of_ble_eq_true rfl) (Nat.le_of_ble_eq_true rfl) (Nat.le_of_ble_eq_true rfl) (Nat.le_of_ble_eq_true rfl) ⟨rfl, rfl, rfl⟩ ?_
    refine c_X12_layTime hT er hrr rfl sh_143 (by decide) (by decide) (by decide) es (hr hC.1).p (fun I1 hL => ?_)
    refine s_iconst 19 dX12_led_18 rfl ?_
    refine s_istore (ls' := [_, _, _, _, _, _]) 21 dX12_led_19 rfl (Nat.le_of_ble_eq_true rfl) rfl rfl ?_
    have l0 := loop (I1 152) I1 ((hL.1 141 (by decide)).trans er) ((hL.1 143 (by decide)).trans es) ((congrFun (hL.1 138 (by decide)) 14).trans ehp) rfl (fun j a b => hL.2.2.2 j a b) (hL.1.mo (by decide)) (r 7 + 1).toNat 0 none (by omega) (by omega) (by omega) (fun j z1 z2 => by omega)
    exact l0
  · skip
    refine s_iconst 1 dX12_led_0 rfl ?_
    refine s_istore_n (ls' := [_, _, _, _, _, _]) 2 dX12_led_1 rfl (Nat.le_of_ble_eq_true rfl) rfl rfl ?_
    refine s_aload_n 3 dX12_led_2 rfl rfl ?_
    refine s_iload_n 4 dX12_led_3 rfl rfl ?_
    refine s_callV0 (M' := M_X12_isPlayer) (as := [_]) 7 dX12_led_4 rfl cw_X12_348 rfl rfl sh_138 rfl (by decide) (Nat.le_of_ble_eq_true rfl) (Nat.le_of_ble_eq_true rfl) (Nat.le_of_ble_eq_true rfl) (Nat.le_of_ble_eq_true rfl) ⟨rfl, rfl, rfl⟩ ?_
    refine c_X12_isPlayer ehp (by omega) ?_
    refine s_ifb_eq 18 10 dX12_led_7 rfl rfl (fun h_7 => ?_) (fun h_7 => by exfalso; exact absurd (by assumption) hC)
    refine s_iconst 19 dX12_led_18 rfl ?_
    refine s_istore (ls' := [_, _, _, _, _, _]) 21 dX12_led_19 rfl (Nat.le_of_ble_eq_true rfl) rfl rfl ?_
    refine s_aload_n 22 dX12_led_21 rfl rfl ?_
    refine s_iload_n 23 dX12_led_22 rfl rfl ?_
    refine s_callV0 (M' := M_X12_isPlayer) (as := [_]) 26 dX12_led_23 rfl cw_X12_348 rfl rfl sh_138 rfl (by decide) (Nat.le_of_ble_eq_true rfl) (Nat.le_of_ble_eq_true rfl) (Nat.le_of_ble_eq_true rfl) (Nat.le_of_ble_eq_true rfl) ⟨rfl, rfl, rfl⟩ ?_
    refine c_X12_isPlayer ehp (by omega) ?_
    refine s_ifb_eq 88 29 dX12_led_26 rfl rfl (fun h_26 => ?_) (fun h_26 => by exfalso; exact absurd (by assumption) hC)
    refine s_aload_n 89 dX12_led_88 rfl rfl ?_
    refine s_iconst 90 dX12_led_89 rfl ?_
    refine s_putI 93 dX12_led_90 rfl fl_X12_81 (fun _ => rfl) (fun _ => rfl) (fun _ _ _ _ => rfl) sh_138 (Nat.le_of_ble_eq_true rfl) (by first | omega | exact bI_r _ | exact iI_r _) ?_
    refine s_iconst 94 dX12_led_93 rfl ?_
    refine s_iret dX12_led_94 rfl rfl ?_
    exact h 0 1 _ Eqo.rf (fun z => absurd z hC) (fun _ => ⟨rfl, rfl⟩)
