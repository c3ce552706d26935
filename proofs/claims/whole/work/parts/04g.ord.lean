/-! ORDERS by the reference -/
theorem set_ne0 {x : Int} (hx : -2147483648 ≤ x ∧ x ≤ 2147483647) : x ≠ 0 ↔ ∃ k, 0 ≤ k ∧ k < 32 ∧ hasI x k := by
  constructor
  · intro h
    apply Classical.byContradiction
    intro hn
    exact h (set_ext hx (by omega) (fun k a b => ⟨fun z => absurd ⟨k, a, b, z⟩ hn, fun z => absurd z (has_0 ⟨a, b⟩)⟩))
  · rintro ⟨k, a, b, c⟩ e
    subst e
    exact has_0 ⟨a, b⟩ c
/-- each scene behind those that come ahead of it -/
def OrdP (r : F1) (sc : F1) : Prop := ∀ i, 0 ≤ i → i < r 5 → ∀ s, 0 ≤ s → s < 32 → hasI (r (49 + sc i)) s → ∃ j, 0 ≤ j ∧ j < i ∧ sc j = s
theorem OrdP_c {r sc sc' : F1} (h : ∀ i, 0 ≤ i → i < r 5 → sc i = sc' i) : OrdP r sc ↔ OrdP r sc' := by
  constructor
  · intro z i a b s c d e
    rw [← h i a b] at e
    obtain ⟨j, j1, j2, j3⟩ := z i a b s c d e
    exact ⟨j, j1, j2, by rw [← h j j1 (by omega)]; exact j3⟩
  · intro z i a b s c d e
    rw [h i a b] at e
    obtain ⟨j, j1, j2, j3⟩ := z i a b s c d e
    exact ⟨j, j1, j2, by rw [h j j1 (by omega)]; exact j3⟩
set_option maxHeartbeats 4000000 in
theorem c_X12_isOrder {E : ET} {I : MI} {L : ML} {R : MR} {Q : Option AV → MI → ML → MR → Prop} {r sc : F1} {c nc : Nat} (hT : Topo R) (er : I 141 = r) (hr : WFr r) (hcs : sh c = (20, nc)) (hnc : 5 ≤ nc ∧ nc ≤ 13) (hc : c < 161) (esc : I c = sc) (hs : ∀ i, 0 ≤ i → i < r 5 → 0 ≤ sc i ∧ sc i < 5) (h : Q (some (vi (bI (OrdP r sc)))) I L R) : CT E M_X12_isOrder 161 yX12_isOrder [(vr (138)), (vr (c))] I L R Q := by
  refine CT_of rfl rfl (fun h => by cases h) (Nat.le_of_ble_eq_true rfl) (fun X => ?_)
  show V X _ z0 0 [some (vr (138)), some (vr (c)), none, none] [] I L R _
  have e0 := hr.1
  have loop : ∀ (f : Nat) (i come : Int), r 5 - i < (f : Int) → 0 ≤ i → i ≤ r 5 → (∀ k, 0 ≤ k → k < i → ∀ s, 0 ≤ s → s < 32 → hasI (r (49 + sc k)) s → ∃ j, 0 ≤ j ∧ j < k ∧ sc j = s) → (∀ s, 0 ≤ s → s < 32 → (hasI come s ↔ ∃ j, 0 ≤ j ∧ j < i ∧ sc j = s)) → V X M_X12_isOrder z0 4 [some (vr (138)), some (vr (c)), some (vi (come)), some (vi (i))] [] (I) L R (RT X M_X12_isOrder Q) := by
    intro f
    induction f with
    | zero => intro i come h1 h2 h3; omega
    | succ f ih =>
      intro i come h1 h2 h3 h4 h5
      refine s_iload_n 5 dX12_isOrder_4 rfl rfl ?_
      refine s_aload_n 6 dX12_isOrder_5 rfl rfl ?_
      refine s_getR 9 dX12_isOrder_6 rfl fl_X12_20 (fun _ _ _ _ => rfl) (T_X12_r hT) sh_138 (Nat.le_of_ble_eq_true rfl) ?_
      refine s_iconst 10 dX12_isOrder_9 rfl ?_
      refine s_iald 11 dX12_isOrder_10 rfl sh_141 (Nat.le_of_ble_eq_true rfl) (by omega) (by omega) (fun r_10 => ?_)
      rw [er] at r_10 ⊢
      refine s_icmp_ge 48 14 dX12_isOrder_11 rfl rfl (by first | omega | exact bI_r _ | exact iI_r _) (by first | omega | exact bI_r _ | exact iI_r _) (fun h_11 => ?_) (fun h_11 => ?_)
      · skip
        refine s_iconst 49 dX12_isOrder_48 rfl ?_
        refine s_zret dX12_isOrder_49 rfl (by first | omega | exact bI_b _) rfl ?_
        have ei : i = r 5 := by omega
        subst ei
        exact ret_t (fun k a b => h4 k a b) h
      skip
      have e1 := hs i h2 (by omega)
      have e2 := hr.2.2.1 (sc i) e1.1 e1.2
      have hz := set_ne0 (iand_r (r (49 + sc i)) (ixor come (-1)))
      have next34 : (∀ s, 0 ≤ s → s < 32 → hasI (r (49 + sc i)) s → ∃ j, 0 ≤ j ∧ j < i ∧ sc j = s) → V X M_X12_isOrder z0 34 [some (vr (138)), some (vr (c)), some (vi (come)), some (vi (i))] [] (I) L R (RT X M_X12_isOrder Q) := by
        intro hi
        have es : I c i = sc i := by rw [esc]
        refine s_iload_n 35 dX12_isOrder_34 rfl rfl ?_
        refine s_iconst 36 dX12_isOrder_35 rfl ?_
        refine s_aload_n 37 dX12_isOrder_36 rfl rfl ?_
        refine s_iload_n 38 dX12_isOrder_37 rfl rfl ?_
        refine s_iald 39 dX12_isOrder_38 rfl (by assumption) (by assumption) (by omega) (by omega) (fun r_38 => ?_)
        rw [esc] at r_38 ⊢
        refine s_ishl 40 dX12_isOrder_39 rfl ?_
        refine s_ior 41 dX12_isOrder_40 rfl ?_
        refine s_istore_n (ls' := [_, _, _, _]) 42 dX12_isOrder_41 rfl (Nat.le_of_ble_eq_true rfl) rfl rfl ?_
        refine s_iinc (ls' := [_, _, _, _]) 45 dX12_isOrder_42 rfl rfl (Nat.le_of_ble_eq_true rfl) rfl rfl ?_
        refine s_goto 4 dX12_isOrder_45 rfl ?_
        refine ih (i + 1) _ (by omega) (by omega) (by omega) (fun k a b => ?_) (fun s a b => ?_)
        · by_cases ek : k = i
          · subst ek; exact hi
          · exact h4 k a (by omega)
        · rw [has_or ⟨a, b⟩, h5 s a b, has_shl (by omega) ⟨a, b⟩]
          constructor
          · rintro (⟨j, j1, j2, j3⟩ | e)
            · exact ⟨j, j1, by omega, j3⟩
            · exact ⟨i, h2, by omega, e.symm⟩
          · rintro ⟨j, j1, j2, j3⟩
            by_cases ej : j = i
            · subst ej; exact Or.inr j3.symm
            · exact Or.inl ⟨j, j1, by omega, j3⟩
      have es : I c i = sc i := by rw [esc]
      refine s_aload_n 15 dX12_isOrder_14 rfl rfl ?_
      refine s_getR 18 dX12_isOrder_15 rfl fl_X12_20 (fun _ _ _ _ => rfl) (T_X12_r hT) sh_138 (Nat.le_of_ble_eq_true rfl) ?_
      refine s_bipush 20 dX12_isOrder_18 rfl (by decide) ?_
      refine s_aload_n 21 dX12_isOrder_20 rfl rfl ?_
      refine s_iload_n 22 dX12_isOrder_21 rfl rfl ?_
      refine s_iald 23 dX12_isOrder_22 rfl (by assumption) (by assumption) (by omega) (by omega) (fun r_22 => ?_)
      rw [esc] at r_22 ⊢
      refine s_iadd 24 dX12_isOrder_23 rfl ?_
      refine s_iald 25 dX12_isOrder_24 rfl sh_141 (Nat.le_of_ble_eq_true rfl) (by omega) (by omega) (fun r_24 => ?_)
      rw [er] at r_24 ⊢
      refine s_iload_n 26 dX12_isOrder_25 rfl rfl ?_
      refine s_iconst 27 dX12_isOrder_26 rfl ?_
      refine s_ixor 28 dX12_isOrder_27 rfl ?_
      refine s_iand 29 dX12_isOrder_28 rfl ?_
      refine s_if_eq 34 32 dX12_isOrder_29 rfl rfl (by first | omega | exact bI_r _ | exact iI_r _) (fun h_29 => ?_) (fun h_29 => ?_)
      · skip
        have hle : ∀ s, 0 ≤ s → s < 32 → hasI (r (49 + sc i)) s → hasI come s := fun s a b z => Classical.byContradiction (fun q => (hz.mpr ⟨s, a, b, (has_andn ⟨a, b⟩).mpr ⟨z, q⟩⟩) (by assumption))
        refine next34 (fun s a b z => (h5 s a b).mp (hle s a b z))
      refine s_iconst 33 dX12_isOrder_32 rfl ?_
      refine s_zret dX12_isOrder_33 rfl (by first | omega | exact bI_b _) rfl ?_
      refine ret_f (fun z => ?_) h
      obtain ⟨s, a, b, d⟩ := hz.mp (by assumption)
      rw [has_andn ⟨a, b⟩] at d
      exact d.2 ((h5 s a b).mpr (z i h2 (by omega) s a b d.1))
  refine s_iconst 1 dX12_isOrder_0 rfl ?_
  refine s_istore_n (ls' := [_, _, _, _]) 2 dX12_isOrder_1 rfl (Nat.le_of_ble_eq_true rfl) rfl rfl ?_
  refine s_iconst 3 dX12_isOrder_2 rfl ?_
  refine s_istore_n (ls' := [_, _, _, _]) 4 dX12_isOrder_3 rfl (Nat.le_of_ble_eq_true rfl) rfl rfl ?_
  refine loop (r 5 + 1).toNat 0 0 (by omega) (by omega) (by omega) (fun k a b => by omega) (fun s a b => ⟨fun z => absurd z (has_0 ⟨a, b⟩), fun ⟨j, c, d, _⟩ => by omega⟩)
def tnF (v : F1) (i j : Int) : F1 := fun k => if k = j then v i else if k = i then v j else v k
set_option maxHeartbeats 4000000 in
theorem c_X12_turn {E : ET} {I : MI} {L : ML} {R : MR} {Q : Option AV → MI → ML → MR → Prop} {v : F1} {i j : Int} (hT : Topo R) (ev : I 148 = v) (hi : 0 ≤ i ∧ i < 5) (hj : 0 ≤ j ∧ j < 5) (h : ∀ I', Eqo [148] I I' → I' 148 = tnF v i j → Q none I' L R) : CT E M_X12_turn 161 yX12_turn [(vr (138)), (vi (i)), (vi (j))] I L R Q := by
  refine CT_of rfl rfl (fun h => by cases h) (Nat.le_of_ble_eq_true rfl) (fun X => ?_)
  show V X _ z0 0 [some (vr (138)), some (vi (i)), some (vi (j)), none] [] I L R _
  refine s_aload_n 1 dX12_turn_0 rfl rfl ?_
  refine s_getR 4 dX12_turn_1 rfl fl_X12_41 (fun _ _ _ _ => rfl) (T_X12_row hT) sh_138 (Nat.le_of_ble_eq_true rfl) ?_
  refine s_iload_n 5 dX12_turn_4 rfl rfl ?_
  refine s_iald 6 dX12_turn_5 rfl sh_148 (Nat.le_of_ble_eq_true rfl) (by omega) (by omega) (fun r_5 => ?_)
  rw [ev] at r_5 ⊢
  refine s_istore_n (ls' := [_, _, _, _]) 7 dX12_turn_6 rfl (Nat.le_of_ble_eq_true rfl) rfl rfl ?_
  refine s_aload_n 8 dX12_turn_7 rfl rfl ?_
  refine s_getR 11 dX12_turn_8 rfl fl_X12_41 (fun _ _ _ _ => rfl) (T_X12_row hT) sh_138 (Nat.le_of_ble_eq_true rfl) ?_
  refine s_iload_n 12 dX12_turn_11 rfl rfl ?_
  refine s_aload_n 13 dX12_turn_12 rfl rfl ?_
  refine s_getR 16 dX12_turn_13 rfl fl_X12_41 (fun _ _ _ _ => rfl) (T_X12_row hT) sh_138 (Nat.le_of_ble_eq_true rfl) ?_
  refine s_iload_n 17 dX12_turn_16 rfl rfl ?_
  refine s_iald 18 dX12_turn_17 rfl sh_148 (Nat.le_of_ble_eq_true rfl) (by omega) (by omega) (fun r_17 => ?_)
  rw [ev] at r_17 ⊢
  refine s_iast 19 dX12_turn_18 rfl sh_148 (Nat.le_of_ble_eq_true rfl) (by omega) (by omega) (by first | omega | exact bI_r _ | exact iI_r _) ?_
  refine s_aload_n 20 dX12_turn_19 rfl rfl ?_
  refine s_getR 23 dX12_turn_20 rfl fl_X12_41 (fun _ _ _ _ => rfl) (T_X12_row hT) sh_138 (Nat.le_of_ble_eq_true rfl) ?_
  refine s_iload_n 24 dX12_turn_23 rfl rfl ?_
  refine s_iload_n 25 dX12_turn_24 rfl rfl ?_
  refine s_iast 26 dX12_turn_25 rfl sh_148 (Nat.le_of_ble_eq_true rfl) (by omega) (by omega) (by first | omega | exact bI_r _ | exact iI_r _) ?_
  refine s_vret dX12_turn_26 rfl rfl ?_
  refine h _ ((Eqo.rf.st (by decide)).st (by decide)) (funext fun k => ?_)
  rw [upd9, upd9, ev]
  rfl
/-- the last place that rises (its number and 1; 0: none); the last one that isn't below -/
def asF (v : F1) : Nat → Nat
  | 0 => 0
  | p + 1 => if v p > v ((p + 1 : Nat) : Int) then asF v p else p + 1
def jF (v : F1) (x : Int) : Nat → Nat
  | 0 => 0
  | j + 1 => if v ((j + 1 : Nat) : Int) < x then jF v x j else j + 1
def nrN (v : F1) (n : Int) : F1 := fun k =>
  let i : Int := (asF v (n - 1).toNat : Nat) - 1
  let j : Int := (jF v (v i) (n - 1).toNat : Nat)
  if k ≤ i then tnF v i j k else tnF v i j (i + n - k)
theorem nrN_v {v : F1} {n i j k : Int} (hi : i = ((asF v (n - 1).toNat : Nat) : Int) - 1) (hj : j = (jF v (v i) (n - 1).toNat : Nat)) : nrN v n k = if k ≤ i then tnF v i j k else tnF v i j (i + n - k) := by
  subst hi
  subst hj
  rfl
set_option maxHeartbeats 4000000 in
theorem c_X12_nextRow {E : ET} {I : MI} {L : ML} {R : MR} {Q : Option AV → MI → ML → MR → Prop} {r v : F1} (hT : Topo R) (er : I 141 = r) (ev : I 148 = v) (hr : WFr r) (hv : ∀ i, 0 ≤ i → i < r 5 → 0 ≤ v i ∧ v i < 5) (h : (asF v (r 5 - 1).toNat = 0 → Q (some (vi (bI False))) I L R) ∧ (asF v (r 5 - 1).toNat ≠ 0 → ∀ I', Eqo [148] I I' → (∀ k, 0 ≤ k → k < r 5 → I' 148 k = nrN v (r 5) k) → Q (some (vi (bI True))) I' L R)) : CT E M_X12_nextRow 161 yX12_nextRow [(vr (138))] I L R Q := by
  refine CT_of rfl rfl (fun h => by cases h) (Nat.le_of_ble_eq_true rfl) (fun X => ?_)
  show V X _ z0 0 [some (vr (138)), none, none, none, none, none] [] I L R _
  have e0 := hr.1
  -- the end of the turn about
  have loopC : ∀ (f : Nat) (i j lo hi : Int) (w : F1) (I1 : MI), hi - lo < (f : Int) → asF v (r 5 - 1).toNat = (i + 1).toNat → j = (jF v (v i) (r 5 - 1).toNat : Nat) → w = tnF v i j → (∀ k, 0 ≤ k → k < r 5 → 0 ≤ w k ∧ w k < 5) → 0 ≤ i → i < lo → lo ≤ hi + 1 → hi < r 5 → lo + hi = i + r 5 → Eqo [148] I I1 → (∀ k, 0 ≤ k → k < r 5 → I1 148 k = if k ≤ i then w k else if k < lo ∨ hi < k then w (i + r 5 - k) else w k) →
      V X M_X12_nextRow z0 85 [some (vr (138)), some (vi (r 5)), some (vi (i)), some (vi (j)), some (vi (lo)), some (vi (hi))] [] (I1) L R (RT X M_X12_nextRow Q) := by
    intro f
    induction f with
    | zero =>
      intro i j lo hi w I1 k1 ka kj kw kwb ki k2 k3 k4 k5 k6 k7
      refine s_iload 87 dX12_nextRow_85 rfl rfl ?_
      refine s_iload 89 dX12_nextRow_87 rfl rfl ?_
      refine s_icmp_ge 109 92 dX12_nextRow_89 rfl rfl (by first | omega | exact bI_r _ | exact iI_r _) (by first | omega | exact bI_r _ | exact iI_r _) (fun h_89 => ?_) (fun h_89 => by exfalso; omega)
      refine s_iconst 110 dX12_nextRow_109 rfl ?_
      refine s_zret dX12_nextRow_110 rfl (by first | omega | exact bI_b _) rfl ?_
      refine ret_t (b := True) trivial (h.2 (by omega) I1 k6 (fun k a b => ?_))
      rw [k7 k a b]
      rw [nrN_v (i := i) (j := j) (by omega) kj, ← kw]
      split
      · rfl
      · split
        · rfl
        · rw [show i + r 5 - k = k by omega]
    | succ f ih =>
      intro i j lo hi w I1 k1 ka kj kw kwb ki k2 k3 k4 k5 k6 k7
      refine s_iload 87 dX12_nextRow_85 rfl rfl ?_
      refine s_iload 89 dX12_nextRow_87 rfl rfl ?_
      refine s_icmp_ge 109 92 dX12_nextRow_89 rfl rfl (by first | omega | exact bI_r _ | exact iI_r _) (by first | omega | exact bI_r _ | exact iI_r _) (fun h_89 => ?_) (fun h_89 => ?_)
      · skip
        refine s_iconst 110 dX12_nextRow_109 rfl ?_
        refine s_zret dX12_nextRow_110 rfl (by first | omega | exact bI_b _) rfl ?_
        refine ret_t (b := True) trivial (h.2 (by omega) I1 k6 (fun k a b => ?_))
        rw [k7 k a b]
        rw [nrN_v (i := i) (j := j) (by omega) kj, ← kw]
        split
        · rfl
        · split
          · rfl
          · rw [show i + r 5 - k = k by omega]
      skip
      have q1 := k7 lo (by omega) (by omega)
      have q2 := k7 hi (by omega) (by omega)
      rw [if_neg (by omega), if_neg (by omega)] at q1 q2
      refine s_aload_n 93 dX12_nextRow_92 rfl rfl ?_
      refine s_iload 95 dX12_nextRow_93 rfl rfl ?_
      refine s_iload 97 dX12_nextRow_95 rfl rfl ?_
      refine s_callV0 (M' := M_X12_turn) (as := [_, _]) 100 dX12_nextRow_97 rfl cw_X12_296 rfl rfl sh_138 rfl (by decide) (Nat.le_of_ble_eq_true rfl) (Nat.le_of_ble_eq_true rfl) (Nat.le_of_ble_eq_true rfl) (Nat.le_of_ble_eq_true rfl) ⟨rfl, rfl, rfl⟩ ?_
      refine c_X12_turn hT rfl (by omega) (by omega) (fun I2 g1 g2 => ?_)
      refine s_iinc (ls' := [_, _, _, _, _, _]) 103 dX12_nextRow_100 rfl rfl (Nat.le_of_ble_eq_true rfl) rfl rfl ?_
      refine s_iinc (ls' := [_, _, _, _, _, _]) 106 dX12_nextRow_103 rfl rfl (Nat.le_of_ble_eq_true rfl) rfl rfl ?_
      refine s_goto 85 dX12_nextRow_106 rfl ?_
      refine ih i j (lo + 1) (hi + -1) w I2 (by omega) ka kj kw kwb ki (by omega) (by omega) (by omega) (by omega) (k6.tr g1) (fun k a b => ?_)
      rw [g2]
      unfold tnF
      by_cases e1 : k = hi
      · rw [if_pos e1, q1, if_neg (by omega), if_pos (by omega), show i + r 5 - k = lo by omega]
      · rw [if_neg e1]
        by_cases e2 : k = lo
        · rw [if_pos e2, q2, if_neg (by omega), if_pos (by omega), show i + r 5 - k = hi by omega]
        · rw [if_neg e2, k7 k a b]
          split
          · rfl
          · by_cases e3 : k < lo ∨ hi < k
            · rw [if_pos e3, if_pos (by omega)]
            · rw [if_neg e3, if_neg (by omega)]
  have loopB : ∀ (f : Nat) (i j : Int), j < (f : Int) → 0 ≤ i → asF v (r 5 - 1).toNat = (i + 1).toNat → v i ≤ v (i + 1) → i < j → j < r 5 → jF v (v i) (r 5 - 1).toNat = jF v (v i) j.toNat → V X M_X12_nextRow z0 48 [some (vr (138)), some (vi (r 5)), some (vi (i)), some (vi (j)), none, none] [] (I) L R (RT X M_X12_nextRow Q) := by
    intro f
    induction f with
    | zero => intro i j k1 k2 k3 k4 k5; omega
    | succ f ih =>
      intro i j k1 k2 k3 k4 k5 k6 k7
      have e1 := hv i k2 (by omega)
      have e2 := hv j (by omega) k6
      have ej : jF v (v i) j.toNat = if v j < v i then jF v (v i) (j - 1).toNat else j.toNat := by
        rw [show j.toNat = (j - 1).toNat + 1 by omega]
        show (if v (((j - 1).toNat + 1 : Nat) : Int) < _ then _ else _) = _
        rw [show (((j - 1).toNat + 1 : Nat) : Int) = j by omega]
      refine s_aload_n 49 dX12_nextRow_48 rfl rfl ?_
      refine s_getR 52 dX12_nextRow_49 rfl fl_X12_41 (fun _ _ _ _ => rfl) (T_X12_row hT) sh_138 (Nat.le_of_ble_eq_true rfl) ?_
      refine s_iload_n 53 dX12_nextRow_52 rfl rfl ?_
      refine s_iald 54 dX12_nextRow_53 rfl sh_148 (Nat.le_of_ble_eq_true rfl) (by omega) (by omega) (fun r_53 => ?_)
      rw [ev] at r_53 ⊢
      refine s_aload_n 55 dX12_nextRow_54 rfl rfl ?_
      refine s_getR 58 dX12_nextRow_55 rfl fl_X12_41 (fun _ _ _ _ => rfl) (T_X12_row hT) sh_138 (Nat.le_of_ble_eq_true rfl) ?_
      refine s_iload_n 59 dX12_nextRow_58 rfl rfl ?_
      refine s_iald 60 dX12_nextRow_59 rfl sh_148 (Nat.le_of_ble_eq_true rfl) (by omega) (by omega) (fun r_59 => ?_)
      rw [ev] at r_59 ⊢
      refine s_icmp_ge 69 63 dX12_nextRow_60 rfl rfl (by first | omega | exact bI_r _ | exact iI_r _) (by first | omega | exact bI_r _ | exact iI_r _) (fun h_60 => ?_) (fun h_60 => ?_)
      rotate_left
      · skip
        refine s_iinc (ls' := [_, _, _, _, _, _]) 66 dX12_nextRow_63 rfl rfl (Nat.le_of_ble_eq_true rfl) rfl rfl ?_
        refine s_goto 48 dX12_nextRow_66 rfl ?_
        have hlt : i + 1 < j := by
          rcases Int.lt_trichotomy (i + 1) j with z | z | z
          · exact z
          · rw [z] at k4; omega
          · omega
        refine ih i (j + -1) (by omega) k2 k3 k4 (by omega) (by omega) ?_
        rw [k7, ej, if_pos (by omega), show j + -1 = j - 1 by omega]
      skip
      rw [ej, if_neg (by omega)] at k7
      have kj : j = (jF v (v i) (r 5 - 1).toNat : Nat) := by omega
      have wb : ∀ k, 0 ≤ k → k < r 5 → 0 ≤ tnF v i j k ∧ tnF v i j k < 5 := fun k a b => by
        have := hv k a b
        unfold tnF
        split
        · exact e1
        · split
          · exact e2
          · exact this
      refine s_aload_n 70 dX12_nextRow_69 rfl rfl ?_
      refine s_iload_n 71 dX12_nextRow_70 rfl rfl ?_
      refine s_iload_n 72 dX12_nextRow_71 rfl rfl ?_
      refine s_callV0 (M' := M_X12_turn) (as := [_, _]) 75 dX12_nextRow_72 rfl cw_X12_296 rfl rfl sh_138 rfl (by decide) (Nat.le_of_ble_eq_true rfl) (Nat.le_of_ble_eq_true rfl) (Nat.le_of_ble_eq_true rfl) (Nat.le_of_ble_eq_true rfl) ⟨rfl, rfl, rfl⟩ ?_
      refine c_X12_turn hT ev (by omega) (by omega) (fun I2 g1 g2 => ?_)
      refine s_iload_n 76 dX12_nextRow_75 rfl rfl ?_
      refine s_iconst 77 dX12_nextRow_76 rfl ?_
      refine s_iadd 78 dX12_nextRow_77 rfl ?_
      refine s_istore (ls' := [_, _, _, _, _, _]) 80 dX12_nextRow_78 rfl (Nat.le_of_ble_eq_true rfl) rfl rfl ?_
      refine s_iload_n 81 dX12_nextRow_80 rfl rfl ?_
      refine s_iconst 82 dX12_nextRow_81 rfl ?_
      refine s_isub 83 dX12_nextRow_82 rfl ?_
      refine s_istore (ls' := [_, _, _, _, _, _]) 85 dX12_nextRow_83 rfl (Nat.le_of_ble_eq_true rfl) rfl rfl ?_
      refine loopC (r 5).toNat i j (i + 1) (r 5 - 1) (tnF v i j) I2 (by omega) k3 kj rfl wb k2 (by omega) (by omega) (by omega) (by omega) g1 (fun k a b => ?_)
      rw [g2]
      split
      · rfl
      · rw [if_neg (by omega)]
  have fin38 : ∀ p : Int, 0 < p → p ≤ r 5 - 1 → asF v (r 5 - 1).toNat = p.toNat → v (p - 1) ≤ v p → V X M_X12_nextRow z0 38 [some (vr (138)), some (vi (r 5)), some (vi (p - 1)), none, none, none] [] (I) L R (RT X M_X12_nextRow Q) := by
    intro p hp0 h3 hp hle
    refine s_iload_n 39 dX12_nextRow_38 rfl rfl ?_
    refine s_if_ge 44 42 dX12_nextRow_39 rfl rfl (by first | omega | exact bI_r _ | exact iI_r _) (fun h_39 => ?_) (fun h_39 => by exfalso; omega)
    refine s_iload_n 45 dX12_nextRow_44 rfl rfl ?_
    refine s_iconst 46 dX12_nextRow_45 rfl ?_
    refine s_isub 47 dX12_nextRow_46 rfl ?_
    refine s_istore_n (ls' := [_, _, _, _, _, _]) 48 dX12_nextRow_47 rfl (Nat.le_of_ble_eq_true rfl) rfl rfl ?_
    exact loopB (r 5).toNat (p - 1) (r 5 - 1) (by omega) (by omega) (by rw [hp, show p - 1 + 1 = p by omega]) (by rw [show p - 1 + 1 = p by omega]; exact hle) (by omega) (by omega) rfl
  have loopA : ∀ (f : Nat) (p : Int), p < (f : Int) → 0 ≤ p → p ≤ r 5 - 1 → asF v (r 5 - 1).toNat = asF v p.toNat → V X M_X12_nextRow z0 11 [some (vr (138)), some (vi (r 5)), some (vi (p - 1)), none, none, none] [] (I) L R (RT X M_X12_nextRow Q) := by
    intro f
    induction f with
    | zero => intro p h1 h2; omega
    | succ f ih =>
      intro p h1 h2 h3 h4
      by_cases hp0 : p = 0
      · subst hp0
        refine s_iload_n 12 dX12_nextRow_11 rfl rfl ?_
        refine s_if_lt 38 15 dX12_nextRow_12 rfl rfl (by first | omega | exact bI_r _ | exact iI_r _) (fun h_12 => ?_) (fun h_12 => by exfalso; omega)
        refine s_iload_n 39 dX12_nextRow_38 rfl rfl ?_
        refine s_if_ge 44 42 dX12_nextRow_39 rfl rfl (by first | omega | exact bI_r _ | exact iI_r _) (fun h_39 => by exfalso; omega) (fun h_39 => ?_)
        refine s_iconst 43 dX12_nextRow_42 rfl ?_
        refine s_zret dX12_nextRow_43 rfl (by first | omega | exact bI_b _) rfl ?_
        exact ret_f (b := False) id (h.1 h4)
      · have e1 := hv (p - 1) (by omega) (by omega)
        have e2 := hv p (by omega) (by omega)
        have ea : asF v p.toNat = if v (p - 1) > v p then asF v (p - 1).toNat else p.toNat := by
          rw [show p.toNat = (p - 1).toNat + 1 by omega]
          show (if v (((p - 1).toNat : Nat) : Int) > v (((p - 1).toNat + 1 : Nat) : Int) then _ else _) = _
          rw [show (((p - 1).toNat + 1 : Nat) : Int) = p by omega, show (((p - 1).toNat : Nat) : Int) = p - 1 by omega]
        have ep : p - 1 + 1 = p := by omega
        refine s_iload_n 12 dX12_nextRow_11 rfl rfl ?_
        refine s_if_lt 38 15 dX12_nextRow_12 rfl rfl (by first | omega | exact bI_r _ | exact iI_r _) (fun h_12 => by exfalso; omega) (fun h_12 => ?_)
        refine s_aload_n 16 dX12_nextRow_15 rfl rfl ?_
        refine s_getR 19 dX12_nextRow_16 rfl fl_X12_41 (fun _ _ _ _ => rfl) (T_X12_row hT) sh_138 (Nat.le_of_ble_eq_true rfl) ?_
        refine s_iload_n 20 dX12_nextRow_19 rfl rfl ?_
        refine s_iald 21 dX12_nextRow_20 rfl sh_148 (Nat.le_of_ble_eq_true rfl) (by omega) (by omega) (fun r_20 => ?_)
        rw [ev] at r_20 ⊢
        refine s_aload_n 22 dX12_nextRow_21 rfl rfl ?_
        refine s_getR 25 dX12_nextRow_22 rfl fl_X12_41 (fun _ _ _ _ => rfl) (T_X12_row hT) sh_138 (Nat.le_of_ble_eq_true rfl) ?_
        refine s_iload_n 26 dX12_nextRow_25 rfl rfl ?_
        refine s_iconst 27 dX12_nextRow_26 rfl ?_
        refine s_iadd 28 dX12_nextRow_27 rfl ?_
        refine s_iald 29 dX12_nextRow_28 rfl sh_148 (Nat.le_of_ble_eq_true rfl) (by omega) (by omega) (fun r_28 => ?_)
        rw [ev] at r_28 ⊢
        refine s_icmp_le 38 32 dX12_nextRow_29 rfl rfl (by first | omega | exact bI_r _ | exact iI_r _) (by first | omega | exact bI_r _ | exact iI_r _) (fun h_29 => ?_) (fun h_29 => ?_)
        · skip
          rw [ep] at *
          rw [ea, if_neg (by omega)] at h4
          exact fin38 p (by omega) (by omega) h4 (by omega)
        skip
        rw [ep] at *
        rw [ea, if_pos (by omega)] at h4
        refine s_iinc (ls' := [_, _, _, _, _, _]) 35 dX12_nextRow_32 rfl rfl (Nat.le_of_ble_eq_true rfl) rfl rfl ?_
        refine s_goto 11 dX12_nextRow_35 rfl ?_
        rw [show p - 1 + -1 = p - 1 - 1 by omega]
        exact ih (p - 1) (by omega) (by omega) (by omega) h4
  refine s_aload_n 1 dX12_nextRow_0 rfl rfl ?_
  refine s_getR 4 dX12_nextRow_1 rfl fl_X12_20 (fun _ _ _ _ => rfl) (T_X12_r hT) sh_138 (Nat.le_of_ble_eq_true rfl) ?_
  refine s_iconst 5 dX12_nextRow_4 rfl ?_
  refine s_iald 6 dX12_nextRow_5 rfl sh_141 (Nat.le_of_ble_eq_true rfl) (by omega) (by omega) (fun r_5 => ?_)
  rw [er] at r_5 ⊢
  refine s_istore_n (ls' := [_, _, _, _, _, _]) 7 dX12_nextRow_6 rfl (Nat.le_of_ble_eq_true rfl) rfl rfl ?_
  refine s_iload_n 8 dX12_nextRow_7 rfl rfl ?_
  refine s_iconst 9 dX12_nextRow_8 rfl ?_
  refine s_isub 10 dX12_nextRow_9 rfl ?_
  refine s_istore_n (ls' := [_, _, _, _, _, _]) 11 dX12_nextRow_10 rfl (Nat.le_of_ble_eq_true rfl) rfl rfl ?_
  have := loopA (r 5).toNat (r 5 - 1) (by omega) (by omega) (by omega) rfl
  rw [show r 5 - 1 - 1 = r 5 - 2 by omega] at this
  exact this
