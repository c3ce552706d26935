/-! the fewest swaps, by the reference: orders one swap apart, nearest first -/
def cdF (v : F1) : Nat → Int
  | 0 => 0
  | i + 1 => 5 * cdF v i + v i
theorem cdF_b {v : F1} : ∀ {n : Nat} (_ : n ≤ 5) (_ : ∀ k : Int, 0 ≤ k → k < n → 0 ≤ v k ∧ v k < 5), 0 ≤ cdF v n ∧ cdF v n < 5 ^ n
  | 0, _, _ => by simp [cdF]
  | n + 1, hn, h => by
    have h1 := cdF_b (v := v) (n := n) (by omega) (fun k a b => h k a (by omega))
    have h2 := h n (by omega) (by omega)
    have e : (5 : Int) ^ (n + 1) = 5 ^ n * 5 := Int.pow_succ 5 n
    unfold cdF
    omega
theorem cdF_3125 {v : F1} {n : Nat} (hn : n ≤ 5) (h : ∀ k : Int, 0 ≤ k → k < n → 0 ≤ v k ∧ v k < 5) : 0 ≤ cdF v n ∧ cdF v n < 3125 := by
  have h1 := cdF_b hn h
  have hc : n = 0 ∨ n = 1 ∨ n = 2 ∨ n = 3 ∨ n = 4 ∨ n = 5 := by omega
  rcases hc with rfl | rfl | rfl | rfl | rfl | rfl <;> omega
theorem cdF_c {v w : F1} : ∀ {n : Nat} (_ : ∀ k : Int, 0 ≤ k → k < n → v k = w k), cdF v n = cdF w n
  | 0, _ => rfl
  | n + 1, h => by
    unfold cdF
    rw [cdF_c (n := n) (fun k a b => h k a (by omega)), h n (by omega) (by omega)]
theorem cdF_inj {v w : F1} : ∀ {n : Nat} (_ : ∀ k : Int, 0 ≤ k → k < n → 0 ≤ v k ∧ v k < 5) (_ : ∀ k : Int, 0 ≤ k → k < n → 0 ≤ w k ∧ w k < 5) (_ : cdF v n = cdF w n), ∀ k : Int, 0 ≤ k → k < n → v k = w k
  | 0, _, _, _, k, a, b => by omega
  | n + 1, hv, hw, h, k, a, b => by
    have h1 := hv n (by omega) (by omega)
    have h2 := hw n (by omega) (by omega)
    unfold cdF at h
    by_cases ek : k = n
    · subst ek; omega
    · exact cdF_inj (n := n) (fun k a b => hv k a (by omega)) (fun k a b => hw k a (by omega)) (by omega) k a (by omega)
theorem cdF_s {v : F1} {i : Int} (h : 0 ≤ i) : cdF v (i + 1).toNat = 5 * cdF v i.toNat + v i := by
  rw [show (i + 1).toNat = i.toNat + 1 by omega]
  show 5 * cdF v i.toNat + v (i.toNat : Nat) = _
  rw [show ((i.toNat : Nat) : Int) = i by omega]
set_option maxHeartbeats 4000000 in
theorem c_X12_codeOf {E : ET} {I : MI} {L : ML} {R : MR} {Q : Option AV → MI → ML → MR → Prop} {r sc : F1} {c nc : Nat} (hT : Topo R) (er : I 141 = r) (hr : WFr r) (hcs : sh c = (20, nc)) (hnc : 5 ≤ nc ∧ nc ≤ 13) (hc : c < 161) (esc : I c = sc) (h : Q (some (vi (cdF sc (r 5).toNat))) I L R) : CT E M_X12_codeOf 161 yX12_codeOf [(vr (138)), (vr (c))] I L R Q := by
  refine CT_of rfl rfl (fun h => by cases h) (Nat.le_of_ble_eq_true rfl) (fun X => ?_)
  show V X _ z0 0 [some (vr (138)), some (vr (c)), none, none] [] I L R _
  have e0 := hr.1
  have loop : ∀ (f : Nat) (i : Int), r 5 - i < (f : Int) → 0 ≤ i → i ≤ r 5 → V X M_X12_codeOf z0 4 [some (vr (138)), some (vr (c)), some (vi (cdF sc i.toNat)), some (vi (i))] [] (I) L R (RT X M_X12_codeOf Q) := by
    intro f
    induction f with
    | zero => intro i h1 h2 h3; omega
    | succ f ih =>
      intro i h1 h2 h3
      have e1 := cdF_s (v := sc) h2
      refine s_iload_n 5 dX12_codeOf_4 rfl rfl ?_
      refine s_aload_n 6 dX12_codeOf_5 rfl rfl ?_
      refine s_getR 9 dX12_codeOf_6 rfl fl_X12_20 (fun _ _ _ _ => rfl) (T_X12_r hT) sh_138 (Nat.le_of_ble_eq_true rfl) ?_
      refine s_iconst 10 dX12_codeOf_9 rfl ?_
      refine s_iald 11 dX12_codeOf_10 rfl sh_141 (Nat.le_of_ble_eq_true rfl) (by omega) (by omega) (fun r_10 => ?_)
      rw [er] at r_10 ⊢
      refine s_icmp_ge 28 14 dX12_codeOf_11 rfl rfl (by first | omega | exact bI_r _ | exact iI_r _) (by first | omega | exact bI_r _ | exact iI_r _) (fun h_11 => ?_) (fun h_11 => ?_)
      · skip
        refine s_iload_n 29 dX12_codeOf_28 rfl rfl ?_
        refine s_iret dX12_codeOf_29 rfl rfl ?_
        have ei : i = r 5 := by omega
        subst ei; exact h
      refine s_iconst 15 dX12_codeOf_14 rfl ?_
      refine s_iload_n 16 dX12_codeOf_15 rfl rfl ?_
      refine s_imul 17 dX12_codeOf_16 rfl ?_
      refine s_aload_n 18 dX12_codeOf_17 rfl rfl ?_
      refine s_iload_n 19 dX12_codeOf_18 rfl rfl ?_
      refine s_iald 20 dX12_codeOf_19 rfl (by assumption) (by assumption) (by omega) (by omega) (fun r_19 => ?_)
      rw [esc] at r_19 ⊢
      refine s_iadd 21 dX12_codeOf_20 rfl ?_
      refine s_istore_n (ls' := [_, _, _, _]) 22 dX12_codeOf_21 rfl (Nat.le_of_ble_eq_true rfl) rfl rfl ?_
      refine s_iinc (ls' := [_, _, _, _]) 25 dX12_codeOf_22 rfl rfl (Nat.le_of_ble_eq_true rfl) rfl rfl ?_
      refine s_goto 4 dX12_codeOf_25 rfl ?_
      rw [← e1]
      exact ih (i + 1) (by omega) (by omega) (by omega)
  refine s_iconst 1 dX12_codeOf_0 rfl ?_
  refine s_istore_n (ls' := [_, _, _, _]) 2 dX12_codeOf_1 rfl (Nat.le_of_ble_eq_true rfl) rfl rfl ?_
  refine s_iconst 3 dX12_codeOf_2 rfl ?_
  refine s_istore_n (ls' := [_, _, _, _]) 4 dX12_codeOf_3 rfl (Nat.le_of_ble_eq_true rfl) rfl rfl ?_
  exact loop (r 5 + 1).toNat 0 (by omega) (by omega) (by omega)
set_option maxHeartbeats 4000000 in
theorem c_X12_layRow {E : ET} {I : MI} {L : ML} {R : MR} {Q : Option AV → MI → ML → MR → Prop} {r v : F1} {code : Int} (hT : Topo R) (er : I 141 = r) (hr : WFr r) (hv : ∀ k, 0 ≤ k → k < r 5 → 0 ≤ v k ∧ v k < 5) (hc : code = cdF v (r 5).toNat) (h : ∀ I', Eqo [148] I I' → (∀ k, 0 ≤ k → k < r 5 → I' 148 k = v k) → Q none I' L R) : CT E M_X12_layRow 161 yX12_layRow [(vr (138)), (vi (code))] I L R Q := by
  refine CT_of rfl rfl (fun h => by cases h) (Nat.le_of_ble_eq_true rfl) (fun X => ?_)
  show V X _ z0 0 [some (vr (138)), some (vi (code)), none, none] [] I L R _
  have e0 := hr.1
  have lb : ∀ (f : Nat) (i : Int) (I1 : MI), i < (f : Int) → -1 ≤ i → i < r 5 → Eqo [148] I I1 → (∀ k, i < k → k < r 5 → I1 148 k = v k) → V X M_X12_layRow z0 31 [some (vr (138)), some (vi (code)), some (vi (cdF v (i + 1).toNat)), some (vi (i))] [] (I1) L R (RT X M_X12_layRow Q) := by
    intro f
    induction f with
    | zero =>
      intro i I1 h1 h2 h3 h4 h5
      have ei : i = -1 := by omega
      subst ei
      refine s_iload_n 32 dX12_layRow_31 rfl rfl ?_
      refine s_if_lt 54 35 dX12_layRow_32 rfl rfl (by first | omega | exact bI_r _ | exact iI_r _) (fun h_32 => ?_) (fun h_32 => by exfalso; omega)
      refine s_vret dX12_layRow_54 rfl rfl ?_
      exact h I1 h4 (fun k a b => h5 k (by omega) b)
    | succ f ih =>
      intro i I1 h1 h2 h3 h4 h5
      by_cases hi : i < 0
      · skip
        refine s_iload_n 32 dX12_layRow_31 rfl rfl ?_
        refine s_if_lt 54 35 dX12_layRow_32 rfl rfl (by first | omega | exact bI_r _ | exact iI_r _) (fun h_32 => ?_) (fun h_32 => by exfalso; omega)
        refine s_vret dX12_layRow_54 rfl rfl ?_
        exact h I1 h4 (fun k a b => h5 k (by omega) b)
      · have e1 := cdF_s (v := v) (i := i) (by omega)
        have e2 := hv i (by omega) h3
        have e3 := cdF_3125 (v := v) (n := i.toNat) (by omega) (fun k a b => hv k a (by omega))
        have e4 := cdF_3125 (v := v) (n := (i + 1).toNat) (by omega) (fun k a b => hv k a (by omega))
        have e5 := irem_v (x := cdF v (i + 1).toNat) (y := 5) (by omega) (by omega)
        have e6 := idiv_v (x := cdF v (i + 1).toNat) (y := 5) (by omega) (by omega)
        have e7 : cdF v (i + 1).toNat % 5 = v i := by omega
        have e8 : cdF v (i + 1).toNat / 5 = cdF v i.toNat := by omega
        rw [e7] at e5
        rw [e8] at e6
        refine s_iload_n 32 dX12_layRow_31 rfl rfl ?_
        refine s_if_lt 54 35 dX12_layRow_32 rfl rfl (by first | omega | exact bI_r _ | exact iI_r _) (fun h_32 => by exfalso; omega) (fun h_32 => ?_)
        refine s_aload_n 36 dX12_layRow_35 rfl rfl ?_
        refine s_getR 39 dX12_layRow_36 rfl fl_X12_41 (fun _ _ _ _ => rfl) (T_X12_row hT) sh_138 (Nat.le_of_ble_eq_true rfl) ?_
        refine s_iload_n 40 dX12_layRow_39 rfl rfl ?_
        refine s_iload_n 41 dX12_layRow_40 rfl rfl ?_
        refine s_iconst 42 dX12_layRow_41 rfl ?_
        refine s_irem 43 dX12_layRow_42 rfl (by first | omega | exact bI_r _ | exact iI_r _) (by omega) ?_
        refine s_iast 44 dX12_layRow_43 rfl sh_148 (Nat.le_of_ble_eq_true rfl) (by omega) (by omega) (by first | omega | exact bI_r _ | exact iI_r _) ?_
        refine s_iload_n 45 dX12_layRow_44 rfl rfl ?_
        refine s_iconst 46 dX12_layRow_45 rfl ?_
        refine s_idiv 47 dX12_layRow_46 rfl (by first | omega | exact bI_r _ | exact iI_r _) (by omega) ?_
        refine s_istore_n (ls' := [_, _, _, _]) 48 dX12_layRow_47 rfl (Nat.le_of_ble_eq_true rfl) rfl rfl ?_
        refine s_iinc (ls' := [_, _, _, _]) 51 dX12_layRow_48 rfl rfl (Nat.le_of_ble_eq_true rfl) rfl rfl ?_
        refine s_goto 31 dX12_layRow_51 rfl ?_
        rw [e5, e6]
        have := ih (i - 1) (up I1 148 i (v i)) (by omega) (by omega) (by omega) (h4.st (by decide)) (fun k a b => ?_)
        · rw [show i - 1 + 1 = i by omega] at this; exact this
        · rw [upd9]
          by_cases ek : k = i
          · rw [if_pos ek, ek]
          · rw [if_neg ek]; exact h5 k (by omega) b
  have la : ∀ (f : Nat) (i : Int) (I1 : MI), 5 - i < (f : Int) → 0 ≤ i → i ≤ 5 → Eqo [148] I I1 → V X M_X12_layRow z0 4 [some (vr (138)), some (vi (code)), some (vi (code)), some (vi (i))] [] (I1) L R (RT X M_X12_layRow Q) := by
    intro f
    induction f with
    | zero => intro i I1 h1 h2 h3; omega
    | succ f ih =>
      intro i I1 h1 h2 h3 h4
      have er : I1 141 = r := (h4 141 (by decide)).trans er
      refine s_iload_n 5 dX12_layRow_4 rfl rfl ?_
      refine s_iconst 6 dX12_layRow_5 rfl ?_
      refine s_icmp_ge 22 9 dX12_layRow_6 rfl rfl (by first | omega | exact bI_r _ | exact iI_r _) (by first | omega | exact bI_r _ | exact iI_r _) (fun h_6 => ?_) (fun h_6 => ?_)
      · skip
        refine s_aload_n 23 dX12_layRow_22 rfl rfl ?_
        refine s_getR 26 dX12_layRow_23 rfl fl_X12_20 (fun _ _ _ _ => rfl) (T_X12_r hT) sh_138 (Nat.le_of_ble_eq_true rfl) ?_
        refine s_iconst 27 dX12_layRow_26 rfl ?_
        refine s_iald 28 dX12_layRow_27 rfl sh_141 (Nat.le_of_ble_eq_true rfl) (by omega) (by omega) (fun r_27 => ?_)
        rw [er] at r_27 ⊢
        refine s_iconst 29 dX12_layRow_28 rfl ?_
        refine s_isub 30 dX12_layRow_29 rfl ?_
        refine s_istore_n (ls' := [_, _, _, _]) 31 dX12_layRow_30 rfl (Nat.le_of_ble_eq_true rfl) rfl rfl ?_
        have := lb (r 5).toNat (r 5 - 1) I1 (by omega) (by omega) (by omega) h4 (fun k a b => by omega)
        rw [show r 5 - 1 + 1 = r 5 by omega, ← hc] at this
        exact this
      refine s_aload_n 10 dX12_layRow_9 rfl rfl ?_
      refine s_getR 13 dX12_layRow_10 rfl fl_X12_41 (fun _ _ _ _ => rfl) (T_X12_row hT) sh_138 (Nat.le_of_ble_eq_true rfl) ?_
      refine s_iload_n 14 dX12_layRow_13 rfl rfl ?_
      refine s_iconst 15 dX12_layRow_14 rfl ?_
      refine s_iast 16 dX12_layRow_15 rfl sh_148 (Nat.le_of_ble_eq_true rfl) (by omega) (by omega) (by first | omega | exact bI_r _ | exact iI_r _) ?_
      refine s_iinc (ls' := [_, _, _, _]) 19 dX12_layRow_16 rfl rfl (Nat.le_of_ble_eq_true rfl) rfl rfl ?_
      refine s_goto 4 dX12_layRow_19 rfl ?_
      exact ih (i + 1) _ (by omega) (by omega) (by omega) (h4.st (by decide))
  refine s_iload_n 1 dX12_layRow_0 rfl rfl ?_
  refine s_istore_n (ls' := [_, _, _, _]) 2 dX12_layRow_1 rfl (Nat.le_of_ble_eq_true rfl) rfl rfl ?_
  refine s_iconst 3 dX12_layRow_2 rfl ?_
  refine s_istore_n (ls' := [_, _, _, _]) 4 dX12_layRow_3 rfl (Nat.le_of_ble_eq_true rfl) rfl rfl ?_
  exact la 6 0 I (by omega) (by omega) (by omega) Eqo.rf
