/-! SEARCH: the fewest swaps -/
def dfF (v w : F1) : Nat → Int
  | 0 => 0
  | k + 1 => dfF v w k + if v k = w k then 0 else 1
theorem df_nn (v w : F1) : ∀ n : Nat, 0 ≤ dfF v w n
  | 0 => Int.le_refl _
  | n + 1 => by
    have := df_nn v w n
    unfold dfF
    split <;> omega
theorem df_0 {v w : F1} : ∀ {n : Nat}, dfF v w n = 0 → ∀ k : Int, 0 ≤ k → k < n → v k = w k
  | 0, _, k, a, b => by omega
  | n + 1, h, k, a, b => by
    have nn := df_nn v w n
    unfold dfF at h
    by_cases z : v (n : Int) = w n
    · rw [if_pos z] at h
      by_cases e : k = n
      · rw [e]; exact z
      · exact df_0 (v := v) (w := w) (n := n) (by omega) k a (by omega)
    · rw [if_neg z] at h; omega
theorem df_1 {v w : F1} : ∀ {n : Nat}, dfF v w n = 1 → ∃ i : Int, 0 ≤ i ∧ i < n ∧ v i ≠ w i ∧ ∀ k : Int, 0 ≤ k → k < n → k ≠ i → v k = w k
  | 0, h => by simp [dfF] at h
  | n + 1, h => by
    have nn := df_nn v w n
    unfold dfF at h
    by_cases z : v (n : Int) = w n
    · rw [if_pos z] at h
      obtain ⟨i, i1, i2, i3, i4⟩ := df_1 (v := v) (w := w) (n := n) (by omega)
      refine ⟨i, i1, by omega, i3, fun k a b c => ?_⟩
      by_cases e : k = n
      · rw [e]; exact z
      · exact i4 k a (by omega) c
    · rw [if_neg z] at h
      have h0 := df_0 (v := v) (w := w) (n := n) (by omega)
      exact ⟨n, by omega, by omega, z, fun k a b c => h0 k a (by omega)⟩
theorem df_2 {v w : F1} : ∀ {n : Nat}, dfF v w n = 2 → ∃ i j : Int, 0 ≤ i ∧ i < j ∧ j < n ∧ v i ≠ w i ∧ v j ≠ w j ∧ ∀ k : Int, 0 ≤ k → k < n → k ≠ i → k ≠ j → v k = w k
  | 0, h => by simp [dfF] at h
  | n + 1, h => by
    have nn := df_nn v w n
    unfold dfF at h
    by_cases z : v (n : Int) = w n
    · rw [if_pos z] at h
      obtain ⟨i, j, i1, i2, i3, i4, i5, i6⟩ := df_2 (v := v) (w := w) (n := n) (by omega)
      refine ⟨i, j, i1, i2, by omega, i4, i5, fun k a b c d => ?_⟩
      by_cases e : k = n
      · rw [e]; exact z
      · exact i6 k a (by omega) c d
    · rw [if_neg z] at h
      obtain ⟨i, i1, i2, i3, i4⟩ := df_1 (v := v) (w := w) (n := n) (by omega)
      exact ⟨i, n, i1, i2, by omega, i3, z, fun k a b c d => i4 k a (by omega) c⟩
theorem sw_df {r : F1} {l l' : List Int} (hr : WFr r) (hl : l ∈ ordL r) (hl' : l' ∈ ordL r) : dfF (vL l) (vL l') (r 5).toNat = 2 ↔ Sw1 r l l' := by
  have e0 := hr.1
  have p := (ordL_of hr hl).1
  have p' := (ordL_of hr hl').1
  have en : (((r 5).toNat : Nat) : Int) = r 5 := by omega
  constructor
  · intro h
    obtain ⟨i, j, i1, i2, i3, i4, i5, i6⟩ := df_2 h
    rw [en] at i3 i6
    refine ⟨hl', i, j, i1, i2, i3, fun k k1 k2 => ?_⟩
    -- the value at i stands at j now
    have vi9 : vL l' j = vL l i := by
      have a := p.1 i i1 (by omega)
      obtain ⟨m, m1, m2, m3⟩ := p'.2.2 (vL l i) a.1 a.2
      by_cases e : m = i
      · rw [e] at m3; exact absurd m3.symm i4
      · by_cases e2 : m = j
        · rw [e2] at m3; exact m3
        · have := i6 m m1 m2 e e2
          exact absurd (p.2.1 m i m1 m2 i1 (by omega) (this.trans m3)) e
    have vj9 : vL l' i = vL l j := by
      have a := p.1 j (by omega) i3
      obtain ⟨m, m1, m2, m3⟩ := p'.2.2 (vL l j) a.1 a.2
      by_cases e : m = j
      · rw [e] at m3; exact absurd m3.symm i5
      · by_cases e2 : m = i
        · rw [e2] at m3; exact m3
        · have := i6 m m1 m2 e2 e
          exact absurd (p.2.1 m j m1 m2 (by omega) i3 (this.trans m3)) e
    unfold tnF
    by_cases e : k = j
    · rw [if_pos e, e]; exact vi9
    · rw [if_neg e]
      by_cases e2 : k = i
      · rw [if_pos e2, e2]; exact vj9
      · rw [if_neg e2]; exact (i6 k k1 k2 e2 e).symm
  · rintro ⟨-, i, j, i1, i2, i3, i4⟩
    have ne : vL l i ≠ vL l j := fun z => by have := p.2.1 i j i1 (by omega) (by omega) i3 z; omega
    have hh : ∀ k : Int, 0 ≤ k → k < ((r 5).toNat : Nat) → (vL l k ≠ vL l' k ↔ k = i ∨ k = j) := fun k k1 k2 => by
      rw [i4 k k1 (by omega)]
      unfold tnF
      by_cases e : k = j
      · rw [if_pos e, e]; exact ⟨fun _ => Or.inr rfl, fun _ => ne.symm⟩
      · rw [if_neg e]
        by_cases e2 : k = i
        · rw [if_pos e2, e2]; exact ⟨fun _ => Or.inl rfl, fun _ => ne⟩
        · rw [if_neg e2]; exact ⟨fun z => absurd rfl z, fun z => z.elim (fun w => absurd w e2) (fun w => absurd w e)⟩
    have key : ∀ n : Nat, (∀ k : Int, 0 ≤ k → k < n → (vL l k ≠ vL l' k ↔ k = i ∨ k = j)) → dfF (vL l) (vL l') n = (if i < n then 1 else 0) + (if j < n then 1 else 0) := by
      intro n
      induction n with
      | zero => intro _; rw [if_neg (by omega), if_neg (by omega)]; rfl
      | succ n ih =>
        intro hh
        have hn := hh (n : Int) (by omega) (by omega)
        unfold dfF
        rw [ih (fun k a b => hh k a (by omega))]
        by_cases z : vL l (n : Int) = vL l' n
        · have n1 : ¬ ((n : Int) = i ∨ (n : Int) = j) := fun y => (hn.mpr y) z
          rw [if_pos z]
          split <;> split <;> split <;> split <;> omega
        · have n1 := hn.mp z
          rw [if_neg z]
          split <;> split <;> split <;> split <;> omega
    rw [key _ hh, if_pos (by omega), if_pos (by omega)]
    rfl
set_option maxHeartbeats 4000000 in
theorem c_X7_isOneSwap {E : ET} {I : MI} {L : ML} {R : MR} {Q : Option AV → MI → ML → MR → Prop} {P : Nat} {r : F1} {o o' : Int} {l l' : List Int} (hT : Topo R) (hP : isP P) (h7 : R 111 0 = some P) (hr : WFr r) (hR : PR I P r) (ho : EnO o (vL l) (r 5)) (ho' : EnO o' (vL l') (r 5)) (hl : l ∈ ordL r) (hl' : l' ∈ ordL r) (h : Q (some (vi (bI (Sw1 r l l')))) I L R) : CT E M_X7_isOneSwap 161 yX7_isOneSwap [(vr (111)), (vi (o)), (vi (o'))] I L R Q := by
  refine CT_of rfl rfl (fun h => by cases h) (Nat.le_of_ble_eq_true rfl) (fun X => ?_)
  show V X _ z0 0 [some (vr (111)), some (vi (o)), some (vi (o')), none, none] [] I L R _
  have e0 := hr.1
  have e4 := hR.1.2.2.2.2.1
  rw [← bI_c (sw_df hr hl hl')] at h
  have db : ∀ n : Nat, 0 ≤ dfF (vL l) (vL l') n ∧ dfF (vL l) (vL l') n ≤ n := by
    intro n
    refine ⟨df_nn _ _ n, ?_⟩
    induction n with
    | zero => simp [dfF]
    | succ n ih => unfold dfF; split <;> omega
  have loop : ∀ (f : Nat) (k : Int), r 5 - k < (f : Int) → 0 ≤ k → k ≤ r 5 → V X M_X7_isOneSwap z0 5 [some (vr (111)), some (vi (o)), some (vi (o')), some (vi (dfF (vL l) (vL l') k.toNat)), some (vi (k))] [] (I) L R (RT X M_X7_isOneSwap Q) := by
    intro f
    induction f with
    | zero => intro k h1 h2 h3; omega
    | succ f ih =>
      intro k h1 h2 h3
      have dk := db k.toNat
      by_cases hk : k < r 5
      · have a1 := ho.2.1 k h2 hk
        have a2 := ho'.2.1 k h2 hk
        have b1 := oi_b o k
        have b2 := oi_b o' k
        have st := ih (k + 1) (by omega) (by omega) (by omega)
        have es : dfF (vL l) (vL l') (k + 1).toNat = dfF (vL l) (vL l') k.toNat + if vL l k = vL l' k then 0 else 1 := by
          rw [show (k + 1).toNat = k.toNat + 1 by omega]
          show _ + (if vL l ((k.toNat : Nat) : Int) = vL l' ((k.toNat : Nat) : Int) then 0 else 1) = _
          rw [show ((k.toNat : Nat) : Int) = k by omega]
        rw [es] at st
        by_cases z : vL l k = vL l' k
        · rw [if_pos z, Int.add_zero] at st
          refine s_iload 7 dX7_isOneSwap_5 rfl rfl ?_
          refine s_aload_n 8 dX7_isOneSwap_7 rfl rfl ?_
          refine s_getR 11 dX7_isOneSwap_8 rfl fl_X7_25 (fun _ _ _ _ => rfl) (by assumption) sh_111 (Nat.le_of_ble_eq_true rfl) ?_
          refine s_getI 14 dX7_isOneSwap_11 rfl fl_X7_86 (fun _ _ _ _ => rfl) (isP_sh (by assumption)) (isP_lt (by assumption)) (fun r_11 => ?_)
          rw [e4]
          refine s_icmp_ge 41 17 dX7_isOneSwap_14 rfl rfl (by first | omega | exact bI_r _ | exact iI_r _) (by first | omega | exact bI_r _ | exact iI_r _) (fun h_14 => by exfalso; omega) (fun h_14 => ?_)
          refine s_iload_n 18 dX7_isOneSwap_17 rfl rfl ?_
          refine s_iload 20 dX7_isOneSwap_18 rfl rfl ?_
          refine s_callSN0 (M' := M_X11_sceneAt) (as := [_, _]) 23 dX7_isOneSwap_20 rfl cw_X7_89 rfl rfl (Nat.le_of_ble_eq_true rfl) (Nat.le_of_ble_eq_true rfl) (Nat.le_of_ble_eq_true rfl) ⟨rfl, rfl, rfl⟩ ?_
          refine c_X11_sceneAt (by omega) ?_
          refine s_iload_n 24 dX7_isOneSwap_23 rfl rfl ?_
          refine s_iload 26 dX7_isOneSwap_24 rfl rfl ?_
          refine s_callSN0 (M' := M_X11_sceneAt) (as := [_, _]) 29 dX7_isOneSwap_26 rfl cw_X7_89 rfl rfl (Nat.le_of_ble_eq_true rfl) (Nat.le_of_ble_eq_true rfl) (Nat.le_of_ble_eq_true rfl) ⟨rfl, rfl, rfl⟩ ?_
          refine c_X11_sceneAt (by omega) ?_
          refine s_icmp_eq 35 32 dX7_isOneSwap_29 rfl rfl (by first | omega | exact bI_r _ | exact iI_r _) (by first | omega | exact bI_r _ | exact iI_r _) (fun h_29 => ?_) (fun h_29 => by exfalso; omega)
          refine s_iinc (ls' := [_, _, _, _, _]) 38 dX7_isOneSwap_35 rfl rfl (Nat.le_of_ble_eq_true rfl) rfl rfl ?_
          refine s_goto 5 dX7_isOneSwap_38 rfl ?_
          exact st
        · rw [if_neg z] at st
          refine s_iload 7 dX7_isOneSwap_5 rfl rfl ?_
          refine s_aload_n 8 dX7_isOneSwap_7 rfl rfl ?_
          refine s_getR 11 dX7_isOneSwap_8 rfl fl_X7_25 (fun _ _ _ _ => rfl) (by assumption) sh_111 (Nat.le_of_ble_eq_true rfl) ?_
          refine s_getI 14 dX7_isOneSwap_11 rfl fl_X7_86 (fun _ _ _ _ => rfl) (isP_sh (by assumption)) (isP_lt (by assumption)) (fun r_11 => ?_)
          rw [e4]
          refine s_icmp_ge 41 17 dX7_isOneSwap_14 rfl rfl (by first | omega | exact bI_r _ | exact iI_r _) (by first | omega | exact bI_r _ | exact iI_r _) (fun h_14 => by exfalso; omega) (fun h_14 => ?_)
          refine s_iload_n 18 dX7_isOneSwap_17 rfl rfl ?_
          refine s_iload 20 dX7_isOneSwap_18 rfl rfl ?_
          refine s_callSN0 (M' := M_X11_sceneAt) (as := [_, _]) 23 dX7_isOneSwap_20 rfl cw_X7_89 rfl rfl (Nat.le_of_ble_eq_true rfl) (Nat.le_of_ble_eq_true rfl) (Nat.le_of_ble_eq_true rfl) ⟨rfl, rfl, rfl⟩ ?_
          refine c_X11_sceneAt (by omega) ?_
          refine s_iload_n 24 dX7_isOneSwap_23 rfl rfl ?_
          refine s_iload 26 dX7_isOneSwap_24 rfl rfl ?_
          refine s_callSN0 (M' := M_X11_sceneAt) (as := [_, _]) 29 dX7_isOneSwap_26 rfl cw_X7_89 rfl rfl (Nat.le_of_ble_eq_true rfl) (Nat.le_of_ble_eq_true rfl) (Nat.le_of_ble_eq_true rfl) ⟨rfl, rfl, rfl⟩ ?_
          refine c_X11_sceneAt (by omega) ?_
          refine s_icmp_eq 35 32 dX7_isOneSwap_29 rfl rfl (by first | omega | exact bI_r _ | exact iI_r _) (by first | omega | exact bI_r _ | exact iI_r _) (fun h_29 => by exfalso; omega) (fun h_29 => ?_)
          refine s_iinc (ls' := [_, _, _, _, _]) 35 dX7_isOneSwap_32 rfl rfl (Nat.le_of_ble_eq_true rfl) rfl rfl ?_
          refine s_iinc (ls' := [_, _, _, _, _]) 38 dX7_isOneSwap_35 rfl rfl (Nat.le_of_ble_eq_true rfl) rfl rfl ?_
          refine s_goto 5 dX7_isOneSwap_38 rfl ?_
          exact st
      · have ek : k = r 5 := by omega
        subst ek
        refine s_iload 7 dX7_isOneSwap_5 rfl rfl ?_
        refine s_aload_n 8 dX7_isOneSwap_7 rfl rfl ?_
        refine s_getR 11 dX7_isOneSwap_8 rfl fl_X7_25 (fun _ _ _ _ => rfl) (by assumption) sh_111 (Nat.le_of_ble_eq_true rfl) ?_
        refine s_getI 14 dX7_isOneSwap_11 rfl fl_X7_86 (fun _ _ _ _ => rfl) (isP_sh (by assumption)) (isP_lt (by assumption)) (fun r_11 => ?_)
        rw [e4]
        refine s_icmp_ge 41 17 dX7_isOneSwap_14 rfl rfl (by first | omega | exact bI_r _ | exact iI_r _) (by first | omega | exact bI_r _ | exact iI_r _) (fun h_14 => ?_) (fun h_14 => by exfalso; omega)
        refine s_iload_n 42 dX7_isOneSwap_41 rfl rfl ?_
        refine s_iconst 43 dX7_isOneSwap_42 rfl ?_
        refine s_icmp_ne 50 46 dX7_isOneSwap_43 rfl rfl (by first | omega | exact bI_r _ | exact iI_r _) (by first | omega | exact bI_r _ | exact iI_r _) (fun h_43 => ?_) (fun h_43 => ?_)
        · skip
          refine s_iconst 51 dX7_isOneSwap_50 rfl ?_
          refine s_zret dX7_isOneSwap_51 rfl (by first | omega | exact bI_b _) rfl ?_
          first | exact ret_t (by assumption) h | exact ret_f (by assumption) h
        refine s_iconst 47 dX7_isOneSwap_46 rfl ?_
        refine s_goto 51 dX7_isOneSwap_47 rfl ?_
        refine s_zret dX7_isOneSwap_51 rfl (by first | omega | exact bI_b _) rfl ?_
        first | exact ret_t (by assumption) h | exact ret_f (by assumption) h
  refine s_iconst 1 dX7_isOneSwap_0 rfl ?_
  refine s_istore_n (ls' := [_, _, _, _, _]) 2 dX7_isOneSwap_1 rfl (Nat.le_of_ble_eq_true rfl) rfl rfl ?_
  refine s_iconst 3 dX7_isOneSwap_2 rfl ?_
  refine s_istore (ls' := [_, _, _, _, _]) 5 dX7_isOneSwap_3 rfl (Nat.le_of_ble_eq_true rfl) rfl rfl ?_
  exact loop 7 0 (by omega) (by omega) (by omega)
noncomputable def Lk (r : F1) (i : Int) : List Int := (ordL r).getD i.toNat []
theorem Lk_m {r : F1} {i : Int} (h : 0 ≤ i) (h2 : i < ((ordL r).length : Int)) : Lk r i ∈ ordL r := by
  unfold Lk
  rw [List.getD_eq_getElem?_getD, List.getElem?_eq_getElem (by omega)]
  exact List.getElem_mem _
theorem m_Lk {r : F1} {l : List Int} (h : l ∈ ordL r) : ∃ i : Int, 0 ≤ i ∧ i < ((ordL r).length : Int) ∧ Lk r i = l := by
  obtain ⟨i, hi, e⟩ := List.getElem_of_mem h
  refine ⟨i, by omega, by omega, ?_⟩
  unfold Lk
  rw [List.getD_eq_getElem?_getD, Int.toNat_natCast, List.getElem?_eq_getElem hi, e]
  rfl
theorem OLs.at {I : MI} {P : Nat} {r : F1} (h : OLs I P r (ordL r)) {i : Int} (a : 0 ≤ i) (b : i < ((ordL r).length : Int)) : EnO (I (P + 35) i) (vL (Lk r i)) (r 5) := by
  have := h.2 i.toNat (by omega)
  rw [show ((i.toNat : Nat) : Int) = i by omega] at this
  exact this
theorem Rc_om {r : F1} {a : List Int} (ha : a ∈ ordL r) : ∀ {d : Nat} {b : List Int}, Rc r a d b → b ∈ ordL r
  | 0, b, h => by
    have h : b = a := h
    rw [h]; exact ha
  | d + 1, b, h => by
    rcases h with h | ⟨c, -, h⟩
    · exact Rc_om ha h
    · exact h.1
/-- steps known up to d -/
def StI (S : F1) (r : F1) (a : List Int) (d : Int) : Prop := ∀ i, 0 ≤ i → i < ((ordL r).length : Int) → (S i = -1 ∧ ¬ Rc r a d.toNat (Lk r i)) ∨ (0 ≤ S i ∧ S i ≤ d ∧ Rc r a (S i).toNat (Lk r i) ∧ ∀ e : Nat, (e : Int) < S i → ¬ Rc r a e (Lk r i))
theorem StI.next {S S' r : F1} {a : List Int} {d : Int} (hd : 0 ≤ d) (ha : a ∈ ordL r) (h : StI S r a d) (h1 : ∀ j, 0 ≤ j → j < ((ordL r).length : Int) → S j ≠ -1 → S' j = S j) (h2 : ∀ j, 0 ≤ j → j < ((ordL r).length : Int) → S j = -1 → (S' j = d + 1 ∧ ∃ i, 0 ≤ i ∧ i < ((ordL r).length : Int) ∧ S i = d ∧ Sw1 r (Lk r i) (Lk r j)) ∨ (S' j = -1 ∧ ∀ i, 0 ≤ i → i < ((ordL r).length : Int) → S i = d → ¬ Sw1 r (Lk r i) (Lk r j))) : StI S' r a (d + 1) := by
  have ed : (d + 1).toNat = d.toNat + 1 := by omega
  intro j j1 j2
  rcases h j j1 j2 with ⟨z1, z2⟩ | ⟨z1, z2, z3, z4⟩
  · rcases h2 j j1 j2 z1 with ⟨y1, i, i1, i2, i3, i4⟩ | ⟨y1, y2⟩
    · refine Or.inr ⟨by omega, by omega, ?_, fun e he => ?_⟩
      · rw [y1, ed]
        rcases h i i1 i2 with w | ⟨w1, w2, w3, w4⟩
        · omega
        · rw [i3] at w3
          exact Or.inr ⟨Lk r i, w3, i4⟩
      · intro y
        exact z2 (y.le (by omega))
    · refine Or.inl ⟨y1, ?_⟩
      rw [ed]
      rintro (y | ⟨c, c1, c2⟩)
      · exact z2 y
      · obtain ⟨i, i1, i2, i3⟩ := m_Lk (Rc_om ha c1)
        subst i3
        rcases h i i1 i2 with w | ⟨w1, w2, w3, w4⟩
        · exact w.2 c1
        · by_cases e : S i = d
          · exact y2 i i1 i2 e c2
          · refine z2 (Rc.le (d := (S i).toNat + 1) (Or.inr ⟨Lk r i, w3, c2⟩) (by omega))
  · rw [h1 j j1 j2 (by omega)]
    exact Or.inr ⟨z1, by omega, z3, z4⟩
/-- no more to reach -/
theorem StI.done {S r : F1} {a : List Int} {d : Int} (hd : 0 ≤ d) (ha : a ∈ ordL r) (h : StI S r a (d + 1)) (hn : ∀ i, 0 ≤ i → i < ((ordL r).length : Int) → S i ≠ d + 1) : ∀ (e : Nat) (b : List Int), Rc r a e b → Rc r a d.toNat b
  | 0, b, hb => Rc.le hb (Nat.zero_le _)
  | e + 1, b, hb => by
    rcases hb with hb | ⟨c, c1, c2⟩
    · exact StI.done hd ha h hn e b hb
    · have ih := StI.done hd ha h hn e c c1
      have hb2 : Rc r a (d + 1).toNat b := by
        rw [show (d + 1).toNat = d.toNat + 1 by omega]
        exact Or.inr ⟨c, ih, c2⟩
      obtain ⟨i, i1, i2, i3⟩ := m_Lk (Rc_om ha hb2)
      subst i3
      rcases h i i1 i2 with w | ⟨w1, w2, w3, w4⟩
      · exact absurd hb2 w.2
      · have := hn i i1 i2
        exact w3.le (by omega)
/-- what stands after some pairs (D: those looked at) -/
def RmG (S0 S1 r : F1) (d : Int) (D : Int → Int → Prop) : Prop := ∀ j, 0 ≤ j → j < ((ordL r).length : Int) → (S0 j ≠ -1 → S1 j = S0 j) ∧ (S0 j = -1 → (S1 j = d + 1 ∧ ∃ i, 0 ≤ i ∧ i < ((ordL r).length : Int) ∧ S0 i = d ∧ Sw1 r (Lk r i) (Lk r j)) ∨ (S1 j = -1 ∧ ∀ i, 0 ≤ i → i < ((ordL r).length : Int) → S0 i = d → D i j → ¬ Sw1 r (Lk r i) (Lk r j)))
theorem RmG.mo {S0 S1 r : F1} {d : Int} {D D' : Int → Int → Prop} (h : RmG S0 S1 r d D) (e : ∀ i j, 0 ≤ i → i < ((ordL r).length : Int) → 0 ≤ j → j < ((ordL r).length : Int) → S0 i = d → S1 j = -1 → D' i j → D i j ∨ ¬ Sw1 r (Lk r i) (Lk r j)) : RmG S0 S1 r d D' := fun j j1 j2 => ⟨(h j j1 j2).1, fun z => ((h j j1 j2).2 z).imp id (fun w => ⟨w.1, fun i i1 i2 i3 i4 => (e i j i1 i2 j1 j2 i3 w.1 i4).elim (fun y => w.2 i i1 i2 i3 y) id⟩)⟩
set_option maxHeartbeats 4000000 in
theorem c_X7_reachMore {E : ET} {I : MI} {L : ML} {R : MR} {Q : Option AV → MI → ML → MR → Prop} {P : Nat} {r : F1} {a : List Int} {d : Int} (hT : Topo R) (hP : isP P) (h7 : R 111 0 = some P) (hr : WFr r) (hW : TrW P r I) (hd : 0 ≤ d ∧ d ≤ 130) (ha : a ∈ ordL r) (hS : StI (I 112) r a d) (h : ∀ I', Eqo [112] I I' → StI (I' 112) r a (d + 1) → Q (some (vi (bI (∃ i, 0 ≤ i ∧ i < ((ordL r).length : Int) ∧ I' 112 i = d + 1)))) I' L R) : CT E M_X7_reachMore 161 yX7_reachMore [(vr (111)), (vi (d))] I L R Q := by
  refine CT_of rfl rfl (fun h => by cases h) (Nat.le_of_ble_eq_true rfl) (fun X => ?_)
  show V X _ z0 0 [some (vr (111)), some (vi (d)), none, none, none] [] I L R _
  have e0 := hr.1
  have hl := ordL_len (r := r) ⟨by omega, by omega⟩
  have hp : P = 3 ∨ P = 39 := hP
  obtain ⟨S0, eS⟩ : ∃ S0, S0 = I 112 := ⟨_, rfl⟩
  rw [← eS] at hS
  have sb : ∀ i, 0 ≤ i → i < ((ordL r).length : Int) → -1 ≤ S0 i ∧ S0 i ≤ d := fun i i1 i2 => by
    rcases hS i i1 i2 with z | z <;> omega
  have outer : ∀ (f : Nat) (i : Int) (I1 : MI) (M9 : Prop) (w4 : Option AV), ((ordL r).length : Int) - i < (f : Int) → 0 ≤ i → i ≤ ((ordL r).length : Int) → Eqo [112] I I1 → RmG S0 (I1 112) r d (fun i' _ => i' < i) → (M9 ↔ ∃ k, 0 ≤ k ∧ k < ((ordL r).length : Int) ∧ I1 112 k = d + 1) → V X M_X7_reachMore z0 4 [some (vr (111)), some (vi (d)), some (vi (bI M9)), some (vi (i)), w4] [] (I1) L R (RT X M_X7_reachMore Q) := by
    intro f
    induction f with
    | zero => intro i I1 M9 w4 h1 h2 h3; omega
    | succ f ih =>
      intro i I1 M9 w4 h1 h2 h3 h4 h5 h6
      have W1 : ∀ {J : MI}, Eqo [112] I J → PR J P r ∧ OLs J P r (ordL r) := fun {J} e => ⟨hW.1.c (by omega) (fun c a b => e c (by simp; omega)), hW.2.2.c (e P (by simp; omega)) (e (P + 35) (by simp; omega))⟩
      have e8 := (W1 h4).2.1
      by_cases hi : i < ((ordL r).length : Int)
      · have si := sb i h2 hi
        have inner : ∀ (f : Nat) (j : Int) (I2 : MI) (M8 : Prop), ((ordL r).length : Int) - j < (f : Int) → 0 ≤ j → j ≤ ((ordL r).length : Int) → Eqo [112] I I2 → RmG S0 (I2 112) r d (fun i' j' => i' < i ∨ (i' = i ∧ j' < j)) → (M8 ↔ ∃ k, 0 ≤ k ∧ k < ((ordL r).length : Int) ∧ I2 112 k = d + 1) → V X M_X7_reachMore z0 18 [some (vr (111)), some (vi (d)), some (vi (bI M8)), some (vi (i)), some (vi (j))] [] (I2) L R (RT X M_X7_reachMore Q) := by
          intro f
          induction f with
          | zero => intro j I2 M8 h1 h2 h3; omega
          | succ f ih2 =>
            intro j I2 M8 g1 g2 g3 g4 g5 g6
            have e82 := (W1 g4).2.1
            have gi := g5 i h2 hi
            have vi2 : S0 i = d → I2 112 i = d := fun z => by rw [gi.1 (by omega)]; exact z
            have vi3 : I2 112 i = d → S0 i = d := fun z => by
              by_cases y : S0 i = -1
              · rcases gi.2 y with w | w <;> omega
              · rw [gi.1 y] at z; exact z
            have ri : -1 ≤ I2 112 i ∧ I2 112 i ≤ d + 1 := by
              by_cases y : S0 i = -1
              · rcases gi.2 y with w | w <;> omega
              · rw [gi.1 y]; omega
            by_cases hs : S0 i = d
            · have es := vi2 hs
              by_cases hj : j < ((ordL r).length : Int)
              · have gj := g5 j g2 hj
                have sj := sb j g2 hj
                have rj : -1 ≤ I2 112 j ∧ I2 112 j ≤ d + 1 := by
                  by_cases y : S0 j = -1
                  · rcases gj.2 y with w | w <;> omega
                  · rw [gj.1 y]; omega
                have skp : ∀ b9 : Int, b9 = bI M8 → (I2 112 j = -1 → ¬ Sw1 r (Lk r i) (Lk r j)) → V X M_X7_reachMore z0 18 [some (vr (111)), some (vi (d)), some (vi (b9)), some (vi (i)), some (vi (j + 1))] [] (I2) L R (RT X M_X7_reachMore Q) := fun b9 eb hn => by
                  rw [eb]
                  refine ih2 (j + 1) I2 M8 (by omega) (by omega) (by omega) g4 (g5.mo (fun i' j' a1 a2 b1 b2 c1 c2 c3 => ?_)) g6
                  by_cases y : i' < i ∨ (i' = i ∧ j' < j)
                  · exact Or.inl y
                  · have e1 : i' = i := by omega
                    have e2 : j' = j := by omega
                    rw [e1, e2]; rw [e2] at c2
                    exact Or.inr (hn c2)
                by_cases hz : I2 112 j = -1
                · have eo := (W1 g4).2.at h2 hi
                  have eo' := (W1 g4).2.at g2 hj
                  have s0j : S0 j = -1 := Classical.byContradiction (fun y => by rw [gj.1 y] at hz; exact y hz)
                  have put : Sw1 r (Lk r i) (Lk r j) → V X M_X7_reachMore z0 18 [some (vr (111)), some (vi (d)), some (vi (1)), some (vi (i)), some (vi (j + 1))] [] (up I2 112 j (d + 1)) L R (RT X M_X7_reachMore Q) := by
                    intro h74
                    have st := ih2 (j + 1) (up I2 112 j (d + 1)) True (by omega) (by omega) (by omega) (g4.st (by simp)) (fun k k1 k2 => by
                      rw [upd9]
                      by_cases ek : k = j
                      · subst ek
                        rw [if_pos rfl]
                        exact ⟨fun y => absurd s0j y, fun _ => Or.inl ⟨rfl, i, h2, hi, hs, h74⟩⟩
                      · rw [if_neg ek]
                        have gk := g5 k k1 k2
                        exact ⟨gk.1, fun y => (gk.2 y).imp id (fun w => ⟨w.1, fun i' a1 a2 a3 a4 => w.2 i' a1 a2 a3 (by omega)⟩)⟩) ⟨fun _ => ⟨j, g2, hj, ups⟩, fun _ => trivial⟩
                    rw [bI_t trivial] at st
                    exact st
                  refine s_aload_n 19 dX7_reachMore_18 rfl rfl ?_
                  refine s_getR 22 dX7_reachMore_19 rfl fl_X7_9 (fun _ _ _ _ => rfl) (T_X7_steps hT) sh_111 (Nat.le_of_ble_eq_true rfl) ?_
                  refine s_iload_n 23 dX7_reachMore_22 rfl rfl ?_
                  refine s_iald 24 dX7_reachMore_23 rfl sh_112 (Nat.le_of_ble_eq_true rfl) (by omega) (by omega) (fun r_23 => ?_)
                  rw [es]
                  refine s_iload_n 25 dX7_reachMore_24 rfl rfl ?_
                  refine s_icmp_ne 95 28 dX7_reachMore_25 rfl rfl (by first | omega | exact bI_r _ | exact iI_r _) (by first | omega | exact bI_r _ | exact iI_r _) (fun h_25 => by exfalso; omega) (fun h_25 => ?_)
                  refine s_iload 30 dX7_reachMore_28 rfl rfl ?_
                  refine s_aload_n 31 dX7_reachMore_30 rfl rfl ?_
                  refine s_getR 34 dX7_reachMore_31 rfl fl_X7_25 (fun _ _ _ _ => rfl) (by assumption) sh_111 (Nat.le_of_ble_eq_true rfl) ?_
                  refine s_getI 37 dX7_reachMore_34 rfl fl_X7_42 (fun _ _ _ _ => rfl) (isP_sh (by assumption)) (isP_lt (by assumption)) (fun r_34 => ?_)
                  rw [e82]
                  refine s_icmp_ge 95 40 dX7_reachMore_37 rfl rfl (by first | omega | exact bI_r _ | exact iI_r _) (by first | omega | exact bI_r _ | exact iI_r _) (fun h_37 => by exfalso; omega) (fun h_37 => ?_)
                  refine s_aload_n 41 dX7_reachMore_40 rfl rfl ?_
                  refine s_getR 44 dX7_reachMore_41 rfl fl_X7_9 (fun _ _ _ _ => rfl) (T_X7_steps hT) sh_111 (Nat.le_of_ble_eq_true rfl) ?_
                  refine s_iload 46 dX7_reachMore_44 rfl rfl ?_
                  refine s_iald 47 dX7_reachMore_46 rfl sh_112 (Nat.le_of_ble_eq_true rfl) (by omega) (by omega) (fun r_46 => ?_)
                  rw [hz]
                  refine s_iconst 48 dX7_reachMore_47 rfl ?_
                  refine s_icmp_ne 89 51 dX7_reachMore_48 rfl rfl (by first | omega | exact bI_r _ | exact iI_r _) (by first | omega | exact bI_r _ | exact iI_r _) (fun h_48 => by exfalso; omega) (fun h_48 => ?_)
                  refine s_aload_n 52 dX7_reachMore_51 rfl rfl ?_
                  refine s_aload_n 53 dX7_reachMore_52 rfl rfl ?_
                  refine s_getR 56 dX7_reachMore_53 rfl fl_X7_25 (fun _ _ _ _ => rfl) (by assumption) sh_111 (Nat.le_of_ble_eq_true rfl) ?_
                  refine s_getR 59 dX7_reachMore_56 rfl fl_X7_47 (fun _ _ _ _ => rfl) (T_X5_orderList hT (by assumption)) (isP_sh (by assumption)) (isP_lt (by assumption)) ?_
                  refine s_iload_n 60 dX7_reachMore_59 rfl rfl ?_
                  refine s_iald 61 dX7_reachMore_60 rfl (shP_orderList (by assumption)) (ltP_orderList (by assumption)) (by omega) (by omega) (fun r_60 => ?_)
                  refine s_aload_n 62 dX7_reachMore_61 rfl rfl ?_
                  refine s_getR 65 dX7_reachMore_62 rfl fl_X7_25 (fun _ _ _ _ => rfl) (by assumption) sh_111 (Nat.le_of_ble_eq_true rfl) ?_
                  refine s_getR 68 dX7_reachMore_65 rfl fl_X7_47 (fun _ _ _ _ => rfl) (T_X5_orderList hT (by assumption)) (isP_sh (by assumption)) (isP_lt (by assumption)) ?_
                  refine s_iload 70 dX7_reachMore_68 rfl rfl ?_
                  refine s_iald 71 dX7_reachMore_70 rfl (shP_orderList (by assumption)) (ltP_orderList (by assumption)) (by omega) (by omega) (fun r_70 => ?_)
                  refine s_callV0 (M' := M_X7_isOneSwap) (as := [_, _]) 74 dX7_reachMore_71 rfl cw_X7_82 rfl rfl sh_111 rfl (by decide) (Nat.le_of_ble_eq_true rfl) (Nat.le_of_ble_eq_true rfl) (Nat.le_of_ble_eq_true rfl) (Nat.le_of_ble_eq_true rfl) ⟨rfl, rfl, rfl⟩ ?_
                  refine c_X7_isOneSwap hT hP h7 hr (W1 g4).1 eo eo' (Lk_m h2 hi) (Lk_m g2 hj) ?_
                  refine s_ifb_eq 89 77 dX7_reachMore_74 rfl rfl (fun h_74 => ?_) (fun h_74 => ?_)
                  · skip
                    refine s_iinc (ls' := [_, _, _, _, _]) 92 dX7_reachMore_89 rfl rfl (Nat.le_of_ble_eq_true rfl) rfl rfl ?_
                    refine s_goto 18 dX7_reachMore_92 rfl ?_
                    first | exact skp _ rfl (fun _ => h_74) | exact put h_74
                  refine s_aload_n 78 dX7_reachMore_77 rfl rfl ?_
                  refine s_getR 81 dX7_reachMore_78 rfl fl_X7_9 (fun _ _ _ _ => rfl) (T_X7_steps hT) sh_111 (Nat.le_of_ble_eq_true rfl) ?_
                  refine s_iload 83 dX7_reachMore_81 rfl rfl ?_
                  refine s_iload_n 84 dX7_reachMore_83 rfl rfl ?_
                  refine s_iconst 85 dX7_reachMore_84 rfl ?_
                  refine s_iadd 86 dX7_reachMore_85 rfl ?_
                  refine s_iast 87 dX7_reachMore_86 rfl sh_112 (Nat.le_of_ble_eq_true rfl) (by omega) (by omega) (by first | omega | exact bI_r _ | exact iI_r _) ?_
                  refine s_iconst 88 dX7_reachMore_87 rfl ?_
                  refine s_istore_n (ls' := [_, _, _, _, _]) 89 dX7_reachMore_88 rfl (Nat.le_of_ble_eq_true rfl) rfl rfl ?_
                  refine s_iinc (ls' := [_, _, _, _, _]) 92 dX7_reachMore_89 rfl rfl (Nat.le_of_ble_eq_true rfl) rfl rfl ?_
                  refine s_goto 18 dX7_reachMore_92 rfl ?_
                  first | exact skp _ rfl (fun _ => h_74) | exact put h_74
                · skip
                  refine s_aload_n 19 dX7_reachMore_18 rfl rfl ?_
                  refine s_getR 22 dX7_reachMore_19 rfl fl_X7_9 (fun _ _ _ _ => rfl) (T_X7_steps hT) sh_111 (Nat.le_of_ble_eq_true rfl) ?_
                  refine s_iload_n 23 dX7_reachMore_22 rfl rfl ?_
                  refine s_iald 24 dX7_reachMore_23 rfl sh_112 (Nat.le_of_ble_eq_true rfl) (by omega) (by omega) (fun r_23 => ?_)
                  rw [es]
                  refine s_iload_n 25 dX7_reachMore_24 rfl rfl ?_
                  refine s_icmp_ne 95 28 dX7_reachMore_25 rfl rfl (by first | omega | exact bI_r _ | exact iI_r _) (by first | omega | exact bI_r _ | exact iI_r _) (fun h_25 => by exfalso; omega) (fun h_25 => ?_)
                  refine s_iload 30 dX7_reachMore_28 rfl rfl ?_
                  refine s_aload_n 31 dX7_reachMore_30 rfl rfl ?_
                  refine s_getR 34 dX7_reachMore_31 rfl fl_X7_25 (fun _ _ _ _ => rfl) (by assumption) sh_111 (Nat.le_of_ble_eq_true rfl) ?_
                  refine s_getI 37 dX7_reachMore_34 rfl fl_X7_42 (fun _ _ _ _ => rfl) (isP_sh (by assumption)) (isP_lt (by assumption)) (fun r_34 => ?_)
                  rw [e82]
                  refine s_icmp_ge 95 40 dX7_reachMore_37 rfl rfl (by first | omega | exact bI_r _ | exact iI_r _) (by first | omega | exact bI_r _ | exact iI_r _) (fun h_37 => by exfalso; omega) (fun h_37 => ?_)
                  refine s_aload_n 41 dX7_reachMore_40 rfl rfl ?_
                  refine s_getR 44 dX7_reachMore_41 rfl fl_X7_9 (fun _ _ _ _ => rfl) (T_X7_steps hT) sh_111 (Nat.le_of_ble_eq_true rfl) ?_
                  refine s_iload 46 dX7_reachMore_44 rfl rfl ?_
                  refine s_iald 47 dX7_reachMore_46 rfl sh_112 (Nat.le_of_ble_eq_true rfl) (by omega) (by omega) (fun r_46 => ?_)
                  refine s_iconst 48 dX7_reachMore_47 rfl ?_
                  refine s_icmp_ne 89 51 dX7_reachMore_48 rfl rfl (by first | omega | exact bI_r _ | exact iI_r _) (by first | omega | exact bI_r _ | exact iI_r _) (fun h_48 => ?_) (fun h_48 => by exfalso; omega)
                  refine s_iinc (ls' := [_, _, _, _, _]) 92 dX7_reachMore_89 rfl rfl (Nat.le_of_ble_eq_true rfl) rfl rfl ?_
                  refine s_goto 18 dX7_reachMore_92 rfl ?_
                  exact skp _ rfl (fun z => absurd z hz)
              · skip
                refine s_aload_n 19 dX7_reachMore_18 rfl rfl ?_
                refine s_getR 22 dX7_reachMore_19 rfl fl_X7_9 (fun _ _ _ _ => rfl) (T_X7_steps hT) sh_111 (Nat.le_of_ble_eq_true rfl) ?_
                refine s_iload_n 23 dX7_reachMore_22 rfl rfl ?_
                refine s_iald 24 dX7_reachMore_23 rfl sh_112 (Nat.le_of_ble_eq_true rfl) (by omega) (by omega) (fun r_23 => ?_)
                rw [es]
                refine s_iload_n 25 dX7_reachMore_24 rfl rfl ?_
                refine s_icmp_ne 95 28 dX7_reachMore_25 rfl rfl (by first | omega | exact bI_r _ | exact iI_r _) (by first | omega | exact bI_r _ | exact iI_r _) (fun h_25 => by exfalso; omega) (fun h_25 => ?_)
                refine s_iload 30 dX7_reachMore_28 rfl rfl ?_
                refine s_aload_n 31 dX7_reachMore_30 rfl rfl ?_
                refine s_getR 34 dX7_reachMore_31 rfl fl_X7_25 (fun _ _ _ _ => rfl) (by assumption) sh_111 (Nat.le_of_ble_eq_true rfl) ?_
                refine s_getI 37 dX7_reachMore_34 rfl fl_X7_42 (fun _ _ _ _ => rfl) (isP_sh (by assumption)) (isP_lt (by assumption)) (fun r_34 => ?_)
                rw [e82]
                refine s_icmp_ge 95 40 dX7_reachMore_37 rfl rfl (by first | omega | exact bI_r _ | exact iI_r _) (by first | omega | exact bI_r _ | exact iI_r _) (fun h_37 => ?_) (fun h_37 => by exfalso; omega)
                refine s_iinc (ls' := [_, _, _, _, _]) 98 dX7_reachMore_95 rfl rfl (Nat.le_of_ble_eq_true rfl) rfl rfl ?_
                refine s_goto 4 dX7_reachMore_98 rfl ?_
                exact ih (i + 1) I2 M8 _ (by omega) (by omega) (by omega) g4 (g5.mo (fun i' j' a1 a2 b1 b2 c1 c2 c3 => Or.inl (by omega))) g6
            · skip
              refine s_aload_n 19 dX7_reachMore_18 rfl rfl ?_
              refine s_getR 22 dX7_reachMore_19 rfl fl_X7_9 (fun _ _ _ _ => rfl) (T_X7_steps hT) sh_111 (Nat.le_of_ble_eq_true rfl) ?_
              refine s_iload_n 23 dX7_reachMore_22 rfl rfl ?_
              refine s_iald 24 dX7_reachMore_23 rfl sh_112 (Nat.le_of_ble_eq_true rfl) (by omega) (by omega) (fun r_23 => ?_)
              refine s_iload_n 25 dX7_reachMore_24 rfl rfl ?_
              refine s_icmp_ne 95 28 dX7_reachMore_25 rfl rfl (by first | omega | exact bI_r _ | exact iI_r _) (by first | omega | exact bI_r _ | exact iI_r _) (fun h_25 => ?_) (fun h_25 => by exfalso; exact hs (vi3 h_25))
              refine s_iinc (ls' := [_, _, _, _, _]) 98 dX7_reachMore_95 rfl rfl (Nat.le_of_ble_eq_true rfl) rfl rfl ?_
              refine s_goto 4 dX7_reachMore_98 rfl ?_
              exact ih (i + 1) I2 M8 _ (by omega) (by omega) (by omega) g4 (g5.mo (fun i' j' a1 a2 b1 b2 c1 c2 c3 => Or.inl (by have : i' ≠ i := fun e => hs (by rw [← e]; exact c1); omega))) g6
        refine s_iload_n 5 dX7_reachMore_4 rfl rfl ?_
        refine s_aload_n 6 dX7_reachMore_5 rfl rfl ?_
        refine s_getR 9 dX7_reachMore_6 rfl fl_X7_25 (fun _ _ _ _ => rfl) (by assumption) sh_111 (Nat.le_of_ble_eq_true rfl) ?_
        refine s_getI 12 dX7_reachMore_9 rfl fl_X7_42 (fun _ _ _ _ => rfl) (isP_sh (by assumption)) (isP_lt (by assumption)) (fun r_9 => ?_)
        rw [e8]
        refine s_icmp_ge 101 15 dX7_reachMore_12 rfl rfl (by first | omega | exact bI_r _ | exact iI_r _) (by first | omega | exact bI_r _ | exact iI_r _) (fun h_12 => by exfalso; omega) (fun h_12 => ?_)
        refine s_iconst 16 dX7_reachMore_15 rfl ?_
        refine s_istore (ls' := [_, _, _, _, _]) 18 dX7_reachMore_16 rfl (Nat.le_of_ble_eq_true rfl) rfl rfl ?_
        exact inner 122 0 I1 M9 (by omega) (by omega) (by omega) h4 (h5.mo (fun i' j' a1 a2 b1 b2 c1 c2 c3 => Or.inl (by omega))) h6
      · have ei : i = ((ordL r).length : Int) := by omega
        subst ei
        have fin := h I1 h4 (StI.next hd.1 ha hS (fun j j1 j2 => (h5 j j1 j2).1) (fun j j1 j2 y => ((h5 j j1 j2).2 y).imp id (fun w => ⟨w.1, fun i i1 i2 i3 => w.2 i i1 i2 i3 i2⟩)))
        rw [← bI_c h6] at fin
        refine s_iload_n 5 dX7_reachMore_4 rfl rfl ?_
        refine s_aload_n 6 dX7_reachMore_5 rfl rfl ?_
        refine s_getR 9 dX7_reachMore_6 rfl fl_X7_25 (fun _ _ _ _ => rfl) (by assumption) sh_111 (Nat.le_of_ble_eq_true rfl) ?_
        refine s_getI 12 dX7_reachMore_9 rfl fl_X7_42 (fun _ _ _ _ => rfl) (isP_sh (by assumption)) (isP_lt (by assumption)) (fun r_9 => ?_)
        rw [e8]
        refine s_icmp_ge 101 15 dX7_reachMore_12 rfl rfl (by first | omega | exact bI_r _ | exact iI_r _) (by first | omega | exact bI_r _ | exact iI_r _) (fun h_12 => ?_) (fun h_12 => by exfalso; omega)
        refine s_iload_n 102 dX7_reachMore_101 rfl rfl ?_
        refine s_zret dX7_reachMore_102 rfl (bI_b M9) rfl ?_
        exact fin
  have st0 := outer 122 0 I False none (by omega) (by omega) (by omega) Eqo.rf (fun j j1 j2 => by
    rw [← eS]
    exact ⟨fun _ => rfl, fun y => Or.inr ⟨y, fun i i1 i2 i3 i4 => by omega⟩⟩) ⟨fun z => z.elim, fun ⟨k, k1, k2, k3⟩ => by rw [← eS] at k3; have := sb k k1 k2; omega⟩
  rw [bI_f id] at st0
  refine s_iconst 1 dX7_reachMore_0 rfl ?_
  refine s_istore_n (ls' := [_, _, _, _, _]) 2 dX7_reachMore_1 rfl (Nat.le_of_ble_eq_true rfl) rfl rfl ?_
  refine s_iconst 3 dX7_reachMore_2 rfl ?_
  refine s_istore_n (ls' := [_, _, _, _, _]) 4 dX7_reachMore_3 rfl (Nat.le_of_ble_eq_true rfl) rfl rfl ?_
  exact st0
