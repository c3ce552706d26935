/-! acts, by the reference -/
def rowAt (M : F1) (i : Int) : List Int := (List.range 13).map (fun k : Nat => M (13 * i + k))
def hist (M : F1) (n : Nat) : List (List Int) := (List.range n).map (fun i : Nat => rowAt M i)
/-- what is kept behind what was, twelve at most -/
def kp (l : List (List Int)) (x : List Int) : List (List Int) := (if l.length = 12 then l.tail else l) ++ [x]
theorem rowAt_c {M M' : F1} {i i' : Int} (h : ∀ k, 0 ≤ k → k < 13 → M (13 * i + k) = M' (13 * i' + k)) : rowAt M i = rowAt M' i' := by
  unfold rowAt
  apply List.map_congr_left
  intro k hk
  rw [List.mem_range] at hk
  exact h k (by omega) (by omega)
theorem hist_c {M M' : F1} {n : Nat} (h : ∀ k : Int, 0 ≤ k → k < 13 * n → M k = M' k) : hist M n = hist M' n := by
  unfold hist
  apply List.map_congr_left
  intro i hi
  rw [List.mem_range] at hi
  exact rowAt_c (fun k a b => h _ (by omega) (by omega))
theorem hist_s {M : F1} {n : Nat} : hist M (n + 1) = hist M n ++ [rowAt M n] := by
  unfold hist
  rw [List.range_succ, List.map_append]
  rfl
theorem hist_len {M : F1} {n : Nat} : (hist M n).length = n := by simp [hist]
theorem hist_t {M M' : F1} {n : Nat} (h : ∀ k : Int, 0 ≤ k → k < 13 * n → M' k = M (k + 13)) : hist M' n = (hist M (n + 1)).tail := by
  unfold hist
  rw [List.range_succ_eq_map, List.map_cons, List.tail_cons, List.map_map]
  apply List.map_congr_left
  intro i hi
  rw [List.mem_range] at hi
  refine rowAt_c (fun k a b => ?_)
  rw [h _ (by omega) (by omega)]
  show M (13 * (i : Int) + k + 13) = M (13 * ((i + 1 : Nat) : Int) + k)
  congr 1
  omega
set_option maxHeartbeats 4000000 in
theorem c_X12_keep {E : ET} {I : MI} {L : ML} {R : MR} {Q : Option AV → MI → ML → MR → Prop} {a b nb : Nat} {n : Int} {U : List (List Int)} (ha : sh a = (20, 156)) (ha1 : a < 161) (hb : sh b = (20, nb)) (hb1 : b < 161) (hnb : 13 ≤ nb ∧ nb ≤ 300) (hab : b ≠ a) (hn : n = U.length) (hu : U.length ≤ 12) (eU : hist (I a) U.length = U) (h : ∀ I', Eqo [a] I I' → hist (I' a) (kp U (rowAt (I b) 0)).length = kp U (rowAt (I b) 0) → Q (some (vi (kp U (rowAt (I b) 0)).length)) I' L R) : CT E M_X12_keep 161 yX12_keep [(vr (a)), (vi (n)), (vr (b))] I L R Q := by
  refine CT_of rfl rfl (fun h => by cases h) (Nat.le_of_ble_eq_true rfl) (fun X => ?_)
  show V X _ z0 0 [some (vr (a)), some (vi (n)), some (vr (b)), none, none] [] I L R _
  have fin : ∀ (m : Nat) (w4 : Option AV) (I1 : MI), m ≤ 11 → Eqo [a] I I1 → hist (I1 a) m = (if U.length = 12 then U.tail else U) → V X M_X12_keep z0 39 [some (vr a), some (vi n), some (vr b), some (vi (m : Nat)), w4] [] I1 L R (RT X M_X12_keep Q) := by
    intro m w4 I1 h1 h2 h3
    have ek : kp U (rowAt (I b) 0) = hist (I1 a) m ++ [rowAt (I b) 0] := by unfold kp; rw [h3]
    have el : (kp U (rowAt (I b) 0)).length = m + 1 := by rw [ek, List.length_append, hist_len]; rfl
    rw [el] at h
    have h := h
    refine s_aload_n 40 dX12_keep_39 rfl rfl ?_
    refine s_iconst 41 dX12_keep_40 rfl ?_
    refine s_aload_n 42 dX12_keep_41 rfl rfl ?_
    refine s_bipush 44 dX12_keep_42 rfl (by decide) ?_
    refine s_iload_n 45 dX12_keep_44 rfl rfl ?_
    refine s_imul 46 dX12_keep_45 rfl ?_
    refine s_bipush 48 dX12_keep_46 rfl (by decide) ?_
    refine s_callS0 (M' := M_X12_copy) (as := [_, _, _, _, _]) 51 dX12_keep_48 rfl cw_X12_199 rfl rfl (Nat.le_of_ble_eq_true rfl) (Nat.le_of_ble_eq_true rfl) (Nat.le_of_ble_eq_true rfl) ⟨rfl, rfl, rfl⟩ ?_
    refine c_X12_copy hb ha (by omega) hb1 ha1 hab (by omega) (by omega) (by omega) ?_
    refine s_iload_n 52 dX12_keep_51 rfl rfl ?_
    refine s_iconst 53 dX12_keep_52 rfl ?_
    refine s_iadd 54 dX12_keep_53 rfl ?_
    refine s_iret dX12_keep_54 rfl rfl ?_
    refine h _ (fun c hc => ?_) ?_
    · have : c ≠ a := by simpa using hc
      rw [cpI_ne this]; exact h2 c hc
    · rw [cpI_eq, hist_s, ek]
      congr 1
      · refine hist_c (fun k z1 z2 => ?_)
        show (if 13 * (m : Int) ≤ k ∧ _ then _ else _) = _
        rw [if_neg (by omega)]
      · congr 1
        refine rowAt_c (fun k z1 z2 => ?_)
        show (if 13 * (m : Int) ≤ 13 * (m : Int) + k ∧ _ then _ else _) = _
        rw [if_pos (by omega), h2 b (by simpa using hab)]
        congr 1
        omega
  have loop : ∀ (f : Nat) (k : Int) (I1 : MI), 143 - k < (f : Int) → 0 ≤ k → k ≤ 143 → n = 12 → Eqo [a] I I1 → (∀ j, 0 ≤ j → j < k → I1 a j = I a (j + 13)) → (∀ j, k ≤ j → I1 a j = I a j) → V X M_X12_keep z0 11 [some (vr (a)), some (vi (n)), some (vr (b)), some (vi (n)), some (vi (k))] [] (I1) L R (RT X M_X12_keep Q) := by
    intro f
    induction f with
    | zero => intro k I1 h1 h2 h3; omega
    | succ f ih =>
      intro k I1 h1 h2 h3 h4 h5 h6 h7
      refine s_iload 13 dX12_keep_11 rfl rfl ?_
      refine s_sipush 16 dX12_keep_13 rfl (by decide) ?_
      refine s_icmp_ge 36 19 dX12_keep_16 rfl rfl (by first | omega | exact bI_r _ | exact iI_r _) (by first | omega | exact bI_r _ | exact iI_r _) (fun h_16 => ?_) (fun h_16 => ?_)
      · skip
        refine s_iinc (ls' := [_, _, _, _, _]) 39 dX12_keep_36 rfl rfl (Nat.le_of_ble_eq_true rfl) rfl rfl ?_
        have hf := fin 11 (some (vi k)) I1 (by omega) h5 ?_
        · rw [h4] at hf ⊢; exact hf
        · rw [if_pos (by omega), ← eU, show U.length = 11 + 1 by omega]
          exact hist_t (fun j z1 z2 => h6 j z1 (by omega))
      refine s_aload_n 20 dX12_keep_19 rfl rfl ?_
      refine s_iload 22 dX12_keep_20 rfl rfl ?_
      refine s_aload_n 23 dX12_keep_22 rfl rfl ?_
      refine s_iload 25 dX12_keep_23 rfl rfl ?_
      refine s_bipush 27 dX12_keep_25 rfl (by decide) ?_
      refine s_iadd 28 dX12_keep_27 rfl ?_
      refine s_iald 29 dX12_keep_28 rfl (by assumption) (by assumption) (by omega) (by omega) (fun r_28 => ?_)
      refine s_iast 30 dX12_keep_29 rfl (by assumption) (by assumption) (by omega) (by omega) (by first | omega | exact bI_r _ | exact iI_r _) ?_
      refine s_iinc (ls' := [_, _, _, _, _]) 33 dX12_keep_30 rfl rfl (Nat.le_of_ble_eq_true rfl) rfl rfl ?_
      refine s_goto 11 dX12_keep_33 rfl ?_
      refine ih (k + 1) _ (by omega) (by omega) (by omega) h4 (h5.st (by simp)) (fun j z1 z2 => ?_) (fun j z1 => ?_)
      · rw [upd9]
        by_cases ej : j = k
        · rw [if_pos ej, ej]; exact h7 _ (by omega)
        · rw [if_neg ej]; exact h6 j z1 (by omega)
      · rw [upn (by omega)]; exact h7 j (by omega)
  by_cases h12 : n = 12
  · skip
    refine s_iload_n 1 dX12_keep_0 rfl rfl ?_
    refine s_istore_n (ls' := [_, _, _, _, _]) 2 dX12_keep_1 rfl (Nat.le_of_ble_eq_true rfl) rfl rfl ?_
    refine s_iload_n 3 dX12_keep_2 rfl rfl ?_
    refine s_bipush 5 dX12_keep_3 rfl (by decide) ?_
    refine s_icmp_ne 39 8 dX12_keep_5 rfl rfl (by first | omega | exact bI_r _ | exact iI_r _) (by first | omega | exact bI_r _ | exact iI_r _) (fun h_5 => by exfalso; omega) (fun h_5 => ?_)
    refine s_iconst 9 dX12_keep_8 rfl ?_
    refine s_istore (ls' := [_, _, _, _, _]) 11 dX12_keep_9 rfl (Nat.le_of_ble_eq_true rfl) rfl rfl ?_
    exact loop 144 0 I (by omega) (by omega) (by omega) h12 Eqo.rf (fun j a b => by omega) (fun _ _ => rfl)
  · skip
    refine s_iload_n 1 dX12_keep_0 rfl rfl ?_
    refine s_istore_n (ls' := [_, _, _, _, _]) 2 dX12_keep_1 rfl (Nat.le_of_ble_eq_true rfl) rfl rfl ?_
    refine s_iload_n 3 dX12_keep_2 rfl rfl ?_
    refine s_bipush 5 dX12_keep_3 rfl (by decide) ?_
    refine s_icmp_ne 39 8 dX12_keep_5 rfl rfl (by first | omega | exact bI_r _ | exact iI_r _) (by first | omega | exact bI_r _ | exact iI_r _) (fun h_5 => ?_) (fun h_5 => by exfalso; omega)
    have hf := fin U.length none I (by omega) Eqo.rf (by rw [if_neg (by omega)]; exact eU)
    rw [← hn] at hf; exact hf
