/-! FEWEST by the reference: all CASTS in their row -/
def ncP (v : F1) : Nat → Nat
  | 0 => 0
  | p + 1 => if v ((p + 1 : Nat) : Int) > mxF v (p + 1) then ncP v p else p + 1
def ncN (v : F1) (p : Int) : F1 := fun k => if k < p then v k else if k = p then v p + 1 else 0
theorem mxF_c {v v' : F1} : ∀ {n : Nat} (_ : ∀ k : Int, 0 ≤ k → k < n → v k = v' k), mxF v n = mxF v' n
  | 0, _ => rfl
  | n + 1, h => by
    unfold mxF
    rw [mxF_c (n := n) (fun k h1 h2 => h k h1 (by omega)), h n (by omega) (by omega)]
theorem plF_c {v v' : F1} : ∀ {n : Nat} (_ : ∀ k : Int, 0 ≤ k → k < n → v k = v' k), plF v n = plF v' n
  | 0, _ => rfl
  | n + 1, h => by
    unfold plF
    rw [plF_c (n := n) (fun k h1 h2 => h k h1 (by omega)), h n (by omega) (by omega)]
theorem ncP_c {v v' : F1} : ∀ {n : Nat} (_ : ∀ k : Int, 0 ≤ k → k < n + 1 → v k = v' k), ncP v n = ncP v' n
  | 0, _ => rfl
  | n + 1, h => by
    unfold ncP
    rw [ncP_c (n := n) (fun k h1 h2 => h k h1 (by omega)), mxF_c (n := n + 1) (fun k h1 h2 => h k h1 (by omega)), h ((n + 1 : Nat) : Int) (by omega) (by omega)]
theorem grF_c {v v' : F1} {n q : Int} (h : ∀ k : Int, 0 ≤ k → k < n → v k = v' k) : grF v n q = grF v' n q := setOf_c (fun k h1 h2 => by rw [h k h1 (by omega)])
theorem ncP_le (v : F1) : ∀ n, ncP v n ≤ n
  | 0 => Nat.le_refl _
  | n + 1 => by
    unfold ncP
    split
    · exact Nat.le_succ_of_le (ncP_le v n)
    · exact Nat.le_refl _
set_option maxHeartbeats 4000000 in
theorem c_X12_nextCast {E : ET} {I : MI} {L : ML} {R : MR} {Q : Option AV → MI → ML → MR → Prop} {r v : F1} (hT : Topo R) (er : I 141 = r) (ev : I 155 = v) (hr : WFr r) (hv : ∀ p, 0 ≤ p → p < r 4 → 0 ≤ v p ∧ v p ≤ 6) (h : (ncP v (r 4 - 1).toNat = 0 → Q (some (vi (bI False))) I L R) ∧ (ncP v (r 4 - 1).toNat ≠ 0 → ∀ I', Eqo [155] I I' → (∀ k, 0 ≤ k → k < r 4 → I' 155 k = ncN v (ncP v (r 4 - 1).toNat) k) → Q (some (vi (bI True))) I' L R)) : CT E M_X12_nextCast 161 yX12_nextCast [(vr (138))] I L R Q := by
  refine CT_of rfl rfl (fun h => by cases h) (Nat.le_of_ble_eq_true rfl) (fun X => ?_)
  show V X _ z0 0 [some (vr (138)), none, none, none] [] I L R _
  have e0 := hr.1
  have loop : ∀ (f : Nat) (p : Int) (w2 w3 : Option AV), p < (f : Int) → 0 ≤ p → p ≤ r 4 - 1 → ncP v (r 4 - 1).toNat = ncP v p.toNat → V X M_X12_nextCast z0 9 [some (vr 138), some (vi p), w2, w3] [] I L R (RT X M_X12_nextCast Q) := by
    intro f
    induction f with
    | zero => intro p w2 w3 h1 h2 h3; omega
    | succ f ih =>
      intro p w2 w3 h1 h2 h3 hp
      have wr : ∀ (g : Nat) (k m : Int) (I1 : MI), r 4 - k < (g : Int) → 0 < p → ncP v (r 4 - 1).toNat = p.toNat → p < k → k ≤ r 4 → Eqo [155] I I1 → (∀ j, 0 ≤ j → j < k → I1 155 j = ncN v p j) → V X M_X12_nextCast z0 76 [some (vr (138)), some (vi (p)), some (vi (m)), some (vi (k))] [] (I1) L R (RT X M_X12_nextCast Q) := by
        intro g
        induction g with
        | zero => intro k m I1 k1 k2 k3 k4 k5; omega
        | succ g ih2 =>
          intro k m I1 k1 k2 k3 k4 k5 k6 k7
          have er : I1 141 = r := (k6 141 (by decide)).trans er
          refine s_iload_n 77 dX12_nextCast_76 rfl rfl ?_
          refine s_aload_n 78 dX12_nextCast_77 rfl rfl ?_
          refine s_getR 81 dX12_nextCast_78 rfl fl_X12_20 (fun _ _ _ _ => rfl) (T_X12_r hT) sh_138 (Nat.le_of_ble_eq_true rfl) ?_
          refine s_iconst 82 dX12_nextCast_81 rfl ?_
          refine s_iald 83 dX12_nextCast_82 rfl sh_141 (Nat.le_of_ble_eq_true rfl) (by omega) (by omega) (fun r_82 => ?_)
          rw [er] at r_82 ⊢
          refine s_icmp_ge 99 86 dX12_nextCast_83 rfl rfl (by first | omega | exact bI_r _ | exact iI_r _) (by first | omega | exact bI_r _ | exact iI_r _) (fun h_83 => ?_) (fun h_83 => ?_)
          · skip
            refine s_iconst 100 dX12_nextCast_99 rfl ?_
            refine s_zret dX12_nextCast_100 rfl (by first | omega | exact bI_b _) rfl ?_
            refine ret_t (b := True) trivial (h.2 (by omega) I1 k6 (fun j a1 a2 => ?_))
            rw [k3, show ((p.toNat : Nat) : Int) = p by omega]
            exact k7 j a1 (by omega)
          skip
          refine s_aload_n 87 dX12_nextCast_86 rfl rfl ?_
          refine s_getR 90 dX12_nextCast_87 rfl fl_X12_66 (fun _ _ _ _ => rfl) (T_X12_given hT) sh_138 (Nat.le_of_ble_eq_true rfl) ?_
          refine s_iload_n 91 dX12_nextCast_90 rfl rfl ?_
          refine s_iconst 92 dX12_nextCast_91 rfl ?_
          refine s_iast 93 dX12_nextCast_92 rfl sh_155 (Nat.le_of_ble_eq_true rfl) (by omega) (by omega) (by first | omega | exact bI_r _ | exact iI_r _) ?_
          refine s_iinc (ls' := [_, _, _, _]) 96 dX12_nextCast_93 rfl rfl (Nat.le_of_ble_eq_true rfl) rfl rfl ?_
          refine s_goto 76 dX12_nextCast_96 rfl ?_
          refine ih2 (k + 1) m _ (by omega) k2 k3 (by omega) (by omega) (k6.st (by decide)) (fun j a1 a2 => ?_)
          rw [upd9]
          by_cases ej : j = k
          · rw [if_pos ej]; unfold ncN; rw [if_neg (by omega), if_neg (by omega)]
          · rw [if_neg ej]; exact k7 j a1 (by omega)
      have cmp49 : ∀ w3, 0 < p → V X M_X12_nextCast z0 49 [some (vr 138), some (vi p), some (vi (mxF v p.toNat)), w3] [] I L R (RT X M_X12_nextCast Q) := by
        intro w3 k4
        have e1 := hv p h2 (by omega)
        have e4 := mxF_b hv p.toNat (by omega)
        have e5 : ncP v p.toNat = if v p > mxF v p.toNat then ncP v (p - 1).toNat else p.toNat := by
          rw [show p.toNat = (p - 1).toNat + 1 by omega]
          show (if v (((p - 1).toNat + 1 : Nat) : Int) > _ then _ else _) = _
          rw [show (((p - 1).toNat + 1 : Nat) : Int) = p by omega]
        have hpos : v p ≤ mxF v p.toNat → ncP v (r 4 - 1).toNat = p.toNat := fun z => by rw [hp, e5, if_neg (by omega)]
        have hneg : v p > mxF v p.toNat → ncP v (r 4 - 1).toNat = ncP v (p - 1).toNat := fun z => by rw [hp, e5, if_pos z]
        refine s_aload_n 50 dX12_nextCast_49 rfl rfl ?_
        refine s_getR 53 dX12_nextCast_50 rfl fl_X12_66 (fun _ _ _ _ => rfl) (T_X12_given hT) sh_138 (Nat.le_of_ble_eq_true rfl) ?_
        refine s_iload_n 54 dX12_nextCast_53 rfl rfl ?_
        refine s_iald 55 dX12_nextCast_54 rfl sh_155 (Nat.le_of_ble_eq_true rfl) (by omega) (by omega) (fun r_54 => ?_)
        rw [ev] at r_54 ⊢
        refine s_iload_n 56 dX12_nextCast_55 rfl rfl ?_
        refine s_icmp_le 62 59 dX12_nextCast_56 rfl rfl (by first | omega | exact bI_r _ | exact iI_r _) (by first | omega | exact bI_r _ | exact iI_r _) (fun h_56 => ?_) (fun h_56 => ?_)
        · skip
          refine s_aload_n 63 dX12_nextCast_62 rfl rfl ?_
          refine s_getR 66 dX12_nextCast_63 rfl fl_X12_66 (fun _ _ _ _ => rfl) (T_X12_given hT) sh_138 (Nat.le_of_ble_eq_true rfl) ?_
          refine s_iload_n 67 dX12_nextCast_66 rfl rfl ?_
          refine s_dup2 68 dX12_nextCast_67 rfl rfl rfl ?_
          refine s_iald 69 dX12_nextCast_68 rfl sh_155 (Nat.le_of_ble_eq_true rfl) (by omega) (by omega) (fun r_68 => ?_)
          rw [ev] at r_68 ⊢
          refine s_iconst 70 dX12_nextCast_69 rfl ?_
          refine s_iadd 71 dX12_nextCast_70 rfl ?_
          refine s_iast 72 dX12_nextCast_71 rfl sh_155 (Nat.le_of_ble_eq_true rfl) (by omega) (by omega) (by first | omega | exact bI_r _ | exact iI_r _) ?_
          refine s_iload_n 73 dX12_nextCast_72 rfl rfl ?_
          refine s_iconst 74 dX12_nextCast_73 rfl ?_
          refine s_iadd 75 dX12_nextCast_74 rfl ?_
          refine s_istore_n (ls' := [_, _, _, _]) 76 dX12_nextCast_75 rfl (Nat.le_of_ble_eq_true rfl) rfl rfl ?_
          refine wr (r 4 - p).toNat (p + 1) _ _ (by omega) k4 (hpos (by omega)) (by omega) (by omega) (Eqo.rf.st (by decide)) (fun j a1 a2 => ?_)
          rw [upd9, ev]
          unfold ncN
          by_cases ej : j = p
          · rw [if_pos ej, if_neg (by omega), if_pos ej]
          · rw [if_neg ej, if_pos (by omega)]
        refine s_goto 101 dX12_nextCast_59 rfl ?_
        refine s_iinc (ls' := [_, _, _, _]) 104 dX12_nextCast_101 rfl rfl (Nat.le_of_ble_eq_true rfl) rfl rfl ?_
        refine s_goto 9 dX12_nextCast_104 rfl ?_
        exact ih (p - 1) _ _ (by omega) (by omega) (by omega) (hneg (by omega))
      have mx : ∀ (g : Nat) (k : Int), p - k < (g : Int) → 0 ≤ k → k ≤ p → 0 < p → V X M_X12_nextCast z0 17 [some (vr (138)), some (vi (p)), some (vi (mxF v k.toNat)), some (vi (k))] [] (I) L R (RT X M_X12_nextCast Q) := by
        intro g
        induction g with
        | zero => intro k k1 k2 k3; omega
        | succ g ih2 =>
          intro k k1 k2 k3 k4
          have e1 := hv p h2 (by omega)
          have e4 := mxF_b hv p.toNat (by omega)
          refine s_iload_n 18 dX12_nextCast_17 rfl rfl ?_
          refine s_iload_n 19 dX12_nextCast_18 rfl rfl ?_
          refine s_icmp_ge 49 22 dX12_nextCast_19 rfl rfl (by first | omega | exact bI_r _ | exact iI_r _) (by first | omega | exact bI_r _ | exact iI_r _) (fun h_19 => ?_) (fun h_19 => ?_)
          · skip
            have ek : k = p := by omega
            subst ek
            exact cmp49 _ k4
          skip
          have e2 := hv k k2 (by omega)
          have e3 := mxF_s (v := v) k2
          have e5 := mxF_b hv k.toNat (by omega)
          refine s_aload_n 23 dX12_nextCast_22 rfl rfl ?_
          refine s_getR 26 dX12_nextCast_23 rfl fl_X12_66 (fun _ _ _ _ => rfl) (T_X12_given hT) sh_138 (Nat.le_of_ble_eq_true rfl) ?_
          refine s_iload_n 27 dX12_nextCast_26 rfl rfl ?_
          refine s_iald 28 dX12_nextCast_27 rfl sh_155 (Nat.le_of_ble_eq_true rfl) (by omega) (by omega) (fun r_27 => ?_)
          rw [ev] at r_27 ⊢
          refine s_iload_n 29 dX12_nextCast_28 rfl rfl ?_
          refine s_icmp_le 41 32 dX12_nextCast_29 rfl rfl (by first | omega | exact bI_r _ | exact iI_r _) (by first | omega | exact bI_r _ | exact iI_r _) (fun h_29 => ?_) (fun h_29 => ?_)
          · skip
            refine s_iload_n 42 dX12_nextCast_41 rfl rfl ?_
            refine s_istore_n (ls' := [_, _, _, _]) 43 dX12_nextCast_42 rfl (Nat.le_of_ble_eq_true rfl) rfl rfl ?_
            refine s_iinc (ls' := [_, _, _, _]) 46 dX12_nextCast_43 rfl rfl (Nat.le_of_ble_eq_true rfl) rfl rfl ?_
            refine s_goto 17 dX12_nextCast_46 rfl ?_
            have e9 := ih2 (k + 1) (by omega) (by omega) (by omega) k4
            first | (rw [e3, if_pos (by omega)] at e9; exact e9) | (rw [e3, if_neg (by omega)] at e9; exact e9)
          refine s_aload_n 33 dX12_nextCast_32 rfl rfl ?_
          refine s_getR 36 dX12_nextCast_33 rfl fl_X12_66 (fun _ _ _ _ => rfl) (T_X12_given hT) sh_138 (Nat.le_of_ble_eq_true rfl) ?_
          refine s_iload_n 37 dX12_nextCast_36 rfl rfl ?_
          refine s_iald 38 dX12_nextCast_37 rfl sh_155 (Nat.le_of_ble_eq_true rfl) (by omega) (by omega) (fun r_37 => ?_)
          rw [ev] at r_37 ⊢
          refine s_goto 42 dX12_nextCast_38 rfl ?_
          refine s_istore_n (ls' := [_, _, _, _]) 43 dX12_nextCast_42 rfl (Nat.le_of_ble_eq_true rfl) rfl rfl ?_
          refine s_iinc (ls' := [_, _, _, _]) 46 dX12_nextCast_43 rfl rfl (Nat.le_of_ble_eq_true rfl) rfl rfl ?_
          refine s_goto 17 dX12_nextCast_46 rfl ?_
          have e9 := ih2 (k + 1) (by omega) (by omega) (by omega) k4
          first | (rw [e3, if_pos (by omega)] at e9; exact e9) | (rw [e3, if_neg (by omega)] at e9; exact e9)
      refine s_iload_n 10 dX12_nextCast_9 rfl rfl ?_
      refine s_if_le 107 13 dX12_nextCast_10 rfl rfl (by first | omega | exact bI_r _ | exact iI_r _) (fun h_10 => ?_) (fun h_10 => ?_)
      · skip
        refine s_iconst 108 dX12_nextCast_107 rfl ?_
        refine s_zret dX12_nextCast_108 rfl (by first | omega | exact bI_b _) rfl ?_
        have ep : p = 0 := by omega
        subst ep
        exact ret_f (b := False) id (h.1 hp)
      refine s_iconst 14 dX12_nextCast_13 rfl ?_
      refine s_istore_n (ls' := [_, _, _, _]) 15 dX12_nextCast_14 rfl (Nat.le_of_ble_eq_true rfl) rfl rfl ?_
      refine s_iconst 16 dX12_nextCast_15 rfl ?_
      refine s_istore_n (ls' := [_, _, _, _]) 17 dX12_nextCast_16 rfl (Nat.le_of_ble_eq_true rfl) rfl rfl ?_
      exact mx (p + 1).toNat 0 (by omega) (by omega) (by omega) (by omega)
  refine s_aload_n 1 dX12_nextCast_0 rfl rfl ?_
  refine s_getR 4 dX12_nextCast_1 rfl fl_X12_20 (fun _ _ _ _ => rfl) (T_X12_r hT) sh_138 (Nat.le_of_ble_eq_true rfl) ?_
  refine s_iconst 5 dX12_nextCast_4 rfl ?_
  refine s_iald 6 dX12_nextCast_5 rfl sh_141 (Nat.le_of_ble_eq_true rfl) (by omega) (by omega) (fun r_5 => ?_)
  rw [er] at r_5 ⊢
  refine s_iconst 7 dX12_nextCast_6 rfl ?_
  refine s_isub 8 dX12_nextCast_7 rfl ?_
  refine s_istore_n (ls' := [_, _, _, _]) 9 dX12_nextCast_8 rfl (Nat.le_of_ble_eq_true rfl) rfl rfl ?_
  exact loop (r 4).toNat (r 4 - 1) none none (by omega) (by omega) (by omega) rfl
/-! all CASTS in the order of their numbers -/
def vL (l : List Int) : F1 := fun k => l.getD k.toNat 0
def rgs : Nat → List (List Int)
  | 0 => [[]]
  | n + 1 => (rgs n).flatMap (fun l => (List.range ((plF (vL l) n).toNat + 1)).map (fun q : Nat => l ++ [(q : Int)]))
def rgsOk (n : Nat) (l : List Int) : Bool := (List.range n).all (fun k => decide (0 ≤ vL l k) && decide (vL l k ≤ 6))
def rgsNx (n : Nat) : List (List Int) → Bool
  | [] => false
  | [l] => decide (ncP (vL l) (n - 1) = 0)
  | l :: l' :: t => decide (ncP (vL l) (n - 1) ≠ 0) && (List.range n).all (fun k => decide (vL l' k = ncN (vL l) (ncP (vL l) (n - 1)) k)) && rgsNx n (l' :: t)
def rgsAll (n : Nat) : Bool := (rgs n).all (rgsOk n) && rgsNx n (rgs n) && (List.range n).all (fun k => decide (vL ((rgs n).getD 0 []) k = 0))
theorem rgs_ok : rgsAll 1 = true ∧ rgsAll 2 = true ∧ rgsAll 3 = true ∧ rgsAll 4 = true ∧ rgsAll 5 = true ∧ rgsAll 6 = true ∧ rgsAll 7 = true := by decide +kernel
theorem rgsNx_at (n : Nat) : ∀ (L : List (List Int)), rgsNx n L = true → ∀ i, i < L.length → (i + 1 = L.length → ncP (vL (L.getD i [])) (n - 1) = 0) ∧ (i + 1 < L.length → ncP (vL (L.getD i [])) (n - 1) ≠ 0 ∧ ∀ k : Nat, k < n → vL (L.getD (i + 1) []) k = ncN (vL (L.getD i [])) (ncP (vL (L.getD i [])) (n - 1)) k)
  | [], h, i, hi => by simp at hi
  | [l], h, i, hi => by
    simp only [rgsNx, decide_eq_true_eq] at h
    have : i = 0 := by simp at hi; omega
    subst this
    exact ⟨fun _ => h, fun z => by simp at z⟩
  | l :: l' :: t, h, i, hi => by
    simp only [rgsNx, Bool.and_eq_true, decide_eq_true_eq, List.all_eq_true, List.mem_range] at h
    cases i with
    | zero => exact ⟨fun z => by simp at z, fun _ => ⟨h.1.1, fun k hk => h.1.2 k hk⟩⟩
    | succ i =>
      have := rgsNx_at n (l' :: t) h.2 i (by simpa using hi)
      exact ⟨fun z => this.1 (by simpa using z), fun z => this.2 (by simpa using z)⟩
theorem rgs_at {n : Nat} (hn : 1 ≤ n ∧ n ≤ 7) : rgsAll n = true := by
  have hc : n = 1 ∨ n = 2 ∨ n = 3 ∨ n = 4 ∨ n = 5 ∨ n = 6 ∨ n = 7 := by omega
  obtain ⟨a, b, c, d, e, f, g⟩ := rgs_ok
  rcases hc with rfl | rfl | rfl | rfl | rfl | rfl | rfl
  · exact a
  · exact b
  · exact c
  · exact d
  · exact e
  · exact f
  · exact g
theorem rgs_facts {n : Nat} (hn : 1 ≤ n ∧ n ≤ 7) : 0 < (rgs n).length ∧ (∀ k : Int, 0 ≤ k → k < n → vL ((rgs n).getD 0 []) k = 0) ∧
    (∀ i, i < (rgs n).length → (∀ k : Int, 0 ≤ k → k < n → 0 ≤ vL ((rgs n).getD i []) k ∧ vL ((rgs n).getD i []) k ≤ 6) ∧ (i + 1 = (rgs n).length → ncP (vL ((rgs n).getD i [])) (n - 1) = 0) ∧
      (i + 1 < (rgs n).length → ncP (vL ((rgs n).getD i [])) (n - 1) ≠ 0 ∧ ∀ k : Int, 0 ≤ k → k < n → vL ((rgs n).getD (i + 1) []) k = ncN (vL ((rgs n).getD i [])) (ncP (vL ((rgs n).getD i [])) (n - 1)) k)) := by
  have h := rgs_at hn
  simp only [rgsAll, Bool.and_eq_true, List.all_eq_true, List.mem_range, decide_eq_true_eq] at h
  obtain ⟨⟨h1, h2⟩, h3⟩ := h
  have cast : ∀ k : Int, 0 ≤ k → ((k.toNat : Nat) : Int) = k := fun k hk => by omega
  refine ⟨?_, fun k k1 k2 => ?_, fun i hi => ⟨fun k k1 k2 => ?_, ?_, fun z => ⟨?_, fun k k1 k2 => ?_⟩⟩⟩
  · cases hl : rgs n with
    | nil => rw [hl] at h2; simp [rgsNx] at h2
    | cons a t => simp
  · have := h3 k.toNat (by omega)
    rw [cast k k1] at this
    exact this
  · have hm : (rgs n).getD i [] ∈ rgs n := by
      rw [List.getD_eq_getElem?_getD, List.getElem?_eq_getElem hi]
      exact List.getElem_mem hi
    have := h1 _ hm
    simp only [rgsOk, List.all_eq_true, List.mem_range, Bool.and_eq_true, decide_eq_true_eq] at this
    have h4 := this k.toNat (by omega)
    rw [cast k k1] at h4
    exact h4
  · exact (rgsNx_at n _ h2 i hi).1
  · exact ((rgsNx_at n _ h2 i hi).2 z).1
  · have := ((rgsNx_at n _ h2 i hi).2 z).2 k.toNat (by omega)
    rw [cast k k1] at this
    exact this
theorem plF_nn (v : F1) : ∀ n, 0 ≤ plF v n
  | 0 => by simp [plF]
  | n + 1 => by
    have := plF_nn v n
    unfold plF
    split <;> omega
/-- all players of a CAST can -/
def GL (G : Int → Prop) (n : Nat) (v : F1) : Prop := ∀ q, 0 ≤ q → q < plF v n → G (grF v n q)
theorem GL_c {G : Int → Prop} {n : Nat} {v v' : F1} (h : ∀ k : Int, 0 ≤ k → k < n → v k = v' k) : GL G n v ↔ GL G n v' := by
  unfold GL
  rw [plF_c h]
  constructor
  · intro z q a b; rw [← grF_c h]; exact z q a b
  · intro z q a b; rw [grF_c h]; exact z q a b
/-- after i of the CASTS: the fewest players, the first such CAST -/
def FewI (G : Int → Prop) (n i : Nat) (v : Int) (best : F1) : Prop := (v = -2 ∧ ∀ j, j < i → ¬ GL G n (vL ((rgs n).getD j []))) ∨
  ∃ b, b < i ∧ GL G n (vL ((rgs n).getD b [])) ∧ v = plF (vL ((rgs n).getD b [])) n ∧ (∀ k : Int, 0 ≤ k → k < n → best k = vL ((rgs n).getD b []) k) ∧ (∀ j, j < i → GL G n (vL ((rgs n).getD j [])) → v ≤ plF (vL ((rgs n).getD j [])) n) ∧ ∀ j, j < b → GL G n (vL ((rgs n).getD j [])) → v < plF (vL ((rgs n).getD j [])) n
def Few (G : Int → Prop) (n : Nat) (v : Int) (best : F1) : Prop := FewI G n (rgs n).length v best
theorem FewI_b {G : Int → Prop} {n i : Nat} {v : Int} {best : F1} (hn : 1 ≤ n ∧ n ≤ 7) (hi : i ≤ (rgs n).length) (h : FewI G n i v best) : -2 ≤ v ∧ v ≤ 7 := by
  rcases h with ⟨h, -⟩ | ⟨b, h1, -, h2, -⟩
  · omega
  · have := plF_b (v := vL ((rgs n).getD b [])) (n := n) (fun p a1 a2 => ((rgs_facts hn).2.2 b (by omega)).1 p a1 a2) n (by omega)
    omega
def FB : List Nat := [149, 150, 151, 152, 153, 155, 156]
theorem Laid.rep {r sc : F1} {g : Int} {I I' : MI} (h : Laid r g sc I I') (hr : WFr r) (hp : Perm (r 5) sc) (hg : 0 ≤ g ∧ g ≤ 99) : Perm (r 7) (I' 152) ∧ ∀ k, 0 ≤ k → k < r 7 → 0 ≤ I' 150 k ∧ I' 150 k ≤ 4000 ∧ 0 ≤ I' 151 k ∧ I' 151 k ≤ 4000 := by
  have e0 := hr.1
  have hs := srF_in (bgF r g sc) (r 7).toNat
  rw [show (((r 7).toNat : Nat) : Int) = r 7 by omega] at hs
  obtain ⟨h1, h2, h3, h4⟩ := h
  refine ⟨⟨fun i a b => ?_, fun i j a b c d e => ?_, fun s a b => ?_⟩, fun k a b => ?_⟩
  · rw [h4 i a b]; exact hs.1 i a b
  · rw [h4 i a b, h4 j c d] at e; exact hs.2.1 i j a b c d e
  · obtain ⟨i, a1, a2, a3⟩ := hs.2.2 s a b
    exact ⟨i, a1, a2, by rw [h4 i a1 a2]; exact a3⟩
  · have := h3 k a b
    have := bc_b hr hp hg (k := k) ⟨a, b⟩
    omega
theorem MayB_P {r sc : F1} {g rd cut s : Int} {I I' : MI} (h : Laid r g sc I I') (hr : WFr r) : MayB r rd (I' 150) (I' 151) (I' 152) cut s ↔ MayP r rd g sc cut s := by
  have e0 := hr.1
  have hs := srF_in (bgF r g sc) (r 7).toNat
  rw [show (((r 7).toNat : Nat) : Int) = r 7 by omega] at hs
  exact Can_c hr hs (fun k a b => h.2.2.1 k a b) (fun i a b => h.2.2.2 i a b) (fun _ _ _ => Iff.rfl)
set_option maxHeartbeats 4000000 in
theorem c_X12_fewestBy {E : ET} {I : MI} {L : ML} {R : MR} {Q : Option AV → MI → ML → MR → Prop} {r sc : F1} {rd g cut : Int} {c nc : Nat} (hT : Topo R) (e1 : I 141 = r) (erd : I 138 30 = rd) (hr : WFr r) (eg : r 2 = g) (hcs : sh c = (20, nc)) (hnc : 5 ≤ nc ∧ nc ≤ 13) (hc : c < 161) (hcd : c ∉ FB) (esc : I c = sc) (hp : Perm (r 5) sc) (h : ∀ v I', Eqo FB I I' → Few (MayP r rd g sc cut) (r 4).toNat v (I' 156) → -2 ≤ v ∧ v ≤ 7 → Q (some (vi v)) I' L R) : CT E M_X12_fewestBy 161 yX12_fewestBy [(vr (138)), (vr (c)), (vi (cut))] I L R Q := by
  refine CT_of rfl rfl (fun h => by cases h) (Nat.le_of_ble_eq_true rfl) (fun X => ?_)
  show V X _ z0 0 [some (vr (138)), some (vr (c)), some (vi (cut)), none, none, none, none] [] I L R _
  have e0 := hr.1
  have hg : 0 ≤ g ∧ g ≤ 99 := by omega
  have hn : 1 ≤ (r 4).toNat ∧ (r 4).toNat ≤ 7 := by omega
  have hN : (((r 4).toNat : Nat) : Int) = r 4 := by omega
  obtain ⟨f1, f2, f3⟩ := rgs_facts hn
  have ea := allF_7 (n := r 4) (by omega)
  obtain ⟨G, eG⟩ : ∃ G : Int → Prop, G = MayP r rd g sc cut := ⟨_, rfl⟩
  rw [← eG] at h
  -- the CASTS
  have loop : ∀ (f i : Nat) (v : Int) (w6 : Option AV) (P : Prop) (I1 : MI), (rgs (r 4).toNat).length - i < f → Eqo FB I I1 → (∀ s, 0 ≤ s → s ≤ allF (r 4) → I1 153 s = bI (G s)) → FewI G (r 4).toNat i v (I1 156) → i ≤ (rgs (r 4).toNat).length →
      (P → i < (rgs (r 4).toNat).length ∧ ∀ k, 0 ≤ k → k < r 4 → I1 155 k = vL ((rgs (r 4).toNat).getD i []) k) → (¬ P → i = (rgs (r 4).toNat).length) →
      V X M_X12_fewestBy z0 47 [some (vr 138), some (vr c), some (vi cut), some (vi (r 4)), some (vi v), some (vi (bI P)), w6] [] I1 L R (RT X M_X12_fewestBy Q) := by
    intro f
    induction f with
    | zero => intro i v w6 P I1 h1; omega
    | succ f ih =>
      intro i v w6 P I1 h1 h2 h3 h4 h5 h6 h7
      have vb := FewI_b hn h5 h4
      refine s_iload 49 dX12_fewestBy_47 rfl rfl ?_
      refine s_ifb_eq 108 52 dX12_fewestBy_49 rfl rfl (fun h_49 => ?_) (fun h_49 => ?_)
      · skip
        refine s_iload 110 dX12_fewestBy_108 rfl rfl ?_
        refine s_iret dX12_fewestBy_110 rfl rfl ?_
        have ei := h7 (by assumption)
        subst ei
        exact h v I1 h2 h4 vb
      skip
      obtain ⟨hi, hv⟩ := h6 (by assumption)
      have er : I1 141 = r := (h2 141 (by decide)).trans e1
      obtain ⟨g1, g2, g3⟩ := f3 i hi
      rw [hN] at g1
      have hvb : ∀ p, 0 ≤ p → p < r 4 → 0 ≤ I1 155 p ∧ I1 155 p ≤ 6 := fun p a b => by rw [hv p a b]; exact g1 p a b
      have pe : plF (I1 155) (r 4).toNat = plF (vL ((rgs (r 4).toNat).getD i [])) (r 4).toNat := plF_c (fun k a b => hv k a (by omega))
      have pb := plF_b (v := I1 155) (n := r 4) hvb (r 4).toNat (by omega)
      have ge : (∀ q, 0 ≤ q → q < plF (I1 155) (r 4).toNat → G (grF (I1 155) (r 4) q)) ↔ GL G (r 4).toNat (vL ((rgs (r 4).toNat).getD i [])) := by
        rw [← GL_c (v := I1 155) (fun k a b => hv k a (by omega))]
        unfold GL
        rw [hN]
      -- the next CAST
      have next : ∀ (v : Int) (w5 w6 : Option AV) (I2 : MI), Eqo [156] I1 I2 → FewI G (r 4).toNat (i + 1) v (I2 156) → V X M_X12_fewestBy z0 99 [some (vr 138), some (vr c), some (vi cut), some (vi (r 4)), some (vi v), w5, w6] [] I2 L R (RT X M_X12_fewestBy Q) := by
        intro v w5 w6 I2 k1 k2
        have er : I2 141 = r := (k1 141 (by decide)).trans er
        have i55 : I2 155 = I1 155 := k1 155 (by decide)
        have h2' : Eqo FB I I2 := h2.tr (k1.mo (by decide))
        have nq : ncP (I1 155) (r 4 - 1).toNat = ncP (vL ((rgs (r 4).toNat).getD i [])) ((r 4).toNat - 1) := by
          rw [show (r 4 - 1).toNat = (r 4).toNat - 1 by omega]
          exact ncP_c (fun k a b => hv k a (by omega))
        refine s_aload_n 100 dX12_fewestBy_99 rfl rfl ?_
        refine s_callV0 (M' := M_X12_nextCast) (as := []) 103 dX12_fewestBy_100 rfl cw_X12_369 rfl rfl sh_138 rfl (by decide) (Nat.le_of_ble_eq_true rfl) (Nat.le_of_ble_eq_true rfl) (Nat.le_of_ble_eq_true rfl) (Nat.le_of_ble_eq_true rfl) ⟨rfl, rfl, rfl⟩ ?_
        refine c_X12_nextCast hT er i55 hr hvb ⟨fun z => ?_, fun z I3 k3 k4 => ?_⟩
        · refine s_istore (ls' := [_, _, _, _, _, _, _]) 105 dX12_fewestBy_103 rfl (Nat.le_of_ble_eq_true rfl) rfl rfl ?_
          refine s_goto 47 dX12_fewestBy_105 rfl ?_
          refine ih (i + 1) v _ False I2 (by omega) h2' (by rw [k1 153 (by decide)]; exact h3) k2 (by omega) (fun q => q.elim) (fun _ => ?_)
          rcases Nat.lt_or_ge (i + 1) (rgs (r 4).toNat).length with q | q
          · rw [nq] at z; exact absurd z (g3 q).1
          · omega
        refine s_istore (ls' := [_, _, _, _, _, _, _]) 105 dX12_fewestBy_103 rfl (Nat.le_of_ble_eq_true rfl) rfl rfl ?_
        refine s_goto 47 dX12_fewestBy_105 rfl ?_
        have hlt : i + 1 < (rgs (r 4).toNat).length := by
          rcases Nat.lt_or_ge (i + 1) (rgs (r 4).toNat).length with q | q
          · exact q
          · exact absurd (nq.trans (g2 (by omega))) z
        refine ih (i + 1) v _ True I3 (by omega) (h2'.tr (k3.mo (by decide))) (by rw [k3 153 (by decide), k1 153 (by decide)]; exact h3) (by rw [k3 156 (by decide)]; exact k2) (by omega) (fun _ => ⟨hlt, fun k a b => ?_⟩) (fun q => absurd trivial q)
        rw [k4 k a b, nq, (g3 hlt).2 k a (by omega)]
        unfold ncN
        split
        · exact hv k a b
        · split
          · next q1 q2 => rw [← q2, hv k a b]
          · rfl
      -- one that doesn't better it
      have keep : (GL G (r 4).toNat (vL ((rgs (r 4).toNat).getD i [])) → v ≠ -2 ∧ v ≤ plF (vL ((rgs (r 4).toNat).getD i [])) (r 4).toNat) → FewI G (r 4).toNat (i + 1) v (I1 156) := by
        intro hk
        rcases h4 with ⟨a, b⟩ | ⟨b, b1, b2, b3, b4, b5, b6⟩
        · refine Or.inl ⟨a, fun j hj z => ?_⟩
          by_cases ej : j = i
          · subst ej; exact (hk z).1 a
          · exact b j (by omega) z
        · refine Or.inr ⟨b, by omega, b2, b3, b4, fun j hj z => ?_, b6⟩
          by_cases ej : j = i
          · subst ej; exact (hk z).2
          · exact b5 j (by omega) z
      have bett : GL G (r 4).toNat (vL ((rgs (r 4).toNat).getD i [])) → (v = -2 ∨ plF (I1 155) (r 4).toNat < v) → FewI G (r 4).toNat (i + 1) (plF (I1 155) (r 4).toNat) (cpI I1 155 0 156 0 (r 4) 156) := by
        intro hG hk
        refine Or.inr ⟨i, by omega, hG, pe, fun k a b => ?_, fun j hj z => ?_, fun j hj z => ?_⟩
        · rw [cpI_eq]
          simp only []
          rw [if_pos (by omega), show (0 : Int) + (k - 0) = k by omega]
          exact hv k a (by omega)
        · by_cases ej : j = i
          · subst ej; rw [pe]; exact Int.le_refl _
          · rcases h4 with ⟨a, b⟩ | ⟨b, b1, b2, b3, b4, b5, b6⟩
            · exact absurd z (b j (by omega))
            · have := b5 j (by omega) z
              have := plF_nn (vL ((rgs (r 4).toNat).getD b [])) (r 4).toNat
              omega
        · rcases h4 with ⟨a, b⟩ | ⟨b, b1, b2, b3, b4, b5, b6⟩
          · exact absurd z (b j (by omega))
          · have := b5 j (by omega) z
            have := plF_nn (vL ((rgs (r 4).toNat).getD b [])) (r 4).toNat
            omega
      refine s_aload_n 53 dX12_fewestBy_52 rfl rfl ?_
      refine s_callV0 (M' := M_X12_playersOf) (as := []) 56 dX12_fewestBy_53 rfl cw_X12_363 rfl rfl sh_138 rfl (by decide) (Nat.le_of_ble_eq_true rfl) (Nat.le_of_ble_eq_true rfl) (Nat.le_of_ble_eq_true rfl) (Nat.le_of_ble_eq_true rfl) ⟨rfl, rfl, rfl⟩ ?_
      refine c_X12_playersOf hT er rfl hr hvb ?_
      refine s_istore (ls' := [_, _, _, _, _, _, _]) 58 dX12_fewestBy_56 rfl (Nat.le_of_ble_eq_true rfl) rfl rfl ?_
      refine s_iload 60 dX12_fewestBy_58 rfl rfl ?_
      refine s_bipush 62 dX12_fewestBy_60 rfl (by decide) ?_
      refine s_icmp_eq 72 65 dX12_fewestBy_62 rfl rfl (by first | omega | exact bI_r _ | exact iI_r _) (by first | omega | exact bI_r _ | exact iI_r _) (fun h_62 => ?_) (fun h_62 => ?_)
      · skip
        refine s_aload_n 73 dX12_fewestBy_72 rfl rfl ?_
        refine s_iload 75 dX12_fewestBy_73 rfl rfl ?_
        refine s_callV0 (M' := M_X12_doAllCan) (as := [_]) 78 dX12_fewestBy_75 rfl cw_X12_366 rfl rfl sh_138 rfl (by decide) (Nat.le_of_ble_eq_true rfl) (Nat.le_of_ble_eq_true rfl) (Nat.le_of_ble_eq_true rfl) (Nat.le_of_ble_eq_true rfl) ⟨rfl, rfl, rfl⟩ ?_
        refine c_X12_doAllCan (y := fun _ => 0) hT er rfl h3 hr hvb pb ?_
        refine s_ifb_eq 99 81 dX12_fewestBy_78 rfl rfl (fun h_78 => ?_) (fun h_78 => ?_)
        · skip
          first | (refine next _ _ _ I1 Eqo.rf (keep (fun z => ?_)); first | (rw [← pe]; omega) | exact absurd (ge.mpr z) (by assumption)) | exact next _ _ _ _ (fun a ha => cpI_ne (by simpa using ha)) (bett (ge.mp (by assumption)) (by omega))
        refine s_iload 83 dX12_fewestBy_81 rfl rfl ?_
        refine s_istore (ls' := [_, _, _, _, _, _, _]) 85 dX12_fewestBy_83 rfl (Nat.le_of_ble_eq_true rfl) rfl rfl ?_
        refine s_aload_n 86 dX12_fewestBy_85 rfl rfl ?_
        refine s_getR 89 dX12_fewestBy_86 rfl fl_X12_66 (fun _ _ _ _ => rfl) (T_X12_given hT) sh_138 (Nat.le_of_ble_eq_true rfl) ?_
        refine s_iconst 90 dX12_fewestBy_89 rfl ?_
        refine s_aload_n 91 dX12_fewestBy_90 rfl rfl ?_
        refine s_getR 94 dX12_fewestBy_91 rfl fl_X12_69 (fun _ _ _ _ => rfl) (T_X12_best hT) sh_138 (Nat.le_of_ble_eq_true rfl) ?_
        refine s_iconst 95 dX12_fewestBy_94 rfl ?_
        refine s_iload_n 96 dX12_fewestBy_95 rfl rfl ?_
        refine s_callS0 (M' := M_X12_copy) (as := [_, _, _, _, _]) 99 dX12_fewestBy_96 rfl cw_X12_199 rfl rfl (Nat.le_of_ble_eq_true rfl) (Nat.le_of_ble_eq_true rfl) (Nat.le_of_ble_eq_true rfl) ⟨rfl, rfl, rfl⟩ ?_
        refine c_X12_copy sh_155 sh_156 (by decide) (by decide) (by decide) (by decide) (by omega) (by omega) (by omega) ?_
        first | (refine next _ _ _ I1 Eqo.rf (keep (fun z => ?_)); first | (rw [← pe]; omega) | exact absurd (ge.mpr z) (by assumption)) | exact next _ _ _ _ (fun a ha => cpI_ne (by simpa using ha)) (bett (ge.mp (by assumption)) (by omega))
      refine s_iload 67 dX12_fewestBy_65 rfl rfl ?_
      refine s_iload 69 dX12_fewestBy_67 rfl rfl ?_
      refine s_icmp_ge 99 72 dX12_fewestBy_69 rfl rfl (by first | omega | exact bI_r _ | exact iI_r _) (by first | omega | exact bI_r _ | exact iI_r _) (fun h_69 => ?_) (fun h_69 => ?_)
      · skip
        first | (refine next _ _ _ I1 Eqo.rf (keep (fun z => ?_)); first | (rw [← pe]; omega) | exact absurd (ge.mpr z) (by assumption)) | exact next _ _ _ _ (fun a ha => cpI_ne (by simpa using ha)) (bett (ge.mp (by assumption)) (by omega))
      refine s_aload_n 73 dX12_fewestBy_72 rfl rfl ?_
      refine s_iload 75 dX12_fewestBy_73 rfl rfl ?_
      refine s_callV0 (M' := M_X12_doAllCan) (as := [_]) 78 dX12_fewestBy_75 rfl cw_X12_366 rfl rfl sh_138 rfl (by decide) (Nat.le_of_ble_eq_true rfl) (Nat.le_of_ble_eq_true rfl) (Nat.le_of_ble_eq_true rfl) (Nat.le_of_ble_eq_true rfl) ⟨rfl, rfl, rfl⟩ ?_
      refine c_X12_doAllCan (y := fun _ => 0) hT er rfl h3 hr hvb pb ?_
      refine s_ifb_eq 99 81 dX12_fewestBy_78 rfl rfl (fun h_78 => ?_) (fun h_78 => ?_)
      · skip
        first | (refine next _ _ _ I1 Eqo.rf (keep (fun z => ?_)); first | (rw [← pe]; omega) | exact absurd (ge.mpr z) (by assumption)) | exact next _ _ _ _ (fun a ha => cpI_ne (by simpa using ha)) (bett (ge.mp (by assumption)) (by omega))
      refine s_iload 83 dX12_fewestBy_81 rfl rfl ?_
      refine s_istore (ls' := [_, _, _, _, _, _, _]) 85 dX12_fewestBy_83 rfl (Nat.le_of_ble_eq_true rfl) rfl rfl ?_
      refine s_aload_n 86 dX12_fewestBy_85 rfl rfl ?_
      refine s_getR 89 dX12_fewestBy_86 rfl fl_X12_66 (fun _ _ _ _ => rfl) (T_X12_given hT) sh_138 (Nat.le_of_ble_eq_true rfl) ?_
      refine s_iconst 90 dX12_fewestBy_89 rfl ?_
      refine s_aload_n 91 dX12_fewestBy_90 rfl rfl ?_
      refine s_getR 94 dX12_fewestBy_91 rfl fl_X12_69 (fun _ _ _ _ => rfl) (T_X12_best hT) sh_138 (Nat.le_of_ble_eq_true rfl) ?_
      refine s_iconst 95 dX12_fewestBy_94 rfl ?_
      refine s_iload_n 96 dX12_fewestBy_95 rfl rfl ?_
      refine s_callS0 (M' := M_X12_copy) (as := [_, _, _, _, _]) 99 dX12_fewestBy_96 rfl cw_X12_199 rfl rfl (Nat.le_of_ble_eq_true rfl) (Nat.le_of_ble_eq_true rfl) (Nat.le_of_ble_eq_true rfl) ⟨rfl, rfl, rfl⟩ ?_
      refine c_X12_copy sh_155 sh_156 (by decide) (by decide) (by decide) (by decide) (by omega) (by omega) (by omega) ?_
      first | (refine next _ _ _ I1 Eqo.rf (keep (fun z => ?_)); first | (rw [← pe]; omega) | exact absurd (ge.mpr z) (by assumption)) | exact next _ _ _ _ (fun a ha => cpI_ne (by simpa using ha)) (bett (ge.mp (by assumption)) (by omega))
  have zer : ∀ (f : Nat) (k : Int) (I1 : MI), r 4 - k < (f : Int) → 0 ≤ k → k ≤ r 4 → Eqo FB I I1 → (∀ s, 0 ≤ s → s ≤ allF (r 4) → I1 153 s = bI (G s)) → (∀ j, 0 ≤ j → j < k → I1 155 j = 0) →
      V X M_X12_fewestBy z0 24 [some (vr (138)), some (vr (c)), some (vi (cut)), some (vi (r 4)), some (vi (-2)), some (vi (k)), none] [] (I1) L R (RT X M_X12_fewestBy Q) := by
    intro f
    induction f with
    | zero => intro k I1 h1 h2 h3; omega
    | succ f ih =>
      intro k I1 h1 h2 h3 h4 h5 h6
      refine s_iload 26 dX12_fewestBy_24 rfl rfl ?_
      refine s_iload_n 27 dX12_fewestBy_26 rfl rfl ?_
      refine s_icmp_ge 44 30 dX12_fewestBy_27 rfl rfl (by first | omega | exact bI_r _ | exact iI_r _) (by first | omega | exact bI_r _ | exact iI_r _) (fun h_27 => ?_) (fun h_27 => ?_)
      · skip
        refine s_iconst 45 dX12_fewestBy_44 rfl ?_
        refine s_istore (ls' := [_, _, _, _, _, _, _]) 47 dX12_fewestBy_45 rfl (Nat.le_of_ble_eq_true rfl) rfl rfl ?_
        have := loop ((rgs (r 4).toNat).length + 1) 0 (-2) none True I1 (by omega) h4 h5 (Or.inl ⟨rfl, fun j hj => by omega⟩) (by omega) (fun _ => ⟨f1, fun j a b => ?_⟩) (fun q => absurd trivial q)
        · rw [bI_t trivial] at this; exact this
        · rw [h6 j a (by omega), f2 j a (by omega)]
      skip
      refine s_aload_n 31 dX12_fewestBy_30 rfl rfl ?_
      refine s_getR 34 dX12_fewestBy_31 rfl fl_X12_66 (fun _ _ _ _ => rfl) (T_X12_given hT) sh_138 (Nat.le_of_ble_eq_true rfl) ?_
      refine s_iload 36 dX12_fewestBy_34 rfl rfl ?_
      refine s_iconst 37 dX12_fewestBy_36 rfl ?_
      refine s_iast 38 dX12_fewestBy_37 rfl sh_155 (Nat.le_of_ble_eq_true rfl) (by omega) (by omega) (by first | omega | exact bI_r _ | exact iI_r _) ?_
      refine s_iinc (ls' := [_, _, _, _, _, _, _]) 41 dX12_fewestBy_38 rfl rfl (Nat.le_of_ble_eq_true rfl) rfl rfl ?_
      refine s_goto 24 dX12_fewestBy_41 rfl ?_
      refine ih (k + 1) _ (by omega) (by omega) (by omega) (h4.st (by decide)) (by rw [up_ne (by decide)]; exact h5) (fun j a b => ?_)
      rw [upd9]
      by_cases ej : j = k
      · rw [if_pos ej]
      · rw [if_neg ej]; exact h6 j a (by omega)
  refine s_aload_n 1 dX12_fewestBy_0 rfl rfl ?_
  refine s_aload_n 2 dX12_fewestBy_1 rfl rfl ?_
  refine s_callV0 (M' := M_X12_layTime) (as := [_]) 5 dX12_fewestBy_2 rfl cw_X12_305 rfl rfl sh_138 rfl (by decide) (Nat.le_of_ble_eq_true rfl) (Nat.le_of_ble_eq_true rfl) (Nat.le_of_ble_eq_true rfl) (Nat.le_of_ble_eq_true rfl) ⟨rfl, rfl, rfl⟩ ?_
  refine c_X12_layTime hT e1 hr eg hcs hnc hc (fun z => hcd (List.mem_of_mem_take (i := 4) z)) esc hp (fun I1 hL => ?_)
  have er : I1 141 = r := (hL.1 141 (by decide)).trans e1
  have er9 : I1 138 30 = rd := (congrFun (hL.1 138 (by decide)) 30).trans erd
  obtain ⟨q1, q2⟩ := hL.rep hr hp hg
  refine s_aload_n 6 dX12_fewestBy_5 rfl rfl ?_
  refine s_iload_n 7 dX12_fewestBy_6 rfl rfl ?_
  refine s_callV0 (M' := M_X12_layMay) (as := [_]) 10 dX12_fewestBy_7 rfl cw_X12_360 rfl rfl sh_138 rfl (by decide) (Nat.le_of_ble_eq_true rfl) (Nat.le_of_ble_eq_true rfl) (Nat.le_of_ble_eq_true rfl) (Nat.le_of_ble_eq_true rfl) ⟨rfl, rfl, rfl⟩ ?_
  refine c_X12_layMay hT er er9 rfl rfl rfl hr q1 q2 (fun I2 h4 h5 => ?_)
  have er : I2 141 = r := (h4 141 (by decide)).trans er
  refine s_aload_n 11 dX12_fewestBy_10 rfl rfl ?_
  refine s_getR 14 dX12_fewestBy_11 rfl fl_X12_20 (fun _ _ _ _ => rfl) (T_X12_r hT) sh_138 (Nat.le_of_ble_eq_true rfl) ?_
  refine s_iconst 15 dX12_fewestBy_14 rfl ?_
  refine s_iald 16 dX12_fewestBy_15 rfl sh_141 (Nat.le_of_ble_eq_true rfl) (by omega) (by omega) (fun r_15 => ?_)
  rw [er] at r_15 ⊢
  refine s_istore_n (ls' := [_, _, _, _, _, _, _]) 17 dX12_fewestBy_16 rfl (Nat.le_of_ble_eq_true rfl) rfl rfl ?_
  refine s_bipush 19 dX12_fewestBy_17 rfl (by decide) ?_
  refine s_istore (ls' := [_, _, _, _, _, _, _]) 21 dX12_fewestBy_19 rfl (Nat.le_of_ble_eq_true rfl) rfl rfl ?_
  refine s_iconst 22 dX12_fewestBy_21 rfl ?_
  refine s_istore (ls' := [_, _, _, _, _, _, _]) 24 dX12_fewestBy_22 rfl (Nat.le_of_ble_eq_true rfl) rfl rfl ?_
  refine zer (r 4 + 1).toNat 0 I2 (by omega) (by omega) (by omega) ((hL.1.mo (by decide)).tr (h4.mo (by decide))) (fun s a b => ?_) (fun j a b => by omega)
  rw [h5 s a b, eG]
  exact bI_c (MayB_P hL hr)
