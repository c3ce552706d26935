/-! all rows of scenes, in their row; ORDERS among them -/
def prs : Nat → List Int → List (List Int)
  | 0, _ => [[]]
  | n + 1, l => l.flatMap (fun x => (prs n (l.erase x)).map (fun t => x :: t))
def idl (n : Nat) : List Int := (List.range n).map (fun k : Nat => (k : Int))
def perms (n : Nat) : List (List Int) := prs n (idl n)
def prOk (n : Nat) (l : List Int) : Bool := (List.range n).all (fun i => decide (0 ≤ vL l i) && decide (vL l i < n) && (List.range n).all (fun j => decide (vL l i = vL l j → i = j))) && (List.range n).all (fun s => (List.range n).any (fun i => decide (vL l i = s))) && decide (l.length = n)
def prNx (n : Nat) : List (List Int) → Bool
  | [] => true
  | [l] => decide (asF (vL l) (n - 1) = 0)
  | l :: l' :: t => decide (asF (vL l) (n - 1) ≠ 0) && (List.range n).all (fun k => decide (vL l' k = nrN (vL l) n k)) && prNx n (l' :: t)
def prAll (n : Nat) : Bool := (perms n).all (prOk n) && prNx n (perms n) && decide (perms n = idl n :: (perms n).tail)
theorem pr_ok : prAll 1 = true ∧ prAll 2 = true ∧ prAll 3 = true ∧ prAll 4 = true ∧ prAll 5 = true := by decide +kernel
theorem pr_at {n : Nat} (hn : 1 ≤ n ∧ n ≤ 5) : prAll n = true := by
  have hc : n = 1 ∨ n = 2 ∨ n = 3 ∨ n = 4 ∨ n = 5 := by omega
  obtain ⟨a, b, c, d, e⟩ := pr_ok
  rcases hc with rfl | rfl | rfl | rfl | rfl
  · exact a
  · exact b
  · exact c
  · exact d
  · exact e
theorem prNx_at (n : Nat) : ∀ (A : List (List Int)) (c : List Int) (B : List (List Int)), prNx n (A ++ c :: B) = true → (B = [] → asF (vL c) (n - 1) = 0) ∧ ∀ c' B', B = c' :: B' → asF (vL c) (n - 1) ≠ 0 ∧ ∀ k : Nat, k < n → vL c' k = nrN (vL c) n k
  | [], c, B, h => by
    cases B with
    | nil => simp only [List.nil_append, prNx, decide_eq_true_eq] at h; exact ⟨fun _ => h, fun c' B' z => (by cases z)⟩
    | cons c' B' =>
      simp only [List.nil_append, prNx, Bool.and_eq_true, decide_eq_true_eq, List.all_eq_true, List.mem_range] at h
      refine ⟨fun z => (by cases z), fun c'' B'' z => ?_⟩
      cases z
      exact ⟨h.1.1, h.1.2⟩
  | [a], c, B, h => by
    simp only [List.cons_append, List.nil_append, prNx, Bool.and_eq_true] at h
    exact prNx_at n [] c B h.2
  | a :: a' :: A, c, B, h => by
    simp only [List.cons_append, prNx, Bool.and_eq_true] at h
    exact prNx_at n (a' :: A) c B h.2
theorem perm_of {n : Nat} (hn : 1 ≤ n ∧ n ≤ 5) {l : List Int} (h : l ∈ perms n) : Perm n (vL l) ∧ l.length = n := by
  have ha := pr_at hn
  simp only [prAll, Bool.and_eq_true, List.all_eq_true] at ha
  have hl := ha.1.1 l h
  simp only [prOk, Bool.and_eq_true, List.all_eq_true, List.mem_range, List.any_eq_true, decide_eq_true_eq] at hl
  obtain ⟨⟨h1, h2⟩, h3⟩ := hl
  have cast : ∀ k : Int, 0 ≤ k → ((k.toNat : Nat) : Int) = k := fun k hk => by omega
  refine ⟨⟨fun i a b => ?_, fun i j a b c d e => ?_, fun s a b => ?_⟩, h3⟩
  · have := (h1 i.toNat (by omega)).1
    rw [cast i a] at this
    exact this
  · have := (h1 i.toNat (by omega)).2 j.toNat (by omega)
    rw [cast i a, cast j c] at this
    have := this e
    omega
  · obtain ⟨i, i1, i2⟩ := h2 s.toNat (by omega)
    rw [cast s a] at i2
    exact ⟨i, by omega, by omega, i2⟩
/-- is a row an ORDER; all ORDERS in their row -/
noncomputable def ordB (r : F1) (l : List Int) : Bool := @decide (OrdP r (vL l)) (Classical.propDecidable _)
theorem ordB_t {r : F1} {l : List Int} : ordB r l = true ↔ OrdP r (vL l) := by
  unfold ordB
  exact @decide_eq_true_iff _ (Classical.propDecidable _)
noncomputable def ordL (r : F1) : List (List Int) := (perms (r 5).toNat).filter (ordB r)
set_option maxHeartbeats 4000000 in
theorem c_X12_nextOrder {E : ET} {I : MI} {L : ML} {R : MR} {Q : Option AV → MI → ML → MR → Prop} {r v : F1} {A B : List (List Int)} {c : List Int} (hT : Topo R) (er : I 141 = r) (ev : I 148 = v) (hr : WFr r) (hL : perms (r 5).toNat = A ++ c :: B) (hv : ∀ k, 0 ≤ k → k < r 5 → v k = vL c k) (h : (B.filter (ordB r) = [] → ∀ I', Eqo [148] I I' → Q (some (vi (bI False))) I' L R) ∧ (∀ B1 c' B2, B = B1 ++ c' :: B2 → B1.filter (ordB r) = [] → OrdP r (vL c') → ∀ I', Eqo [148] I I' → (∀ k, 0 ≤ k → k < r 5 → I' 148 k = vL c' k) → Q (some (vi (bI True))) I' L R)) : CT E M_X12_nextOrder 161 yX12_nextOrder [(vr (138))] I L R Q := by
  refine CT_of rfl rfl (fun h => by cases h) (Nat.le_of_ble_eq_true rfl) (fun X => ?_)
  show V X _ z0 0 [some (vr (138)), none] [] I L R _
  have e0 := hr.1
  have hn : 1 ≤ (r 5).toNat ∧ (r 5).toNat ≤ 5 := by omega
  have hN : (((r 5).toNat : Nat) : Int) = r 5 := by omega
  have hall := pr_at hn
  simp only [prAll, Bool.and_eq_true] at hall
  have pm : ∀ x, x ∈ A ++ c :: B → ∀ i, 0 ≤ i → i < r 5 → 0 ≤ vL x i ∧ vL x i < r 5 := fun x hx i a b => by
    have := (perm_of hn (by rw [hL]; exact hx)).1.1 i a (by omega)
    rw [hN] at this
    exact this
  have as_c : ∀ (u w : F1), (∀ k, 0 ≤ k → k < r 5 → u k = w k) → asF u (r 5 - 1).toNat = asF w ((r 5).toNat - 1) ∧ (asF w ((r 5).toNat - 1) ≠ 0 → ∀ k, 0 ≤ k → k < r 5 → nrN u (r 5) k = nrN w ((r 5).toNat : Nat) k) := by
    intro u w huw
    have h1 : ∀ p : Nat, (p : Int) < r 5 → asF u p = asF w p := by
      intro p
      induction p with
      | zero => intro _; rfl
      | succ p ih =>
        intro hp
        unfold asF
        rw [huw p (by omega) (by omega), huw ((p + 1 : Nat) : Int) (by omega) (by omega), ih (by omega)]
    have h2 : ∀ (x : Int) (p : Nat), (p : Int) < r 5 → jF u x p = jF w x p := by
      intro x p
      induction p with
      | zero => intro _; rfl
      | succ p ih =>
        intro hp
        unfold jF
        rw [huw ((p + 1 : Nat) : Int) (by omega) (by omega), ih (by omega)]
    have asle : ∀ (w : F1) (p : Nat), asF w p ≤ p := by
      intro w p
      induction p with
      | zero => exact Nat.le_refl _
      | succ p ih => unfold asF; split <;> omega
    have jle : ∀ (x : Int) (w : F1) (p : Nat), jF w x p ≤ p := by
      intro x w p
      induction p with
      | zero => exact Nat.le_refl _
      | succ p ih => unfold jF; split <;> omega
    have e1 : asF u (r 5 - 1).toNat = asF w ((r 5).toNat - 1) := by
      rw [show (r 5 - 1).toNat = (r 5).toNat - 1 by omega]
      exact h1 _ (by omega)
    refine ⟨e1, fun hz k a b => ?_⟩
    rw [show (r 5).toNat - 1 = (r 5 - 1).toNat by omega] at hz
    rw [nrN_v rfl rfl, nrN_v rfl rfl, hN, h1 _ (by omega)]
    have q1 := asle w (r 5 - 1).toNat
    obtain ⟨i, hi⟩ : ∃ i : Int, i = (asF w (r 5 - 1).toNat : Nat) - 1 := ⟨_, rfl⟩
    rw [← hi]
    have hi0 : 0 ≤ i := by omega
    rw [huw i hi0 (by omega), h2 _ _ (by omega)]
    have q2 := jle (w i) w (r 5 - 1).toNat
    obtain ⟨j, hj⟩ : ∃ j : Int, j = (jF w (w i) (r 5 - 1).toNat : Nat) := ⟨_, rfl⟩
    rw [← hj]
    unfold tnF
    rw [huw i hi0 (by omega), huw j (by omega) (by omega)]
    by_cases hk : k ≤ i
    · rw [if_pos hk, if_pos hk, huw k a b]
    · rw [if_neg hk, if_neg hk, huw (i + r 5 - k) (by omega) (by omega)]
  -- a step from one of the rows
  have step : ∀ (A1 : List (List Int)) (c1 : List Int) (B1 : List (List Int)) (u : F1), A ++ c :: B = A1 ++ c1 :: B1 → (∀ k, 0 ≤ k → k < r 5 → u k = vL c1 k) →
      (B1 = [] → asF u (r 5 - 1).toNat = 0) ∧ ∀ c' B', B1 = c' :: B' → asF u (r 5 - 1).toNat ≠ 0 ∧ ∀ k, 0 ≤ k → k < r 5 → nrN u (r 5) k = vL c' k := by
    intro A1 c1 B1 u hs hu
    have h1 := prNx_at _ A1 c1 B1 (by rw [← hs, ← hL]; exact hall.1.2)
    have h2 := as_c u (vL c1) hu
    refine ⟨fun z => h2.1.trans (h1.1 z), fun c' B' z => ?_⟩
    have h3 := h1.2 c' B' z
    refine ⟨by rw [h2.1]; exact h3.1, fun k a b => ?_⟩
    rw [h2.2 h3.1 k a b]
    have := h3.2 k.toNat (by omega)
    rw [show ((k.toNat : Nat) : Int) = k by omega] at this
    exact this.symm
  have at5F : ∀ I1, Eqo [148] I I1 → B.filter (ordB r) = [] → V X M_X12_nextOrder z0 5 [some (vr (138)), some (vi (bI False))] [] (I1) L R (RT X M_X12_nextOrder Q) := by
    intro I1 g1 g2
    refine s_iload_n 6 dX12_nextOrder_5 rfl rfl ?_
    refine s_ifb_eq 28 9 dX12_nextOrder_6 rfl rfl (fun h_6 => ?_) (fun h_6 => by exfalso; exact h_6)
    refine s_iload_n 29 dX12_nextOrder_28 rfl rfl ?_
    refine s_zret dX12_nextOrder_29 rfl (by first | omega | exact bI_b _) rfl ?_
    exact h.1 g2 I1 g1
  have at5T : ∀ (B2 B1 : List (List Int)) (c' : List Int) (I1 : MI), Eqo [148] I I1 → B = B1 ++ c' :: B2 → B1.filter (ordB r) = [] → (∀ k, 0 ≤ k → k < r 5 → I1 148 k = vL c' k) → V X M_X12_nextOrder z0 5 [some (vr (138)), some (vi (bI True))] [] (I1) L R (RT X M_X12_nextOrder Q) := by
    intro B2
    induction B2 with
    | nil =>
      intro B1 c' I1 g1 g2 g3 g4
      have er : I1 141 = r := (g1 141 (by decide)).trans er
      have sp := step (A ++ c :: B1) c' [] (I1 148) (by rw [g2]; simp) g4
      have vb := pm c' (by rw [g2]; simp)
      have hb : ∀ i, 0 ≤ i → i < r 5 → 0 ≤ I1 148 i ∧ I1 148 i < 5 := fun i a b => by rw [g4 i a b]; have := vb i a b; omega
      refine s_iload_n 6 dX12_nextOrder_5 rfl rfl ?_
      refine s_ifb_eq 28 9 dX12_nextOrder_6 rfl rfl (fun h_6 => by exfalso; exact h_6 trivial) (fun h_6 => ?_)
      refine s_aload_n 10 dX12_nextOrder_9 rfl rfl ?_
      refine s_aload_n 11 dX12_nextOrder_10 rfl rfl ?_
      refine s_getR 14 dX12_nextOrder_11 rfl fl_X12_41 (fun _ _ _ _ => rfl) (T_X12_row hT) sh_138 (Nat.le_of_ble_eq_true rfl) ?_
      refine s_callV0 (M' := M_X12_isOrder) (as := [_]) 17 dX12_nextOrder_14 rfl cw_X12_286 rfl rfl sh_138 rfl (by decide) (Nat.le_of_ble_eq_true rfl) (Nat.le_of_ble_eq_true rfl) (Nat.le_of_ble_eq_true rfl) (Nat.le_of_ble_eq_true rfl) ⟨rfl, rfl, rfl⟩ ?_
      refine c_X12_isOrder hT er hr sh_148 (by decide) (by decide) rfl hb ?_
      rw [bI_c (OrdP_c g4)]
      refine s_ifb_ne 28 20 dX12_nextOrder_17 rfl rfl (fun h_17 => ?_) (fun h_17 => ?_)
      · skip
        refine s_iload_n 29 dX12_nextOrder_28 rfl rfl ?_
        refine s_zret dX12_nextOrder_29 rfl (by first | omega | exact bI_b _) rfl ?_
        exact h.2 B1 c' [] g2 g3 (by assumption) I1 g1 g4
      refine s_aload_n 21 dX12_nextOrder_20 rfl rfl ?_
      refine s_callV0 (M' := M_X12_nextRow) (as := []) 24 dX12_nextOrder_21 rfl cw_X12_293 rfl rfl sh_138 rfl (by decide) (Nat.le_of_ble_eq_true rfl) (Nat.le_of_ble_eq_true rfl) (Nat.le_of_ble_eq_true rfl) (Nat.le_of_ble_eq_true rfl) ⟨rfl, rfl, rfl⟩ ?_
      refine c_X12_nextRow hT er rfl hr hb ⟨fun z => ?_, fun z => absurd (sp.1 rfl) z⟩
      refine s_istore_n (ls' := [_, _]) 25 dX12_nextOrder_24 rfl (Nat.le_of_ble_eq_true rfl) rfl rfl ?_
      refine s_goto 5 dX12_nextOrder_25 rfl ?_
      exact at5F I1 g1 (by rw [g2, List.filter_append, g3]; simp [show ordB r c' = false from by rw [← Bool.not_eq_true, ordB_t]; assumption])
    | cons c'' B3 ih =>
      intro B1 c' I1 g1 g2 g3 g4
      have er : I1 141 = r := (g1 141 (by decide)).trans er
      have sp := (step (A ++ c :: B1) c' (c'' :: B3) (I1 148) (by rw [g2]; simp) g4).2 c'' B3 rfl
      have vb := pm c' (by rw [g2]; simp)
      have hb : ∀ i, 0 ≤ i → i < r 5 → 0 ≤ I1 148 i ∧ I1 148 i < 5 := fun i a b => by rw [g4 i a b]; have := vb i a b; omega
      refine s_iload_n 6 dX12_nextOrder_5 rfl rfl ?_
      refine s_ifb_eq 28 9 dX12_nextOrder_6 rfl rfl (fun h_6 => by exfalso; exact h_6 trivial) (fun h_6 => ?_)
      refine s_aload_n 10 dX12_nextOrder_9 rfl rfl ?_
      refine s_aload_n 11 dX12_nextOrder_10 rfl rfl ?_
      refine s_getR 14 dX12_nextOrder_11 rfl fl_X12_41 (fun _ _ _ _ => rfl) (T_X12_row hT) sh_138 (Nat.le_of_ble_eq_true rfl) ?_
      refine s_callV0 (M' := M_X12_isOrder) (as := [_]) 17 dX12_nextOrder_14 rfl cw_X12_286 rfl rfl sh_138 rfl (by decide) (Nat.le_of_ble_eq_true rfl) (Nat.le_of_ble_eq_true rfl) (Nat.le_of_ble_eq_true rfl) (Nat.le_of_ble_eq_true rfl) ⟨rfl, rfl, rfl⟩ ?_
      refine c_X12_isOrder hT er hr sh_148 (by decide) (by decide) rfl hb ?_
      rw [bI_c (OrdP_c g4)]
      refine s_ifb_ne 28 20 dX12_nextOrder_17 rfl rfl (fun h_17 => ?_) (fun h_17 => ?_)
      · skip
        refine s_iload_n 29 dX12_nextOrder_28 rfl rfl ?_
        refine s_zret dX12_nextOrder_29 rfl (by first | omega | exact bI_b _) rfl ?_
        exact h.2 B1 c' _ g2 g3 (by assumption) I1 g1 g4
      refine s_aload_n 21 dX12_nextOrder_20 rfl rfl ?_
      refine s_callV0 (M' := M_X12_nextRow) (as := []) 24 dX12_nextOrder_21 rfl cw_X12_293 rfl rfl sh_138 rfl (by decide) (Nat.le_of_ble_eq_true rfl) (Nat.le_of_ble_eq_true rfl) (Nat.le_of_ble_eq_true rfl) (Nat.le_of_ble_eq_true rfl) ⟨rfl, rfl, rfl⟩ ?_
      refine c_X12_nextRow hT er rfl hr hb ⟨fun z => absurd z sp.1, fun z I2 k1 k2 => ?_⟩
      refine s_istore_n (ls' := [_, _]) 25 dX12_nextOrder_24 rfl (Nat.le_of_ble_eq_true rfl) rfl rfl ?_
      refine s_goto 5 dX12_nextOrder_25 rfl ?_
      exact ih (B1 ++ [c']) c'' I2 (g1.tr k1) (by rw [g2]; simp) (by rw [List.filter_append, g3]; simp [show ordB r c' = false from by rw [← Bool.not_eq_true, ordB_t]; assumption]) (fun k a b => by rw [k2 k a b, sp.2 k a b])
  have vb := pm c (by simp)
  have hb : ∀ i, 0 ≤ i → i < r 5 → 0 ≤ v i ∧ v i < 5 := fun i a b => by rw [hv i a b]; have := vb i a b; omega
  cases hB : B with
  | nil =>
    have sp := step A c B v rfl hv
    refine s_aload_n 1 dX12_nextOrder_0 rfl rfl ?_
    refine s_callV0 (M' := M_X12_nextRow) (as := []) 4 dX12_nextOrder_1 rfl cw_X12_293 rfl rfl sh_138 rfl (by decide) (Nat.le_of_ble_eq_true rfl) (Nat.le_of_ble_eq_true rfl) (Nat.le_of_ble_eq_true rfl) (Nat.le_of_ble_eq_true rfl) ⟨rfl, rfl, rfl⟩ ?_
    refine c_X12_nextRow hT er ev hr hb ⟨fun z => ?_, fun z => absurd (sp.1 hB) z⟩
    refine s_istore_n (ls' := [_, _]) 5 dX12_nextOrder_4 rfl (Nat.le_of_ble_eq_true rfl) rfl rfl ?_
    exact at5F I Eqo.rf (by rw [hB]; rfl)
  | cons c' B' =>
    have sp := (step A c B v rfl hv).2 c' B' hB
    refine s_aload_n 1 dX12_nextOrder_0 rfl rfl ?_
    refine s_callV0 (M' := M_X12_nextRow) (as := []) 4 dX12_nextOrder_1 rfl cw_X12_293 rfl rfl sh_138 rfl (by decide) (Nat.le_of_ble_eq_true rfl) (Nat.le_of_ble_eq_true rfl) (Nat.le_of_ble_eq_true rfl) (Nat.le_of_ble_eq_true rfl) ⟨rfl, rfl, rfl⟩ ?_
    refine c_X12_nextRow hT er ev hr hb ⟨fun z => absurd z sp.1, fun z I2 k1 k2 => ?_⟩
    refine s_istore_n (ls' := [_, _]) 5 dX12_nextOrder_4 rfl (Nat.le_of_ble_eq_true rfl) rfl rfl ?_
    exact at5T B' [] c' I2 k1 (by rw [hB]; rfl) rfl (fun k a b => by rw [k2 k a b, sp.2 k a b])
