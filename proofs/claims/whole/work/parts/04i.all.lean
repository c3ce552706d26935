/-! FEWEST over all ORDERS by the reference -/
def IsFew (G : Int → Prop) (n : Nat) (v : Int) : Prop := (v = -2 ∧ ∀ j, j < (rgs n).length → ¬ GL G n (vL ((rgs n).getD j []))) ∨ ∃ b, b < (rgs n).length ∧ GL G n (vL ((rgs n).getD b [])) ∧ v = plF (vL ((rgs n).getD b [])) n ∧ ∀ j, j < (rgs n).length → GL G n (vL ((rgs n).getD j [])) → v ≤ plF (vL ((rgs n).getD j [])) n
theorem IsFew.uq {G : Int → Prop} {n : Nat} {v w : Int} (h : IsFew G n v) (h' : IsFew G n w) : v = w := by
  rcases h with ⟨a, b⟩ | ⟨b, b1, b2, b3, b4⟩ <;> rcases h' with ⟨a', b'⟩ | ⟨b', b1', b2', b3', b4'⟩
  · omega
  · exact absurd b2' (b _ b1')
  · exact absurd b2 (b' _ b1)
  · have h1 := b4 _ b1' b2'
    have h2 := b4' _ b1 b2
    omega
theorem Few.is {G : Int → Prop} {n : Nat} {v : Int} {best : F1} (h : Few G n v best) : IsFew G n v := by
  rcases h with ⟨a, b⟩ | ⟨b, b1, b2, b3, b4, b5, b6⟩
  · exact Or.inl ⟨a, b⟩
  · exact Or.inr ⟨b, b1, b2, b3, b5⟩
noncomputable def fewV (G : Int → Prop) (n : Nat) : Int := Classical.epsilon (IsFew G n)
theorem IsFew.v {G : Int → Prop} {n : Nat} {v : Int} (h : IsFew G n v) : fewV G n = v := (Classical.epsilon_spec (p := IsFew G n) ⟨v, h⟩).uq h
theorem posF_c {n : Int} {sc sc' : F1} (hp : Perm n sc) (hp' : Perm n sc') (hn : n ≤ 5) (h : ∀ i, 0 ≤ i → i < n → sc' i = sc i) {s : Int} (hs : 0 ≤ s ∧ s < n) : posF sc' s = posF sc s := by
  obtain ⟨a, b, c⟩ := posF_at hp hn hs
  have := posF_of hp' hn ⟨a, b⟩
  rw [h _ a b, c] at this
  exact this
theorem tmF_c {r : F1} {g : Int} {sc sc' : F1} : ∀ {i : Nat} (_ : ∀ k : Int, 0 ≤ k → k < i → sc' k = sc k), tmF r g sc' i = tmF r g sc i
  | 0, _ => rfl
  | i + 1, h => by
    unfold tmF
    rw [tmF_c (i := i) (fun k a b => h k a (by omega)), h i (by omega) (by omega)]
theorem opF_c {r : F1} {g : Int} {sc sc' : F1} (hp : Perm (r 5) sc) (hp' : Perm (r 5) sc') (hn : r 5 ≤ 5) (h : ∀ i, 0 ≤ i → i < r 5 → sc' i = sc i) {s : Int} (hs : 0 ≤ s ∧ s < r 5) : opF r g sc' s = opF r g sc s := by
  have hq := posF_at hp hn hs
  unfold opF tmI
  rw [posF_c hp hp' hn h hs]
  exact tmF_c (fun k a b => h k a (by omega))
theorem srF_c {b b' : F1} : ∀ {K : Nat} (_ : ∀ k : Int, 0 ≤ k → k < K → b' k = b k), srF b' K = srF b K
  | 0, _ => rfl
  | K + 1, h => by
    have ih := srF_c (K := K) (fun k a c => h k a (by omega))
    have hs := (srF_in b K).1
    have ip : ∀ i : Nat, i ≤ K → ipF b' (srF b K) K i = ipF b (srF b K) K i := by
      intro i
      induction i with
      | zero => intro _; rfl
      | succ i ihh =>
        intro hi
        have := hs i (by omega) (by omega)
        unfold ipF
        rw [h _ this.1 (by omega), h K (by omega) (by omega), ihh (by omega)]
    unfold srF
    rw [ih]
    unfold inF
    rw [ip K (Nat.le_refl _)]
theorem Perm.c {n : Int} {sc sc' : F1} (hp : Perm n sc) (h : ∀ i, 0 ≤ i → i < n → sc' i = sc i) : Perm n sc' := by
  refine ⟨fun i a b => by rw [h i a b]; exact hp.1 i a b, fun i j a b c d e => ?_, fun s a b => ?_⟩
  · rw [h i a b, h j c d] at e
    exact hp.2.1 i j a b c d e
  · obtain ⟨i, a1, a2, a3⟩ := hp.2.2 s a b
    exact ⟨i, a1, a2, by rw [h i a1 a2]; exact a3⟩
theorem tms_c {r : F1} {g : Int} {sc sc' : F1} (hr : WFr r) (hp : Perm (r 5) sc) (h : ∀ i, 0 ≤ i → i < r 5 → sc' i = sc i) : (∀ k, 0 ≤ k → k < r 7 → bgF r g sc' k = bgF r g sc k ∧ clF r g sc' k = clF r g sc k) ∧ sqF r g sc' = sqF r g sc := by
  have e0 := hr.1
  have h1 : ∀ k, 0 ≤ k → k < r 7 → bgF r g sc' k = bgF r g sc k ∧ clF r g sc' k = clF r g sc k := by
    intro k a b
    have e1 := hr.2.2.2.1 k a b
    unfold bgF clF
    rw [opF_c hp (hp.c h) (by omega) h (s := r (54 + 7 * k + 1)) (by omega)]
    exact ⟨rfl, rfl⟩
  exact ⟨h1, srF_c (fun k a b => (h1 k a (by omega)).1)⟩
theorem MayP_c {r : F1} {rd g cut : Int} {sc sc' : F1} (hr : WFr r) (hp : Perm (r 5) sc) (h : ∀ i, 0 ≤ i → i < r 5 → sc' i = sc i) : MayP r rd g sc' cut = MayP r rd g sc cut := by
  have e0 := hr.1
  funext s
  have ⟨h1, h2⟩ := tms_c (g := g) hr hp h
  have hs := srF_in (bgF r g sc) (r 7).toNat
  rw [show (((r 7).toNat : Nat) : Int) = r 7 by omega] at hs
  unfold MayP MayB
  rw [h2]
  exact propext (Can_c hr hs h1 (fun _ _ _ => rfl) (fun _ _ _ => Iff.rfl))
/-- the least over a list, the first such -/
def AllF (n : Int) (val : List Int → Int) (Ls : List (List Int)) (v : Int) (br : F1) : Prop := (v = -2 ∧ ∀ l ∈ Ls, val l = -2) ∨ ∃ P b S, Ls = P ++ b :: S ∧ v = val b ∧ v ≠ -2 ∧ (∀ k, 0 ≤ k → k < n → br k = vL b k) ∧ (∀ l ∈ S, val l = -2 ∨ v ≤ val l) ∧ ∀ l ∈ P, val l = -2 ∨ v < val l
theorem AllF.keep {n : Int} {val : List Int → Int} {Ls : List (List Int)} {v : Int} {br : F1} {c : List Int} (h : AllF n val Ls v br) (hc : val c = -2 ∨ (v ≠ -2 ∧ v ≤ val c)) : AllF n val (Ls ++ [c]) v br := by
  rcases h with ⟨a, b⟩ | ⟨P, b, S, h1, h2, h3, h4, h5, h6⟩
  · refine Or.inl ⟨a, fun l hl => ?_⟩
    rcases List.mem_append.mp hl with z | z
    · exact b l z
    · rw [List.mem_singleton.mp z]
      rcases hc with q | q
      · exact q
      · exact absurd a q.1
  · refine Or.inr ⟨P, b, S ++ [c], by rw [h1]; simp, h2, h3, h4, fun l hl => ?_, h6⟩
    rcases List.mem_append.mp hl with z | z
    · exact h5 l z
    · rw [List.mem_singleton.mp z]
      rcases hc with q | q
      · exact Or.inl q
      · exact Or.inr q.2
theorem AllF.new {n : Int} {val : List Int → Int} {Ls : List (List Int)} {v w : Int} {br br' : F1} {c : List Int} (h : AllF n val Ls v br) (hw : val c = w) (h0 : w ≠ -2) (hc : v = -2 ∨ w < v) (hb : ∀ k, 0 ≤ k → k < n → br' k = vL c k) : AllF n val (Ls ++ [c]) w br' := by
  refine Or.inr ⟨Ls, c, [], rfl, hw.symm, h0, hb, fun l hl => (by cases hl), fun l hl => ?_⟩
  rcases h with ⟨a, b⟩ | ⟨P, b, S, h1, h2, h3, h4, h5, h6⟩
  · exact Or.inl (b l hl)
  · have hwv : w < v := by omega
    rw [h1] at hl
    rcases List.mem_append.mp hl with z | z
    · rcases h6 l z with q | q
      · exact Or.inl q
      · exact Or.inr (by omega)
    · rcases List.mem_cons.mp z with z | z
      · rw [z, ← h2]; exact Or.inr hwv
      · rcases h5 l z with q | q
        · exact Or.inl q
        · exact Or.inr (by omega)
noncomputable def valF (r : F1) (rd g cut : Int) (l : List Int) : Int := fewV (MayP r rd g (vL l) cut) (r 4).toNat
theorem c_X12_nextOrder2 {E : ET} {I : MI} {L : ML} {R : MR} {Q : QT} {r v : F1} {A B : List (List Int)} {c : List Int} (hT : Topo R) (er : I 141 = r) (ev : I 148 = v) (hr : WFr r) (hL : perms (r 5).toNat = A ++ c :: B) (hv : ∀ k, 0 ≤ k → k < r 5 → v k = vL c k)
    (h : ∀ (P : Prop) (I' : MI), Eqo [148] I I' → (P → ∃ B1 c' B2, B = B1 ++ c' :: B2 ∧ B1.filter (ordB r) = [] ∧ OrdP r (vL c') ∧ ∀ k, 0 ≤ k → k < r 5 → I' 148 k = vL c' k) → (¬ P → B.filter (ordB r) = []) → Q (some (vi (bI P))) I' L R) : CT E M_X12_nextOrder 161 yX12_nextOrder [vr 138] I L R Q :=
  c_X12_nextOrder hT er ev hr hL hv ⟨fun z I' k => h False I' k False.elim (fun _ => z), fun B1 c' B2 z1 z2 z3 I' k1 k2 => h True I' k1 (fun _ => ⟨B1, c', B2, z1, z2, z3, k2⟩) (fun q => absurd trivial q)⟩
set_option maxHeartbeats 4000000 in
theorem c_X12_firstOrder {E : ET} {I : MI} {L : ML} {R : MR} {Q : Option AV → MI → ML → MR → Prop} {r : F1} (hT : Topo R) (er : I 141 = r) (hr : WFr r) (h : (ordL r = [] → ∀ I', Eqo [148] I I' → Q (some (vi (bI False))) I' L R) ∧ (∀ A c B, perms (r 5).toNat = A ++ c :: B → A.filter (ordB r) = [] → OrdP r (vL c) → ∀ I', Eqo [148] I I' → (∀ k, 0 ≤ k → k < r 5 → I' 148 k = vL c k) → Q (some (vi (bI True))) I' L R)) : CT E M_X12_firstOrder 161 yX12_firstOrder [(vr (138))] I L R Q := by
  refine CT_of rfl rfl (fun h => by cases h) (Nat.le_of_ble_eq_true rfl) (fun X => ?_)
  show V X _ z0 0 [some (vr (138)), none] [] I L R _
  have e0 := hr.1
  have hn : 1 ≤ (r 5).toNat ∧ (r 5).toNat ≤ 5 := by omega
  have hall := pr_at hn
  simp only [prAll, Bool.and_eq_true, decide_eq_true_eq] at hall
  have hid : ∀ k, 0 ≤ k → k < r 5 → vL (idl (r 5).toNat) k = k := by
    intro k a b
    unfold vL idl
    rw [List.getD_eq_getElem?_getD, List.getElem?_map, List.getElem?_range (by omega)]
    show ((k.toNat : Nat) : Int) = k
    omega
  have loop : ∀ (f : Nat) (i : Int) (I1 : MI), 5 - i < (f : Int) → 0 ≤ i → i ≤ 5 → Eqo [148] I I1 → (∀ k, 0 ≤ k → k < i → I1 148 k = if k < r 5 then k else 0) → V X M_X12_firstOrder z0 2 [some (vr (138)), some (vi (i))] [] (I1) L R (RT X M_X12_firstOrder Q) := by
    intro f
    induction f with
    | zero => intro i I1 h1 h2 h3; omega
    | succ f ih =>
      intro i I1 h1 h2 h3 h4 h5
      have er : I1 141 = r := (h4 141 (by decide)).trans er
      by_cases hi : i < 5
      · skip
        refine s_iload_n 3 dX12_firstOrder_2 rfl rfl ?_
        refine s_iconst 4 dX12_firstOrder_3 rfl ?_
        refine s_icmp_ge 34 7 dX12_firstOrder_4 rfl rfl (by first | omega | exact bI_r _ | exact iI_r _) (by first | omega | exact bI_r _ | exact iI_r _) (fun h_4 => by exfalso; omega) (fun h_4 => ?_)
        refine s_aload_n 8 dX12_firstOrder_7 rfl rfl ?_
        refine s_getR 11 dX12_firstOrder_8 rfl fl_X12_41 (fun _ _ _ _ => rfl) (T_X12_row hT) sh_138 (Nat.le_of_ble_eq_true rfl) ?_
        refine s_iload_n 12 dX12_firstOrder_11 rfl rfl ?_
        refine s_iload_n 13 dX12_firstOrder_12 rfl rfl ?_
        refine s_aload_n 14 dX12_firstOrder_13 rfl rfl ?_
        refine s_getR 17 dX12_firstOrder_14 rfl fl_X12_20 (fun _ _ _ _ => rfl) (T_X12_r hT) sh_138 (Nat.le_of_ble_eq_true rfl) ?_
        refine s_iconst 18 dX12_firstOrder_17 rfl ?_
        refine s_iald 19 dX12_firstOrder_18 rfl sh_141 (Nat.le_of_ble_eq_true rfl) (by omega) (by omega) (fun r_18 => ?_)
        rw [er] at r_18 ⊢
        refine s_icmp_ge 26 22 dX12_firstOrder_19 rfl rfl (by first | omega | exact bI_r _ | exact iI_r _) (by first | omega | exact bI_r _ | exact iI_r _) (fun h_19 => ?_) (fun h_19 => ?_)
        · skip
          refine s_iconst 27 dX12_firstOrder_26 rfl ?_
          refine s_iast 28 dX12_firstOrder_27 rfl sh_148 (Nat.le_of_ble_eq_true rfl) (by omega) (by omega) (by first | omega | exact bI_r _ | exact iI_r _) ?_
          refine s_iinc (ls' := [_, _]) 31 dX12_firstOrder_28 rfl rfl (Nat.le_of_ble_eq_true rfl) rfl rfl ?_
          refine s_goto 2 dX12_firstOrder_31 rfl ?_
          refine ih (i + 1) _ (by omega) (by omega) (by omega) (h4.st (by decide)) (fun k a b => ?_)
          rw [upd9]
          by_cases ek : k = i
          · rw [if_pos ek, ek]; first | rw [if_pos (by omega)] | rw [if_neg (by omega)]
          · rw [if_neg ek]; exact h5 k a (by omega)
        refine s_iload_n 23 dX12_firstOrder_22 rfl rfl ?_
        refine s_goto 27 dX12_firstOrder_23 rfl ?_
        refine s_iast 28 dX12_firstOrder_27 rfl sh_148 (Nat.le_of_ble_eq_true rfl) (by omega) (by omega) (by first | omega | exact bI_r _ | exact iI_r _) ?_
        refine s_iinc (ls' := [_, _]) 31 dX12_firstOrder_28 rfl rfl (Nat.le_of_ble_eq_true rfl) rfl rfl ?_
        refine s_goto 2 dX12_firstOrder_31 rfl ?_
        refine ih (i + 1) _ (by omega) (by omega) (by omega) (h4.st (by decide)) (fun k a b => ?_)
        rw [upd9]
        by_cases ek : k = i
        · rw [if_pos ek, ek]; first | rw [if_pos (by omega)] | rw [if_neg (by omega)]
        · rw [if_neg ek]; exact h5 k a (by omega)
      · have hv : ∀ k, 0 ≤ k → k < r 5 → I1 148 k = vL (idl (r 5).toNat) k := fun k a b => by rw [h5 k a (by omega), if_pos b, hid k a b]
        have hb : ∀ k, 0 ≤ k → k < r 5 → 0 ≤ I1 148 k ∧ I1 148 k < 5 := fun k a b => by rw [h5 k a (by omega), if_pos b]; omega
        have hL : perms (r 5).toNat = [] ++ idl (r 5).toNat :: (perms (r 5).toNat).tail := by rw [List.nil_append]; exact hall.2
        refine s_iload_n 3 dX12_firstOrder_2 rfl rfl ?_
        refine s_iconst 4 dX12_firstOrder_3 rfl ?_
        refine s_icmp_ge 34 7 dX12_firstOrder_4 rfl rfl (by first | omega | exact bI_r _ | exact iI_r _) (by first | omega | exact bI_r _ | exact iI_r _) (fun h_4 => ?_) (fun h_4 => by exfalso; omega)
        refine s_aload_n 35 dX12_firstOrder_34 rfl rfl ?_
        refine s_aload_n 36 dX12_firstOrder_35 rfl rfl ?_
        refine s_getR 39 dX12_firstOrder_36 rfl fl_X12_41 (fun _ _ _ _ => rfl) (T_X12_row hT) sh_138 (Nat.le_of_ble_eq_true rfl) ?_
        refine s_callV0 (M' := M_X12_isOrder) (as := [_]) 42 dX12_firstOrder_39 rfl cw_X12_286 rfl rfl sh_138 rfl (by decide) (Nat.le_of_ble_eq_true rfl) (Nat.le_of_ble_eq_true rfl) (Nat.le_of_ble_eq_true rfl) (Nat.le_of_ble_eq_true rfl) ⟨rfl, rfl, rfl⟩ ?_
        refine c_X12_isOrder hT er hr sh_148 (by decide) (by decide) rfl hb ?_
        rw [bI_c (OrdP_c hv)]
        refine s_ifb_ne 52 45 dX12_firstOrder_42 rfl rfl (fun h_42 => ?_) (fun h_42 => ?_)
        · skip
          refine s_iconst 53 dX12_firstOrder_52 rfl ?_
          refine s_goto 57 dX12_firstOrder_53 rfl ?_
          refine s_zret dX12_firstOrder_57 rfl (by first | omega | exact bI_b _) rfl ?_
          first | exact ret_t (b := True) trivial (h.2 [] _ _ hL rfl (by assumption) I1 h4 hv) | (obtain ⟨B1, c', B2, z1, z2, z3, z4⟩ := k2 (by assumption); exact ret_t (b := True) trivial (h.2 (idl (r 5).toNat :: B1) c' B2 (by rw [hL, z1]; simp) (by simp [z2, show ordB r (idl (r 5).toNat) = false from by rw [← Bool.not_eq_true, ordB_t]; assumption]) z3 I2 (h4.tr k1) z4)) | exact ret_f (b := False) id (h.1 (by unfold ordL; rw [hL]; simp [k3 (by assumption), show ordB r (idl (r 5).toNat) = false from by rw [← Bool.not_eq_true, ordB_t]; assumption]) I2 (h4.tr k1))
        refine s_aload_n 46 dX12_firstOrder_45 rfl rfl ?_
        refine s_callV0 (M' := M_X12_nextOrder) (as := []) 49 dX12_firstOrder_46 rfl cw_X12_290 rfl rfl sh_138 rfl (by decide) (Nat.le_of_ble_eq_true rfl) (Nat.le_of_ble_eq_true rfl) (Nat.le_of_ble_eq_true rfl) (Nat.le_of_ble_eq_true rfl) ⟨rfl, rfl, rfl⟩ ?_
        refine c_X12_nextOrder2 hT er rfl hr hL hv (fun P I2 k1 k2 k3 => ?_)
        refine s_ifb_eq 56 52 dX12_firstOrder_49 rfl rfl (fun h_49 => ?_) (fun h_49 => ?_)
        · skip
          refine s_iconst 57 dX12_firstOrder_56 rfl ?_
          refine s_zret dX12_firstOrder_57 rfl (by first | omega | exact bI_b _) rfl ?_
          first | exact ret_t (b := True) trivial (h.2 [] _ _ hL rfl (by assumption) I1 h4 hv) | (obtain ⟨B1, c', B2, z1, z2, z3, z4⟩ := k2 (by assumption); exact ret_t (b := True) trivial (h.2 (idl (r 5).toNat :: B1) c' B2 (by rw [hL, z1]; simp) (by simp [z2, show ordB r (idl (r 5).toNat) = false from by rw [← Bool.not_eq_true, ordB_t]; assumption]) z3 I2 (h4.tr k1) z4)) | exact ret_f (b := False) id (h.1 (by unfold ordL; rw [hL]; simp [k3 (by assumption), show ordB r (idl (r 5).toNat) = false from by rw [← Bool.not_eq_true, ordB_t]; assumption]) I2 (h4.tr k1))
        refine s_iconst 53 dX12_firstOrder_52 rfl ?_
        refine s_goto 57 dX12_firstOrder_53 rfl ?_
        refine s_zret dX12_firstOrder_57 rfl (by first | omega | exact bI_b _) rfl ?_
        first | exact ret_t (b := True) trivial (h.2 [] _ _ hL rfl (by assumption) I1 h4 hv) | (obtain ⟨B1, c', B2, z1, z2, z3, z4⟩ := k2 (by assumption); exact ret_t (b := True) trivial (h.2 (idl (r 5).toNat :: B1) c' B2 (by rw [hL, z1]; simp) (by simp [z2, show ordB r (idl (r 5).toNat) = false from by rw [← Bool.not_eq_true, ordB_t]; assumption]) z3 I2 (h4.tr k1) z4)) | exact ret_f (b := False) id (h.1 (by unfold ordL; rw [hL]; simp [k3 (by assumption), show ordB r (idl (r 5).toNat) = false from by rw [← Bool.not_eq_true, ordB_t]; assumption]) I2 (h4.tr k1))
  refine s_iconst 1 dX12_firstOrder_0 rfl ?_
  refine s_istore_n (ls' := [_, _]) 2 dX12_firstOrder_1 rfl (Nat.le_of_ble_eq_true rfl) rfl rfl ?_
  exact loop 6 0 I (by omega) (by omega) (by omega) Eqo.rf (fun k a b => by omega)
theorem c_X12_firstOrder2 {E : ET} {I : MI} {L : ML} {R : MR} {Q : QT} {r : F1} (hT : Topo R) (er : I 141 = r) (hr : WFr r)
    (h : ∀ (P : Prop) (I' : MI), Eqo [148] I I' → (P → ∃ A c B, perms (r 5).toNat = A ++ c :: B ∧ A.filter (ordB r) = [] ∧ OrdP r (vL c) ∧ ∀ k, 0 ≤ k → k < r 5 → I' 148 k = vL c k) → (¬ P → ordL r = []) → Q (some (vi (bI P))) I' L R) : CT E M_X12_firstOrder 161 yX12_firstOrder [vr 138] I L R Q :=
  c_X12_firstOrder hT er hr ⟨fun z I' k => h False I' k False.elim (fun _ => z), fun A c B z1 z2 z3 I' k1 k2 => h True I' k1 (fun _ => ⟨A, c, B, z1, z2, z3, k2⟩) (fun q => absurd trivial q)⟩
def FA : List Nat := [148, 149, 150, 151, 152, 153, 155, 156, 157]
set_option maxHeartbeats 4000000 in
theorem c_X12_fewestOverAll {E : ET} {I : MI} {L : ML} {R : MR} {Q : Option AV → MI → ML → MR → Prop} {r s : F1} {rd g : Int} (hT : Topo R) (er : I 141 = r) (es : I 143 = s) (erd : I 138 30 = rd) (hr : WFr r) (eg : r 2 = g) (h : ∀ v I', Eqo FA I I' → AllF (r 5) (valF r rd g (s 12)) (ordL r) v (I' 157) → -2 ≤ v ∧ v ≤ 7 → Q (some (vi v)) I' L R) : CT E M_X12_fewestOverAll 161 yX12_fewestOverAll [(vr (138))] I L R Q := by
  refine CT_of rfl rfl (fun h => by cases h) (Nat.le_of_ble_eq_true rfl) (fun X => ?_)
  show V X _ z0 0 [some (vr (138)), none, none, none] [] I L R _
  have e0 := hr.1
  have hn : 1 ≤ (r 5).toNat ∧ (r 5).toNat ≤ 5 := by omega
  have hN : (((r 5).toNat : Nat) : Int) = r 5 := by omega
  have h8F : ∀ (v : Int) (w3 : Option AV) (I1 : MI), Eqo FA I I1 → AllF (r 5) (valF r rd g (s 12)) (ordL r) v (I1 157) → -2 ≤ v ∧ v ≤ 7 → V X M_X12_fewestOverAll z0 8 [some (vr 138), some (vi v), some (vi (bI False)), w3] [] I1 L R (RT X M_X12_fewestOverAll Q) := by
    intro v w3 I1 g1 g2 g3
    refine s_iload_n 9 dX12_fewestOverAll_8 rfl rfl ?_
    refine s_ifb_eq 69 12 dX12_fewestOverAll_9 rfl rfl (fun h_9 => ?_) (fun h_9 => by exfalso; exact h_9)
    refine s_iload_n 70 dX12_fewestOverAll_69 rfl rfl ?_
    refine s_iret dX12_fewestOverAll_70 rfl rfl ?_
    exact h v I1 g1 g2 g3
  have h8T : ∀ (f : Nat) (A B : List (List Int)) (c : List Int) (v : Int) (w3 : Option AV) (I1 : MI), B.length < f → perms (r 5).toNat = A ++ c :: B → OrdP r (vL c) → (∀ k, 0 ≤ k → k < r 5 → I1 148 k = vL c k) → Eqo FA I I1 → AllF (r 5) (valF r rd g (s 12)) (A.filter (ordB r)) v (I1 157) → -2 ≤ v ∧ v ≤ 7 →
      V X M_X12_fewestOverAll z0 8 [some (vr 138), some (vi v), some (vi (bI True)), w3] [] I1 L R (RT X M_X12_fewestOverAll Q) := by
    intro f
    induction f with
    | zero => intro A B c v w3 I1 g1; omega
    | succ f ih =>
      intro A B c v w3 I1 g1 g2 g3 g4 g5 g6 g7
      have er1 : I1 141 = r := (g5 141 (by decide)).trans er
      have es1 : I1 143 = s := (g5 143 (by decide)).trans es
      have erd1 : I1 138 30 = rd := (congrFun (g5 138 (by decide)) 30).trans erd
      have hpc := (perm_of hn (show c ∈ perms (r 5).toNat by rw [g2]; simp)).1
      rw [hN] at hpc
      have hpI : Perm (r 5) (I1 148) := hpc.c g4
      have hoc : ordB r c = true := ordB_t.mpr g3
      -- the next ORDER
      have next : ∀ (v1 : Int) (w2 w3 : Option AV) (I2 : MI), (∀ k, 0 ≤ k → k < r 5 → I2 148 k = vL c k) → Eqo FA I I2 → AllF (r 5) (valF r rd g (s 12)) ((A ++ [c]).filter (ordB r)) v1 (I2 157) → -2 ≤ v1 ∧ v1 ≤ 7 → V X M_X12_fewestOverAll z0 61 [some (vr 138), some (vi v1), w2, w3] [] I2 L R (RT X M_X12_fewestOverAll Q) := by
        intro v1 w2 w3 I2 k1 k2 k3 k4
        have er2 : I2 141 = r := (k2 141 (by decide)).trans er
        refine s_aload_n 62 dX12_fewestOverAll_61 rfl rfl ?_
        refine s_callV0 (M' := M_X12_nextOrder) (as := []) 65 dX12_fewestOverAll_62 rfl cw_X12_290 rfl rfl sh_138 rfl (by decide) (Nat.le_of_ble_eq_true rfl) (Nat.le_of_ble_eq_true rfl) (Nat.le_of_ble_eq_true rfl) (Nat.le_of_ble_eq_true rfl) ⟨rfl, rfl, rfl⟩ ?_
        refine c_X12_nextOrder2 hT er2 rfl hr g2 k1 (fun P I3 m1 m2 m3 => ?_)
        refine s_istore_n (ls' := [_, _, _, _]) 66 dX12_fewestOverAll_65 rfl (Nat.le_of_ble_eq_true rfl) rfl rfl ?_
        refine s_goto 8 dX12_fewestOverAll_66 rfl ?_
        by_cases hP : P
        · obtain ⟨B1, c', B2, z1, z2, z3, z4⟩ := m2 hP
          rw [bI_t hP, ← bI_t trivial]
          have e : (A ++ c :: B1).filter (ordB r) = (A ++ [c]).filter (ordB r) := by rw [show A ++ c :: B1 = (A ++ [c]) ++ B1 by simp, List.filter_append, z2, List.append_nil]
          have e7 : I3 157 = I2 157 := m1 157 (by decide)
          refine ih (A ++ c :: B1) B2 c' v1 _ I3 (by rw [z1] at g1; simp at g1; omega) (by rw [g2, z1]; simp) z3 z4 (k2.tr (m1.mo (by decide))) ?_ k4
          rw [e7, e]
          exact k3
        · rw [bI_f hP, ← bI_f (b := False) id]
          have e : ordL r = (A ++ [c]).filter (ordB r) := by unfold ordL; rw [g2, show A ++ c :: B = (A ++ [c]) ++ B by simp, List.filter_append, m3 hP, List.append_nil]
          have e7 : I3 157 = I2 157 := m1 157 (by decide)
          refine h8F v1 _ I3 (k2.tr (m1.mo (by decide))) ?_ k4
          rw [e7, e]
          exact k3
      have hfl : (A ++ [c]).filter (ordB r) = A.filter (ordB r) ++ [c] := by rw [List.filter_append]; simp [hoc]
      refine s_iload_n 9 dX12_fewestOverAll_8 rfl rfl ?_
      refine s_ifb_eq 69 12 dX12_fewestOverAll_9 rfl rfl (fun h_9 => by exfalso; exact h_9 trivial) (fun h_9 => ?_)
      refine s_aload_n 13 dX12_fewestOverAll_12 rfl rfl ?_
      refine s_aload_n 14 dX12_fewestOverAll_13 rfl rfl ?_
      refine s_getR 17 dX12_fewestOverAll_14 rfl fl_X12_41 (fun _ _ _ _ => rfl) (T_X12_row hT) sh_138 (Nat.le_of_ble_eq_true rfl) ?_
      refine s_aload_n 18 dX12_fewestOverAll_17 rfl rfl ?_
      refine s_getR 21 dX12_fewestOverAll_18 rfl fl_X12_26 (fun _ _ _ _ => rfl) (T_X12_st hT) sh_138 (Nat.le_of_ble_eq_true rfl) ?_
      refine s_bipush 23 dX12_fewestOverAll_21 rfl (by decide) ?_
      refine s_iald 24 dX12_fewestOverAll_23 rfl sh_143 (Nat.le_of_ble_eq_true rfl) (by omega) (by omega) (fun r_23 => ?_)
      rw [es1] at r_23 ⊢
      refine s_callV0 (M' := M_X12_fewestBy) (as := [_, _]) 27 dX12_fewestOverAll_24 rfl cw_X12_372 rfl rfl sh_138 rfl (by decide) (Nat.le_of_ble_eq_true rfl) (Nat.le_of_ble_eq_true rfl) (Nat.le_of_ble_eq_true rfl) (Nat.le_of_ble_eq_true rfl) ⟨rfl, rfl, rfl⟩ ?_
      refine c_X12_fewestBy hT er1 erd1 hr eg sh_148 (by decide) (by decide) (by decide) rfl hpI (fun w I2 k1 k2 k3 => ?_)
      skip
      have hw : valF r rd g (s 12) c = w := by
        have h1 := k2.is.v
        rw [MayP_c hr hpc g4] at h1
        exact h1
      have r48 : ∀ k, 0 ≤ k → k < r 5 → I2 148 k = vL c k := fun k a b => by rw [k1 148 (by decide)]; exact g4 k a b
      have i57 : I2 157 = I1 157 := k1 157 (by decide)
      have g5' : Eqo FA I I2 := g5.tr (k1.mo (by decide))
      refine s_istore_n (ls' := [_, _, _, _]) 28 dX12_fewestOverAll_27 rfl (Nat.le_of_ble_eq_true rfl) rfl rfl ?_
      refine s_iload_n 29 dX12_fewestOverAll_28 rfl rfl ?_
      refine s_bipush 31 dX12_fewestOverAll_29 rfl (by decide) ?_
      refine s_icmp_eq 61 34 dX12_fewestOverAll_31 rfl rfl (by first | omega | exact bI_r _ | exact iI_r _) (by first | omega | exact bI_r _ | exact iI_r _) (fun h_31 => ?_) (fun h_31 => ?_)
      · skip
        first | exact next _ _ _ I2 r48 g5' (by rw [hfl, i57]; exact g6.keep (by omega)) g7 | exact next _ _ _ _ (fun k a b => by rw [cpI_ne (by decide)]; exact r48 k a b) (fun a ha => by rw [cpI_ne (fun e => ha (by rw [e]; decide))]; exact g5' a ha) (by rw [hfl]; exact g6.new hw (by omega) (by omega) (fun k a b => by rw [cpI_eq]; simp only []; rw [if_pos (by omega), show (0 : Int) + (k - 0) = k by omega]; exact r48 k a b)) k3
      refine s_iload_n 35 dX12_fewestOverAll_34 rfl rfl ?_
      refine s_bipush 37 dX12_fewestOverAll_35 rfl (by decide) ?_
      refine s_icmp_eq 45 40 dX12_fewestOverAll_37 rfl rfl (by first | omega | exact bI_r _ | exact iI_r _) (by first | omega | exact bI_r _ | exact iI_r _) (fun h_37 => ?_) (fun h_37 => ?_)
      · skip
        refine s_iload_n 46 dX12_fewestOverAll_45 rfl rfl ?_
        refine s_istore_n (ls' := [_, _, _, _]) 47 dX12_fewestOverAll_46 rfl (Nat.le_of_ble_eq_true rfl) rfl rfl ?_
        refine s_aload_n 48 dX12_fewestOverAll_47 rfl rfl ?_
        refine s_getR 51 dX12_fewestOverAll_48 rfl fl_X12_41 (fun _ _ _ _ => rfl) (T_X12_row hT) sh_138 (Nat.le_of_ble_eq_true rfl) ?_
        refine s_iconst 52 dX12_fewestOverAll_51 rfl ?_
        refine s_aload_n 53 dX12_fewestOverAll_52 rfl rfl ?_
        refine s_getR 56 dX12_fewestOverAll_53 rfl fl_X12_72 (fun _ _ _ _ => rfl) (T_X12_bestRow hT) sh_138 (Nat.le_of_ble_eq_true rfl) ?_
        refine s_iconst 57 dX12_fewestOverAll_56 rfl ?_
        refine s_iconst 58 dX12_fewestOverAll_57 rfl ?_
        refine s_callS0 (M' := M_X12_copy) (as := [_, _, _, _, _]) 61 dX12_fewestOverAll_58 rfl cw_X12_199 rfl rfl (Nat.le_of_ble_eq_true rfl) (Nat.le_of_ble_eq_true rfl) (Nat.le_of_ble_eq_true rfl) ⟨rfl, rfl, rfl⟩ ?_
        refine c_X12_copy sh_148 sh_157 (by decide) (by decide) (by decide) (by decide) (by omega) (by omega) (by omega) ?_
        first | exact next _ _ _ I2 r48 g5' (by rw [hfl, i57]; exact g6.keep (by omega)) g7 | exact next _ _ _ _ (fun k a b => by rw [cpI_ne (by decide)]; exact r48 k a b) (fun a ha => by rw [cpI_ne (fun e => ha (by rw [e]; decide))]; exact g5' a ha) (by rw [hfl]; exact g6.new hw (by omega) (by omega) (fun k a b => by rw [cpI_eq]; simp only []; rw [if_pos (by omega), show (0 : Int) + (k - 0) = k by omega]; exact r48 k a b)) k3
      refine s_iload_n 41 dX12_fewestOverAll_40 rfl rfl ?_
      refine s_iload_n 42 dX12_fewestOverAll_41 rfl rfl ?_
      refine s_icmp_ge 61 45 dX12_fewestOverAll_42 rfl rfl (by first | omega | exact bI_r _ | exact iI_r _) (by first | omega | exact bI_r _ | exact iI_r _) (fun h_42 => ?_) (fun h_42 => ?_)
      · skip
        first | exact next _ _ _ I2 r48 g5' (by rw [hfl, i57]; exact g6.keep (by omega)) g7 | exact next _ _ _ _ (fun k a b => by rw [cpI_ne (by decide)]; exact r48 k a b) (fun a ha => by rw [cpI_ne (fun e => ha (by rw [e]; decide))]; exact g5' a ha) (by rw [hfl]; exact g6.new hw (by omega) (by omega) (fun k a b => by rw [cpI_eq]; simp only []; rw [if_pos (by omega), show (0 : Int) + (k - 0) = k by omega]; exact r48 k a b)) k3
      refine s_iload_n 46 dX12_fewestOverAll_45 rfl rfl ?_
      refine s_istore_n (ls' := [_, _, _, _]) 47 dX12_fewestOverAll_46 rfl (Nat.le_of_ble_eq_true rfl) rfl rfl ?_
      refine s_aload_n 48 dX12_fewestOverAll_47 rfl rfl ?_
      refine s_getR 51 dX12_fewestOverAll_48 rfl fl_X12_41 (fun _ _ _ _ => rfl) (T_X12_row hT) sh_138 (Nat.le_of_ble_eq_true rfl) ?_
      refine s_iconst 52 dX12_fewestOverAll_51 rfl ?_
      refine s_aload_n 53 dX12_fewestOverAll_52 rfl rfl ?_
      refine s_getR 56 dX12_fewestOverAll_53 rfl fl_X12_72 (fun _ _ _ _ => rfl) (T_X12_bestRow hT) sh_138 (Nat.le_of_ble_eq_true rfl) ?_
      refine s_iconst 57 dX12_fewestOverAll_56 rfl ?_
      refine s_iconst 58 dX12_fewestOverAll_57 rfl ?_
      refine s_callS0 (M' := M_X12_copy) (as := [_, _, _, _, _]) 61 dX12_fewestOverAll_58 rfl cw_X12_199 rfl rfl (Nat.le_of_ble_eq_true rfl) (Nat.le_of_ble_eq_true rfl) (Nat.le_of_ble_eq_true rfl) ⟨rfl, rfl, rfl⟩ ?_
      refine c_X12_copy sh_148 sh_157 (by decide) (by decide) (by decide) (by decide) (by omega) (by omega) (by omega) ?_
      first | exact next _ _ _ I2 r48 g5' (by rw [hfl, i57]; exact g6.keep (by omega)) g7 | exact next _ _ _ _ (fun k a b => by rw [cpI_ne (by decide)]; exact r48 k a b) (fun a ha => by rw [cpI_ne (fun e => ha (by rw [e]; decide))]; exact g5' a ha) (by rw [hfl]; exact g6.new hw (by omega) (by omega) (fun k a b => by rw [cpI_eq]; simp only []; rw [if_pos (by omega), show (0 : Int) + (k - 0) = k by omega]; exact r48 k a b)) k3
  refine s_bipush 2 dX12_fewestOverAll_0 rfl (by decide) ?_
  refine s_istore_n (ls' := [_, _, _, _]) 3 dX12_fewestOverAll_2 rfl (Nat.le_of_ble_eq_true rfl) rfl rfl ?_
  refine s_aload_n 4 dX12_fewestOverAll_3 rfl rfl ?_
  refine s_callV0 (M' := M_X12_firstOrder) (as := []) 7 dX12_fewestOverAll_4 rfl cw_X12_215 rfl rfl sh_138 rfl (by decide) (Nat.le_of_ble_eq_true rfl) (Nat.le_of_ble_eq_true rfl) (Nat.le_of_ble_eq_true rfl) (Nat.le_of_ble_eq_true rfl) ⟨rfl, rfl, rfl⟩ ?_
  refine c_X12_firstOrder2 hT er hr (fun P I1 m1 m2 m3 => ?_)
  refine s_istore_n (ls' := [_, _, _, _]) 8 dX12_fewestOverAll_7 rfl (Nat.le_of_ble_eq_true rfl) rfl rfl ?_
  by_cases hP : P
  · obtain ⟨A, c, B, z1, z2, z3, z4⟩ := m2 hP
    rw [bI_t hP, ← bI_t trivial]
    refine h8T (B.length + 1) A B c _ none I1 (by omega) z1 z3 z4 (m1.mo (by decide)) ?_ (by omega)
    rw [z2]
    exact Or.inl ⟨rfl, fun l hl => by cases hl⟩
  · rw [bI_f hP, ← bI_f (b := False) id]
    refine h8F _ none I1 (m1.mo (by decide)) ?_ (by omega)
    rw [m3 hP]
    exact Or.inl ⟨rfl, fun l hl => by cases hl⟩
