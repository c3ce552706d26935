/-! SEARCH: the best of all orders -/
theorem splV_few {G : Int → Prop} {n : Nat} (hn : 1 ≤ n ∧ n ≤ 7) : SplV G (allF n) (fewV G n) := by
  rcases few_all (G := G) (n := n) with ⟨a, b⟩ | ⟨P, b, S, h1, h2, h3, h4, h5, h6⟩
  · refine Or.inl ⟨a, fun m z => ?_⟩
    obtain ⟨l, l1, l2, l3⟩ := (spl_few hn).mp z
    have e := b l l1
    rw [valR_t l2] at e
    have := plF_nn (vL l) n
    omega
  · have gb : GL G n (vL b) := valR_n (by rw [← h2]; exact h3)
    have ev := valR_t gb
    have pn := plF_nn (vL b) n
    refine Or.inr ⟨by omega, (spl_few hn).mpr ⟨b, by rw [h1]; simp, gb, by omega⟩, fun m m1 z => ?_⟩
    obtain ⟨l, l1, l2, l3⟩ := (spl_few hn).mp z
    have el := valR_t l2
    have := plF_nn (vL l) n
    rw [h1] at l1
    rcases List.mem_append.mp l1 with y | y
    · rcases h6 l y with w | w <;> omega
    · rcases List.mem_cons.mp y with y | y
      · subst y; omega
      · rcases h5 l y with w | w <;> omega
theorem few_1 {G : Int → Prop} {n : Nat} (hn : 1 ≤ n ∧ n ≤ 7) : fewV G n = -2 ∨ (1 ≤ fewV G n ∧ fewV G n ≤ 7) := by
  rcases few_b (G := G) hn with h | h
  · exact Or.inl h
  · refine Or.inr ⟨?_, h.2⟩
    rcases splV_few (G := G) hn with ⟨a, _⟩ | ⟨a, b, c⟩
    · omega
    · apply Classical.byContradiction
      intro z
      have e : fewV G n = 0 := by omega
      rw [e] at b
      have b : allF n = 0 := b
      have := (allF_has (n := (n : Int)) (k := 0) ⟨by omega, by omega⟩ (by decide)).mpr (by omega)
      rw [b] at this
      exact has_0 (by decide) this
theorem allF_keeps {n : Int} {val : List Int → Int} : ∀ (B A : List (List Int)) {v : Int} {br : F1}, AllF n val A v br → v ≠ -2 → (∀ c ∈ B, val c = -2 ∨ v ≤ val c) → AllF n val (A ++ B) v br
  | [], A, v, br, h, _, _ => by rw [List.append_nil]; exact h
  | c :: t, A, v, br, h, h0, hc => by
    have e : A ++ c :: t = (A ++ [c]) ++ t := by simp
    rw [e]
    exact allF_keeps t (A ++ [c]) (h.keep ((hc c (by simp)).imp id (fun z => ⟨h0, z⟩))) h0 (fun x hx => hc x (by simp [hx]))
def BaI (I : MI) (r : F1) : Prop := I 111 3 = -1 ∨ ∃ c, 0 ≤ c ∧ c < 16384 ∧ I 111 3 = c ∧ I 111 4 = bestV (valF r (-1) (r 2) c) (ordL r) ∧ (I 111 4 ≠ -2 → EnO (I 111 5) (bestX (valF r (-1) (r 2) c) (ordL r)) (r 5))
set_option maxHeartbeats 4000000 in
theorem c_X7_bestOfAll {E : ET} {I : MI} {L : ML} {R : MR} {Q : Option AV → MI → ML → MR → Prop} {P : Nat} {r : F1} {cut : Int} (hT : Topo R) (hP : isP P) (h7 : R 111 0 = some P) (h13 : R 113 1 = some P) (hr : WFr r) (hW : TrW P r I) (hB : BaI I r) (hcut : 0 ≤ cut ∧ cut < 16384) (h : ∀ I', (∀ c, c ≠ 111 → (c < 113 ∨ 134 < c) → I' c = I c) → TrW P r I' → I' 111 3 = cut → I' 111 4 = bestV (valF r (-1) (r 2) cut) (ordL r) → (I' 111 4 ≠ -2 → EnO (I' 111 5) (bestX (valF r (-1) (r 2) cut) (ordL r)) (r 5)) → Q (some (vi (bestV (valF r (-1) (r 2) cut) (ordL r)))) I' L R) : CT E M_X7_bestOfAll 161 yX7_bestOfAll [(vr (111)), (vi (cut))] I L R Q := by
  refine CT_of rfl rfl (fun h => by cases h) (Nat.le_of_ble_eq_true rfl) (fun X => ?_)
  show V X _ z0 0 [some (vr (111)), some (vi (cut)), none, none, none, none] [] I L R _
  have e0 := hr.1
  have hp : P = 3 ∨ P = 39 := hP
  have hn : 1 ≤ (r 4).toNat ∧ (r 4).toNat ≤ 7 := by omega
  have en : (((r 4).toNat : Nat) : Int) = r 4 := by omega
  have a7 := allF_7 (n := r 4) ⟨by omega, by omega⟩
  have hfew : ∀ c, valF r (-1) (r 2) cut c = -2 ∨ (1 ≤ valF r (-1) (r 2) cut c ∧ valF r (-1) (r 2) cut c ≤ 7) := fun c => few_1 hn
  have hspl : ∀ c, SplV (MayP r (-1) (r 2) (vL c) cut) (allF (r 4)) (valF r (-1) (r 2) cut c) := fun c => by
    have := splV_few (G := MayP r (-1) (r 2) (vL c) cut) hn
    rw [en] at this
    exact this
  have trw : ∀ {I1 I2 : MI}, TrW P r I1 → (∀ c, c ≠ 111 → I2 c = I1 c) → TrW P r I2 := fun {I1 I2} w e => by
    refine ⟨w.1.c (by omega) (fun c a b => e c (by omega)), ?_, w.2.2.c (e P (by omega)) (e (P + 35) (by omega))⟩
    obtain ⟨n1, n2⟩ := w.2.1
    refine ⟨fun a b a1 a2 b1 b2 => by rw [e (113 + 3 + a.toNat) (by omega)]; exact n1 a b a1 a2 b1 b2, ?_⟩
    rw [e 113 (by decide)]
    rcases n2 with z | ⟨o, g, sc, ct, z1, z2, z3, z4⟩
    · exact Or.inl z
    · refine Or.inr ⟨o, g, sc, ct, z1, z2, z3, by rw [e 113 (by decide)]; exact z4.1, by rw [e 113 (by decide)]; exact z4.2.1, by rw [e 113 (by decide)]; exact z4.2.2.1, z4.2.2.2.1.c (by omega) (fun c hc => e c (by omega)), z4.2.2.2.2.c (e (113 + 1) (by decide)) (fun _ _ _ => Iff.rfl)⟩
  have fin : ∀ (I1 : MI) (best i v : Int) (br : F1) (w4 w5 : Option AV), (∀ c, c ≠ 111 → (c < 113 ∨ 134 < c) → I1 c = I c) → TrW P r I1 → I1 111 3 = cut → AllF (r 5) (valF r (-1) (r 2) cut) (ordL r) v br → ((v = -2 ∧ best = 8) ∨ (1 ≤ v ∧ v ≤ 7 ∧ best = v ∧ EnO (I1 111 5) br (r 5))) → V X M_X7_bestOfAll z0 117 [some (vr (111)), some (vi (cut)), some (vi (best)), some (vi (i)), w4, w5] [] (I1) L R (RT X M_X7_bestOfAll Q) := by
    intro I1 best i v br w4 w5 h1 h2 h3 h4 h5
    have hb := h4.best
    have hh : ∀ x, x = bestV (valF r (-1) (r 2) cut) (ordL r) → Q (some (vi x)) (up I1 111 4 x) L R := fun x ex => by
      have hhh := h (up I1 111 4 x) (fun c c1 c2 => by rw [up_ne c1]; exact h1 c c1 c2) (trw h2 (fun c c1 => up_ne c1)) (by rw [upn (by decide)]; exact h3) (by rw [ups]; exact ex) (fun y => by
        rw [upn (by decide)]
        rw [ups, ex, hb.1] at y
        rcases h5 with z | z
        · exact absurd z.1 y
        · exact z.2.2.2.c (fun k a b => by rw [hb.2 k a b, if_neg y]))
      rw [ex] at hhh ⊢; exact hhh
    rcases h5 with z | z
    · have hx := hh (-2) (by rw [hb.1]; exact z.1.symm)
      refine s_aload_n 118 dX7_bestOfAll_117 rfl rfl ?_
      refine s_iload_n 119 dX7_bestOfAll_118 rfl rfl ?_
      refine s_bipush 121 dX7_bestOfAll_119 rfl (by decide) ?_
      refine s_icmp_le 129 124 dX7_bestOfAll_121 rfl rfl (by first | omega | exact bI_r _ | exact iI_r _) (by first | omega | exact bI_r _ | exact iI_r _) (fun h_121 => by exfalso; omega) (fun h_121 => ?_)
      refine s_bipush 126 dX7_bestOfAll_124 rfl (by decide) ?_
      refine s_goto 130 dX7_bestOfAll_126 rfl ?_
      refine s_putI 133 dX7_bestOfAll_130 rfl fl_X7_19 (fun _ => rfl) (fun _ => rfl) (fun _ _ _ _ => rfl) sh_111 (Nat.le_of_ble_eq_true rfl) (by first | omega | exact bI_r _ | exact iI_r _) ?_
      refine s_aload_n 134 dX7_bestOfAll_133 rfl rfl ?_
      refine s_getI 137 dX7_bestOfAll_134 rfl fl_X7_19 (fun _ _ _ _ => rfl) sh_111 (Nat.le_of_ble_eq_true rfl) (fun r_134 => ?_)
      rw [ups]
      refine s_iret dX7_bestOfAll_137 rfl rfl ?_
      exact hx
    · have hx := hh best (by rw [hb.1]; exact z.2.2.1)
      refine s_aload_n 118 dX7_bestOfAll_117 rfl rfl ?_
      refine s_iload_n 119 dX7_bestOfAll_118 rfl rfl ?_
      refine s_bipush 121 dX7_bestOfAll_119 rfl (by decide) ?_
      refine s_icmp_le 129 124 dX7_bestOfAll_121 rfl rfl (by first | omega | exact bI_r _ | exact iI_r _) (by first | omega | exact bI_r _ | exact iI_r _) (fun h_121 => ?_) (fun h_121 => by exfalso; omega)
      refine s_iload_n 130 dX7_bestOfAll_129 rfl rfl ?_
      refine s_putI 133 dX7_bestOfAll_130 rfl fl_X7_19 (fun _ => rfl) (fun _ => rfl) (fun _ _ _ _ => rfl) sh_111 (Nat.le_of_ble_eq_true rfl) (by first | omega | exact bI_r _ | exact iI_r _) ?_
      refine s_aload_n 134 dX7_bestOfAll_133 rfl rfl ?_
      refine s_getI 137 dX7_bestOfAll_134 rfl fl_X7_19 (fun _ _ _ _ => rfl) sh_111 (Nat.le_of_ble_eq_true rfl) (fun r_134 => ?_)
      rw [ups]
      refine s_iret dX7_bestOfAll_137 rfl rfl ?_
      exact hx
  have loop : ∀ (B A : List (List Int)) (I1 : MI) (best v : Int) (br : F1) (w4 w5 : Option AV), ordL r = A ++ B → (∀ c, c ≠ 111 → (c < 113 ∨ 134 < c) → I1 c = I c) → TrW P r I1 → I1 111 3 = cut → AllF (r 5) (valF r (-1) (r 2) cut) A v br → ((v = -2 ∧ best = 8) ∨ (1 ≤ v ∧ v ≤ 7 ∧ best = v ∧ EnO (I1 111 5) br (r 5))) → V X M_X7_bestOfAll z0 23 [some (vr (111)), some (vi (cut)), some (vi (best)), some (vi ((A.length : Int))), w4, w5] [] (I1) L R (RT X M_X7_bestOfAll Q) := by
    intro B
    induction B with
    | nil =>
      intro A I1 best v br w4 w5 hL h1 h2 h3 h4 h5
      rw [List.append_nil] at hL
      have hl := ordL_len (r := r) ⟨by omega, by omega⟩
      have e8 := h2.2.2.1
      rw [hL] at e8 hl
      refine s_iload_n 24 dX7_bestOfAll_23 rfl rfl ?_
      refine s_aload_n 25 dX7_bestOfAll_24 rfl rfl ?_
      refine s_getR 28 dX7_bestOfAll_25 rfl fl_X7_25 (fun _ _ _ _ => rfl) (by assumption) sh_111 (Nat.le_of_ble_eq_true rfl) ?_
      refine s_getI 31 dX7_bestOfAll_28 rfl fl_X7_42 (fun _ _ _ _ => rfl) (isP_sh (by assumption)) (isP_lt (by assumption)) (fun r_28 => ?_)
      rw [e8]
      refine s_icmp_ge 117 34 dX7_bestOfAll_31 rfl rfl (by first | omega | exact bI_r _ | exact iI_r _) (by first | omega | exact bI_r _ | exact iI_r _) (fun h_31 => ?_) (fun h_31 => by exfalso; omega)
      exact fin I1 best _ v br _ _ h1 h2 h3 (by rw [hL]; exact h4) h5
    | cons c B ih =>
      intro A I1 best v br w4 w5 hL h1 h2 h3 h4 h5
      have hl := ordL_len (r := r) ⟨by omega, by omega⟩
      have hlen : (ordL r).length = A.length + (B.length + 1) := by rw [hL]; simp
      have e8 := h2.2.2.1
      rw [hlen] at e8 hl
      have hm : c ∈ ordL r := by rw [hL]; simp
      have hc := ordL_of hr hm
      have eo := h2.2.2.2 A.length (by omega)
      rw [hL, List.getD_eq_getElem?_getD, List.getElem?_append_right (Nat.le_refl _), Nat.sub_self] at eo
      have eo : EnO (I1 (P + 35) (A.length : Int)) (vL c) (r 5) := eo
      by_cases hb1 : best ≤ 1
      · have hv1 : v = 1 ∧ best = v := by omega
        skip
        refine s_iload_n 24 dX7_bestOfAll_23 rfl rfl ?_
        refine s_aload_n 25 dX7_bestOfAll_24 rfl rfl ?_
        refine s_getR 28 dX7_bestOfAll_25 rfl fl_X7_25 (fun _ _ _ _ => rfl) (by assumption) sh_111 (Nat.le_of_ble_eq_true rfl) ?_
        refine s_getI 31 dX7_bestOfAll_28 rfl fl_X7_42 (fun _ _ _ _ => rfl) (isP_sh (by assumption)) (isP_lt (by assumption)) (fun r_28 => ?_)
        rw [e8]
        refine s_icmp_ge 117 34 dX7_bestOfAll_31 rfl rfl (by first | omega | exact bI_r _ | exact iI_r _) (by first | omega | exact bI_r _ | exact iI_r _) (fun h_31 => by exfalso; omega) (fun h_31 => ?_)
        refine s_iload_n 35 dX7_bestOfAll_34 rfl rfl ?_
        refine s_iconst 36 dX7_bestOfAll_35 rfl ?_
        refine s_icmp_le 117 39 dX7_bestOfAll_36 rfl rfl (by first | omega | exact bI_r _ | exact iI_r _) (by first | omega | exact bI_r _ | exact iI_r _) (fun h_36 => ?_) (fun h_36 => by exfalso; omega)
        exact fin I1 best _ v br _ _ h1 h2 h3 (by rw [hL]; exact allF_keeps (c :: B) A h4 (by omega) (fun x _ => by have := hfew x; omega)) h5
      · have hsc := hc.1
        have nxt : ∀ (I2 : MI) (bst v2 : Int) (br2 : F1) (w5 : Option AV), (∀ c, c ≠ 111 → (c < 113 ∨ 134 < c) → I2 c = I c) → TrW P r I2 → I2 111 3 = cut → AllF (r 5) (valF r (-1) (r 2) cut) (A ++ [c]) v2 br2 → ((v2 = -2 ∧ bst = 8) ∨ (1 ≤ v2 ∧ v2 ≤ 7 ∧ bst = v2 ∧ EnO (I2 111 5) br2 (r 5))) → ∀ w4, V X M_X7_bestOfAll z0 111 [some (vr (111)), some (vi (cut)), some (vi (bst)), some (vi ((A.length : Int))), w4, w5] [] (I2) L R (RT X M_X7_bestOfAll Q) := by
          intro I2 bst v2 br2 w5 g1 g2 g3 g4 g5 w4
          have st := ih (A ++ [c]) I2 bst v2 br2 w4 w5 (by rw [hL]; simp) g1 g2 g3 g4 g5
          rw [List.length_append, List.length_singleton, show ((A.length + 1 : Nat) : Int) = (A.length : Int) + 1 by omega] at st
          refine s_iinc (ls' := [_, _, _, _, _, _]) 114 dX7_bestOfAll_111 rfl rfl (Nat.le_of_ble_eq_true rfl) rfl rfl ?_
          refine s_goto 23 dX7_bestOfAll_114 rfl ?_
          exact st
        have inner : ∀ (f : Nat) (cur : Int) (I2 : MI), cur < (f : Int) → 1 ≤ cur → cur ≤ best → (∀ c, c ≠ 111 → (c < 113 ∨ 134 < c) → I2 c = I c) → TrW P r I2 → SetN I2 113 r (-1) (I1 (P + 35) (A.length : Int)) (r 2) (vL c) cut → I2 111 3 = cut → ((cur = best ∧ I2 111 5 = I1 111 5) ∨ (cur < best ∧ Spl (MayP r (-1) (r 2) (vL c) cut) cur.toNat (allF (r 4)) ∧ I2 111 5 = I1 (P + 35) (A.length : Int))) → V X M_X7_bestOfAll z0 72 [some (vr (111)), some (vi (cut)), some (vi (cur)), some (vi ((A.length : Int))), some (vi (I1 (P + 35) (A.length : Int))), some (vi (cur - 1))] [] (I2) L R (RT X M_X7_bestOfAll Q) := by
          intro f
          induction f with
          | zero => intro cur I2 a1 a2; omega
          | succ f ih2 =>
            intro cur I2 a1 a2 a3 a4 a5 a6 a7' a8
            -- the end, where one fewer doesn't do
            have stop : ¬ Spl (MayP r (-1) (r 2) (vL c) cut) (cur - 1).toNat (allF (r 4)) → ∀ (I3 : MI) (w5 : Option AV), (∀ c, c ≠ 111 → (c < 113 ∨ 134 < c) → I3 c = I c) → TrW P r I3 → I3 111 = I2 111 → ∀ w4, V X M_X7_bestOfAll z0 111 [some (vr (111)), some (vi (cut)), some (vi (cur)), some (vi ((A.length : Int))), w4, w5] [] (I3) L R (RT X M_X7_bestOfAll Q) := by
              intro hno I3 w5 g1 g2 g3 w4
              rcases a8 with ⟨z1, z2⟩ | ⟨z1, z2, z3⟩
              · refine nxt I3 cur v br w5 g1 g2 (by rw [g3]; exact a7') (h4.keep ?_) ?_ w4
                · rcases hspl c with y | ⟨y1, y2, y3⟩
                  · exact Or.inl y.1
                  · have ge : best ≤ valF r (-1) (r 2) cut c := by
                      apply Classical.byContradiction
                      intro y
                      exact hno (y2.le (by omega))
                    rcases h5 with w | w
                    · have := hfew c; omega
                    · exact Or.inr ⟨by omega, by omega⟩
                · rw [g3, z2, z1]; exact h5
              · have ev : valF r (-1) (r 2) cut c = cur := by
                  rcases hspl c with y | ⟨y1, y2, y3⟩
                  · exact absurd z2 (y.2 _)
                  · have g4 : valF r (-1) (r 2) cut c ≤ cur := by
                      apply Classical.byContradiction
                      intro y
                      exact y3 cur.toNat (by omega) z2
                    apply Classical.byContradiction
                    intro y
                    exact hno (y2.le (by omega))
                have hc9 := hfew c
                refine nxt I3 cur cur (vL c) w5 g1 g2 (by rw [g3]; exact a7') (h4.new ev (by omega) (by omega) (fun k _ _ => rfl)) (Or.inr ⟨a2, by omega, rfl, ?_⟩) w4
                rw [g3, z3]; exact eo
            by_cases hm0 : cur = 1
            · have hz : ¬ Spl (MayP r (-1) (r 2) (vL c) cut) (cur - 1).toNat (allF (r 4)) := by
                rw [show (cur - 1).toNat = 0 by omega]
                intro z
                have b : allF (r 4) = 0 := z
                have := (allF_has (n := r 4) (k := 0) ⟨by omega, by omega⟩ (by decide)).mpr (by omega)
                rw [b] at this
                exact has_0 (by decide) this
              refine s_iload 74 dX7_bestOfAll_72 rfl rfl ?_
              refine s_if_le 111 77 dX7_bestOfAll_74 rfl rfl (by first | omega | exact bI_r _ | exact iI_r _) (fun h_74 => ?_) (fun h_74 => by exfalso; omega)
              exact stop hz I2 _ a4 a5 rfl _
            · have hm3 : 0 ≤ cur - 1 ∧ cur - 1 ≤ 7 := by omega
              have hm4 : cur - 1 < ((8 : Nat) : Int) := by omega
              refine s_iload 74 dX7_bestOfAll_72 rfl rfl ?_
              refine s_if_le 111 77 dX7_bestOfAll_74 rfl rfl (by first | omega | exact bI_r _ | exact iI_r _) (fun h_74 => by exfalso; omega) (fun h_74 => ?_)
              refine s_aload_n 78 dX7_bestOfAll_77 rfl rfl ?_
              refine s_getR 81 dX7_bestOfAll_78 rfl fl_X7_34 (fun _ _ _ _ => rfl) (T_X7_trial hT) sh_111 (Nat.le_of_ble_eq_true rfl) ?_
              refine s_aload_n 82 dX7_bestOfAll_81 rfl rfl ?_
              refine s_getR 85 dX7_bestOfAll_82 rfl fl_X7_25 (fun _ _ _ _ => rfl) (by assumption) sh_111 (Nat.le_of_ble_eq_true rfl) ?_
              refine s_callV0 (M' := M_X5_allParts) (as := []) 88 dX7_bestOfAll_85 rfl cw_X7_57 rfl rfl (isP_sh (by assumption)) rfl (by decide) (isP_lt (by assumption)) (Nat.le_of_ble_eq_true rfl) (Nat.le_of_ble_eq_true rfl) (Nat.le_of_ble_eq_true rfl) ⟨rfl, rfl, rfl⟩ ?_
              refine c_X5_allParts hP a5.1 ?_
              refine s_iload 90 dX7_bestOfAll_88 rfl rfl ?_
              refine s_callSN0 (M' := (M_X3_splits 8)) (as := [_, _, _]) 93 dX7_bestOfAll_90 rfl cw_X7_61 rfl rfl (by first | exact Nat.le_of_ble_eq_true rfl | (simp only [mrk]; omega)) (Nat.le_of_ble_eq_true rfl) (Nat.le_of_ble_eq_true rfl) ⟨rfl, rfl, rfl⟩ ?_
              refine c_X3_splits3 8 hT isN_113 hP h13 hr hsc ⟨by omega, by omega⟩ (a6.gw a5.1) a7 hm3 hm4 (fun I3 k1 k2 => ?_)
              have n3 : NtF 113 I2 I3 := fun c hc => k1 c (by simp; omega)
              have f3 : ∀ c, c ≠ 111 → (c < 113 ∨ 134 < c) → I3 c = I c := fun c c1 c2 => by rw [n3 c (by omega)]; exact a4 c c1 c2
              have s3 := a6.of k1 k2
              have w3 : TrW P r I3 := ⟨k2.1, s3.nt eo hsc ⟨by omega, by omega⟩, a5.2.2.nt isN_113 hP n3⟩
              refine s_ifb_eq 111 96 dX7_bestOfAll_93 rfl rfl (fun h_93 => ?_) (fun h_93 => ?_)
              · skip
                exact stop h_93 I3 _ f3 w3 (k1 111 (by decide)) _
              refine s_iload 98 dX7_bestOfAll_96 rfl rfl ?_
              refine s_istore_n (ls' := [_, _, _, _, _, _]) 99 dX7_bestOfAll_98 rfl (Nat.le_of_ble_eq_true rfl) rfl rfl ?_
              refine s_aload_n 100 dX7_bestOfAll_99 rfl rfl ?_
              refine s_iload 102 dX7_bestOfAll_100 rfl rfl ?_
              refine s_putI 105 dX7_bestOfAll_102 rfl fl_X7_22 (fun _ => rfl) (fun _ => rfl) (fun _ _ _ _ => rfl) sh_111 (Nat.le_of_ble_eq_true rfl) (by have := eo.1; omega) ?_
              refine s_iinc (ls' := [_, _, _, _, _, _]) 108 dX7_bestOfAll_105 rfl rfl (Nat.le_of_ble_eq_true rfl) rfl rfl ?_
              refine s_goto 72 dX7_bestOfAll_108 rfl ?_
              rw [show cur - 1 + -1 = cur - 1 - 1 by omega]
              have w4 : TrW P r (up I3 111 5 (I1 (P + 35) (A.length : Int))) := trw w3 (fun c c1 => up_ne c1)
              refine ih2 (cur - 1) _ (by omega) (by omega) (by omega) (fun c c1 c2 => by rw [up_ne c1]; exact f3 c c1 c2) w4 ?_ ?_ (Or.inr ⟨by omega, h_93, ups⟩)
              · exact ⟨by rw [up_ne (by decide)]; exact s3.1, by rw [up_ne (by decide)]; exact s3.2.1, by rw [up_ne (by decide)]; exact s3.2.2.1, s3.2.2.2.1.c (by omega) (fun c hc => up_ne (by omega)), s3.2.2.2.2.c (up_ne (by decide)) (fun _ _ _ => Iff.rfl)⟩
              · rw [upn (by decide), k1 111 (by decide)]; exact a7'
        refine s_iload_n 24 dX7_bestOfAll_23 rfl rfl ?_
        refine s_aload_n 25 dX7_bestOfAll_24 rfl rfl ?_
        refine s_getR 28 dX7_bestOfAll_25 rfl fl_X7_25 (fun _ _ _ _ => rfl) (by assumption) sh_111 (Nat.le_of_ble_eq_true rfl) ?_
        refine s_getI 31 dX7_bestOfAll_28 rfl fl_X7_42 (fun _ _ _ _ => rfl) (isP_sh (by assumption)) (isP_lt (by assumption)) (fun r_28 => ?_)
        rw [e8]
        refine s_icmp_ge 117 34 dX7_bestOfAll_31 rfl rfl (by first | omega | exact bI_r _ | exact iI_r _) (by first | omega | exact bI_r _ | exact iI_r _) (fun h_31 => by exfalso; omega) (fun h_31 => ?_)
        refine s_iload_n 35 dX7_bestOfAll_34 rfl rfl ?_
        refine s_iconst 36 dX7_bestOfAll_35 rfl ?_
        refine s_icmp_le 117 39 dX7_bestOfAll_36 rfl rfl (by first | omega | exact bI_r _ | exact iI_r _) (by first | omega | exact bI_r _ | exact iI_r _) (fun h_36 => by exfalso; omega) (fun h_36 => ?_)
        refine s_aload_n 40 dX7_bestOfAll_39 rfl rfl ?_
        refine s_getR 43 dX7_bestOfAll_40 rfl fl_X7_25 (fun _ _ _ _ => rfl) (by assumption) sh_111 (Nat.le_of_ble_eq_true rfl) ?_
        refine s_getR 46 dX7_bestOfAll_43 rfl fl_X7_47 (fun _ _ _ _ => rfl) (T_X5_orderList hT (by assumption)) (isP_sh (by assumption)) (isP_lt (by assumption)) ?_
        refine s_iload_n 47 dX7_bestOfAll_46 rfl rfl ?_
        refine s_iald 48 dX7_bestOfAll_47 rfl (shP_orderList (by assumption)) (ltP_orderList (by assumption)) (by omega) (by omega) (fun r_47 => ?_)
        refine s_istore (ls' := [_, _, _, _, _, _]) 50 dX7_bestOfAll_48 rfl (Nat.le_of_ble_eq_true rfl) rfl rfl ?_
        refine s_aload_n 51 dX7_bestOfAll_50 rfl rfl ?_
        refine s_getR 54 dX7_bestOfAll_51 rfl fl_X7_34 (fun _ _ _ _ => rfl) (T_X7_trial hT) sh_111 (Nat.le_of_ble_eq_true rfl) ?_
        refine s_iload 56 dX7_bestOfAll_54 rfl rfl ?_
        refine s_aload_n 57 dX7_bestOfAll_56 rfl rfl ?_
        refine s_getR 60 dX7_bestOfAll_57 rfl fl_X7_25 (fun _ _ _ _ => rfl) (by assumption) sh_111 (Nat.le_of_ble_eq_true rfl) ?_
        refine s_getI 63 dX7_bestOfAll_60 rfl fl_X7_50 (fun _ _ _ _ => rfl) (isP_sh (by assumption)) (isP_lt (by assumption)) (fun r_60 => ?_)
        rw [show I1 P 1 = r 2 from h2.1.1.2.1]
        refine s_iload_n 64 dX7_bestOfAll_63 rfl rfl ?_
        refine s_callV0 (M' := M_X4_set) (as := [_, _, _]) 67 dX7_bestOfAll_64 rfl cw_X7_53 rfl rfl (isN_sh isN_113) rfl (by decide) (isN_lt isN_113) (Nat.le_of_ble_eq_true rfl) (Nat.le_of_ble_eq_true rfl) (Nat.le_of_ble_eq_true rfl) ⟨rfl, rfl, rfl⟩ ?_
        refine c_X4_set hT isN_113 hP h13 hr h2.1 h2.2.1 eo hsc ⟨by omega, by omega⟩ hcut (fun I2 g1 g2 g3 => ?_)
        refine s_iload_n 68 dX7_bestOfAll_67 rfl rfl ?_
        refine s_iconst 69 dX7_bestOfAll_68 rfl ?_
        refine s_isub 70 dX7_bestOfAll_69 rfl ?_
        refine s_istore (ls' := [_, _, _, _, _, _]) 72 dX7_bestOfAll_70 rfl (Nat.le_of_ble_eq_true rfl) rfl rfl ?_
        refine inner 9 best I2 (by omega) (by omega) (Int.le_refl _) (fun c c1 c2 => by rw [g1 c (by omega)]; exact h1 c c1 c2) ⟨h2.1.nt isN_113 hP (by omega) g1, g2.nt eo hsc ⟨by omega, by omega⟩, h2.2.2.nt isN_113 hP g1⟩ g2 (by rw [g1 111 (by omega)]; exact h3) (Or.inl ⟨rfl, by rw [g1 111 (by omega)]⟩)
  by_cases hs : I 111 3 = cut
  · rcases hB with z | ⟨c, z1, z2, z3, z4, z5⟩
    · omega
    · have ec : c = cut := by omega
      subst ec
      have hh := h I (fun _ _ _ => rfl) hW hs z4 z5
      refine s_aload_n 1 dX7_bestOfAll_0 rfl rfl ?_
      refine s_getI 4 dX7_bestOfAll_1 rfl fl_X7_15 (fun _ _ _ _ => rfl) sh_111 (Nat.le_of_ble_eq_true rfl) (fun r_1 => ?_)
      refine s_iload_n 5 dX7_bestOfAll_4 rfl rfl ?_
      refine s_icmp_ne 13 8 dX7_bestOfAll_5 rfl rfl (by first | omega | exact bI_r _ | exact iI_r _) (by first | omega | exact bI_r _ | exact iI_r _) (fun h_5 => by exfalso; omega) (fun h_5 => ?_)
      refine s_aload_n 9 dX7_bestOfAll_8 rfl rfl ?_
      refine s_getI 12 dX7_bestOfAll_9 rfl fl_X7_19 (fun _ _ _ _ => rfl) sh_111 (Nat.le_of_ble_eq_true rfl) (fun r_9 => ?_)
      rw [z4]
      refine s_iret dX7_bestOfAll_12 rfl rfl ?_
      exact hh
  · skip
    refine s_aload_n 1 dX7_bestOfAll_0 rfl rfl ?_
    refine s_getI 4 dX7_bestOfAll_1 rfl fl_X7_15 (fun _ _ _ _ => rfl) sh_111 (Nat.le_of_ble_eq_true rfl) (fun r_1 => ?_)
    refine s_iload_n 5 dX7_bestOfAll_4 rfl rfl ?_
    refine s_icmp_ne 13 8 dX7_bestOfAll_5 rfl rfl (by first | omega | exact bI_r _ | exact iI_r _) (by first | omega | exact bI_r _ | exact iI_r _) (fun h_5 => ?_) (fun h_5 => by exfalso; omega)
    refine s_aload_n 14 dX7_bestOfAll_13 rfl rfl ?_
    refine s_iload_n 15 dX7_bestOfAll_14 rfl rfl ?_
    refine s_putI 18 dX7_bestOfAll_15 rfl fl_X7_15 (fun _ => rfl) (fun _ => rfl) (fun _ _ _ _ => rfl) sh_111 (Nat.le_of_ble_eq_true rfl) (by first | omega | exact bI_r _ | exact iI_r _) ?_
    refine s_bipush 20 dX7_bestOfAll_18 rfl (by decide) ?_
    refine s_istore_n (ls' := [_, _, _, _, _, _]) 21 dX7_bestOfAll_20 rfl (Nat.le_of_ble_eq_true rfl) rfl rfl ?_
    refine s_iconst 22 dX7_bestOfAll_21 rfl ?_
    refine s_istore_n (ls' := [_, _, _, _, _, _]) 23 dX7_bestOfAll_22 rfl (Nat.le_of_ble_eq_true rfl) rfl rfl ?_
    exact loop (ordL r) [] _ 8 (-2) (fun _ => 0) _ _ rfl (fun c c1 c2 => up_ne c1) (trw hW (fun c c1 => up_ne c1)) ups (Or.inl ⟨rfl, fun l hl => by cases hl⟩) (Or.inl ⟨rfl, rfl⟩)
