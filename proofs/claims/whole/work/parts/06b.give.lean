/-! CASTING: who plays whom -/
theorem GW3.eq {N P : Nat} {r : F1} {rd g : Int} {sc : F1} {cut : Int} {I I' : MI} (hr : WFr r) (h : GW3 N P r rd g sc cut I) (e : ∀ c, ((P ≤ c ∧ c ≤ P + 34) ∨ (N ≤ c ∧ c ≤ N + 21)) → I' c = I c) : GW3 N P r rd g sc cut I' := by
  have e0 := hr.1
  exact ⟨h.1.c (by omega) (fun c a b => e c (Or.inl ⟨a, b⟩)), h.2.1.c (by omega) (fun c hc => e c (by omega)), h.2.2.c (e (N + 1) (by omega)) (fun _ _ _ => Iff.rfl)⟩
def fstF {α : Type} (f : Nat → Option α) : Nat → Option α
  | 0 => none
  | k + 1 => match fstF f k with
    | some x => some x
    | none => f k
theorem fstF_n {α : Type} {f : Nat → Option α} {k : Nat} (h : fstF f k = none) : fstF f (k + 1) = f k := by
  show (match fstF f k with
    | some x => some x
    | none => f k) = f k
  rw [h]
theorem fstF_s {α : Type} {f : Nat → Option α} {k : Nat} {x : α} (h : fstF f k = some x) : fstF f (k + 1) = some x := by
  show (match fstF f k with
    | some x => some x
    | none => f k) = some x
  rw [h]
theorem fstF_le {α : Type} {f : Nat → Option α} {k : Nat} {x : α} (h : fstF f k = some x) : ∀ d : Nat, fstF f (k + d) = some x
  | 0 => h
  | d + 1 => fstF_s (fstF_le h d)
def trN (used most : Int) : Nat := (if used + 1 < most then used + 1 else most).toNat
noncomputable def gvF (G : Int → Prop) (n : Nat) (most : Int) : Nat → List Int → Option (List Int)
  | 0, l => pick (GL G n (vL l)) (some l) none
  | m + 1, l => fstF (fun q : Nat => gvF G n most m (l ++ [(q : Int)])) (trN (plF (vL l) l.length) most)
set_option maxHeartbeats 4000000 in
theorem c_X1_allGood {E : ET} {I : MI} {L : ML} {R : MR} {Q : Option AV → MI → ML → MR → Prop} {P : Nat} {r sc v : F1} {rd g cut u : Int} {n : Nat} (hT : Topo R) (hP : isP P) (hNP : R 85 1 = some P) (hr : WFr r) (hsc : Perm (r 5) sc) (hg : 0 ≤ g ∧ g ≤ 99) (hW : GW3 85 P r rd g sc cut I) (hu : 0 ≤ u ∧ u ≤ 7) (hn : n ≤ 7) (hgr : ∀ q, 0 ≤ q → q < 7 → I 108 q = grF v n q) (h : ∀ I', Eqo [86] I I' → GW3 85 P r rd g sc cut I' → Q (some (vi (bI (∀ q, 0 ≤ q → q < u → MayP r rd g sc cut (grF v n q))))) I' L R) : CT E M_X1_allGood 161 yX1_allGood [(vr (107)), (vi (u))] I L R Q := by
  refine CT_of rfl rfl (fun h => by cases h) (Nat.le_of_ble_eq_true rfl) (fun X => ?_)
  show V X _ z0 0 [some (vr (107)), some (vi (u)), none] [] I L R _
  have loop : ∀ (f : Nat) (q : Int) (I1 : MI), u - q < (f : Int) → 0 ≤ q → q ≤ u → Eqo [86] I I1 → GW3 85 P r rd g sc cut I1 → (∀ p, 0 ≤ p → p < q → MayP r rd g sc cut (grF v n p)) → V X M_X1_allGood z0 2 [some (vr (107)), some (vi (u)), some (vi (q))] [] (I1) L R (RT X M_X1_allGood Q) := by
    intro f
    induction f with
    | zero => intro q I1 h1 h2 h3; omega
    | succ f ih =>
      intro q I1 h1 h2 h3 h4 hW1 h5
      by_cases hq : q < u
      · have eg : I1 108 q = grF v n q := by rw [h4 108 (by decide)]; exact hgr q h2 (by omega)
        have gb := grF_b (v := v) (n := (n : Int)) (q := q) ⟨by omega, by omega⟩
        have a7 := allF_7 (n := (n : Int)) ⟨by omega, by omega⟩
        refine s_iload_n 3 dX1_allGood_2 rfl rfl ?_
        refine s_iload_n 4 dX1_allGood_3 rfl rfl ?_
        refine s_icmp_ge 31 7 dX1_allGood_4 rfl rfl (by first | omega | exact bI_r _ | exact iI_r _) (by first | omega | exact bI_r _ | exact iI_r _) (fun h_4 => by exfalso; omega) (fun h_4 => ?_)
        refine s_aload_n 8 dX1_allGood_7 rfl rfl ?_
        refine s_getR 11 dX1_allGood_8 rfl fl_X1_36 (fun _ _ _ _ => rfl) (T_X1_night hT) sh_107 (Nat.le_of_ble_eq_true rfl) ?_
        refine s_aload_n 12 dX1_allGood_11 rfl rfl ?_
        refine s_getR 15 dX1_allGood_12 rfl fl_X1_11 (fun _ _ _ _ => rfl) (T_X1_groups hT) sh_107 (Nat.le_of_ble_eq_true rfl) ?_
        refine s_iload_n 16 dX1_allGood_15 rfl rfl ?_
        refine s_iald 17 dX1_allGood_16 rfl sh_108 (Nat.le_of_ble_eq_true rfl) (by omega) (by omega) (fun r_16 => ?_)
        rw [eg]
        refine s_callU0 (M' := M_X3_good) (as := [_]) 20 dX1_allGood_17 rfl cw_X1_76_3 rfl rfl (isN_sh isN_85) rfl (by decide) (isN_lt isN_85) (Nat.le_of_ble_eq_true rfl) (Nat.le_of_ble_eq_true rfl) (Nat.le_of_ble_eq_true rfl) ⟨rfl, rfl, rfl⟩ ?_
        refine c_X3_good3 hT isN_85 hP hNP hr hsc hg hW1 ⟨by omega, by omega⟩ (fun I2 g1 g2 => ?_)
        refine s_ifb_ne 25 23 dX1_allGood_20 rfl rfl (fun h_20 => ?_) (fun h_20 => ?_)
        · skip
          refine s_iinc (ls' := [_, _, _]) 28 dX1_allGood_25 rfl rfl (Nat.le_of_ble_eq_true rfl) rfl rfl ?_
          refine s_goto 2 dX1_allGood_28 rfl ?_
          refine ih (q + 1) I2 (by omega) (by omega) (by omega) (h4.tr g1) g2 (fun p p1 p2 => ?_)
          by_cases e : p = q
          · rw [e]; exact h_20.2
          · exact h5 p p1 (by omega)
        refine s_iconst 24 dX1_allGood_23 rfl ?_
        refine s_zret dX1_allGood_24 rfl (by first | omega | exact bI_b _) rfl ?_
        exact ret_f (fun z => h_20 ⟨⟨by omega, by omega⟩, z q h2 hq⟩) (h I2 (h4.tr g1) g2)
      · have eq : q = u := by omega
        subst eq
        refine s_iload_n 3 dX1_allGood_2 rfl rfl ?_
        refine s_iload_n 4 dX1_allGood_3 rfl rfl ?_
        refine s_icmp_ge 31 7 dX1_allGood_4 rfl rfl (by first | omega | exact bI_r _ | exact iI_r _) (by first | omega | exact bI_r _ | exact iI_r _) (fun h_4 => ?_) (fun h_4 => by exfalso; omega)
        refine s_iconst 32 dX1_allGood_31 rfl ?_
        refine s_zret dX1_allGood_32 rfl (by first | omega | exact bI_b _) rfl ?_
        exact ret_t h5 (h I1 h4 hW1)
  refine s_iconst 1 dX1_allGood_0 rfl ?_
  refine s_istore_n (ls' := [_, _, _]) 2 dX1_allGood_1 rfl (Nat.le_of_ble_eq_true rfl) rfl rfl ?_
  exact loop 9 0 I (by omega) (by omega) (by omega) Eqo.rf hW (fun p p1 p2 => by omega)
theorem plF_ap {l : List Int} {x : Int} : plF (vL (l ++ [x])) (l.length + 1) = if plF (vL l) l.length < x + 1 then x + 1 else plF (vL l) l.length := by
  have e : plF (vL (l ++ [x])) l.length = plF (vL l) l.length := plF_c (fun k a b => vL_ap ⟨a, b⟩)
  show (if vL (l ++ [x]) (l.length : Int) + 1 > plF (vL (l ++ [x])) l.length then vL (l ++ [x]) (l.length : Int) + 1 else plF (vL (l ++ [x])) l.length) = _
  rw [e, vL_at]
theorem grF_ap {l : List Int} {x q : Int} : grF (vL (l ++ [x])) ((l.length : Int) + 1) q = if q = x then ior (grF (vL l) l.length q) (ishl 1 l.length) else grF (vL l) l.length q := by
  have e0 : setOf (fun p => vL (l ++ [x]) p = q) ((l.length : Nat) : Int).toNat = setOf (fun p => vL l p = q) ((l.length : Nat) : Int).toNat := setOf_c (fun k a b => by rw [vL_ap ⟨a, by omega⟩])
  unfold grF
  by_cases e : q = x
  · rw [if_pos e, ← setOf_t (P := fun p => vL (l ++ [x]) p = q) (k := (l.length : Int)) (by omega) (by rw [vL_at]; exact e.symm), e0]
  · rw [if_neg e, setOf_n (P := fun p => vL (l ++ [x]) p = q) (k := (l.length : Int)) (by omega) (by rw [vL_at]; exact fun z => e z.symm), e0]
set_option maxHeartbeats 4000000 in
theorem c_X1_gives (d : Nat) : ∀ {E : ET} {I : MI} {L : ML} {R : MR} {Q : Option AV → MI → ML → MR → Prop} {P : Nat} {r sc : F1} {rd g cut most : Int} {l : List Int} (hT : Topo R) (hP : isP P) (hNP : R 85 1 = some P) (hr : WFr r) (hsc : Perm (r 5) sc) (hg : 0 ≤ g ∧ g ≤ 99) (hW : GW3 85 P r rd g sc cut I) (hl : (l.length : Int) ≤ r 4) (hl6 : ∀ j, 0 ≤ j → j < (l.length : Int) → 0 ≤ vL l j ∧ vL l j ≤ 6) (hv : ∀ j, 0 ≤ j → j < (l.length : Int) → I 109 j = vL l j) (hgr : ∀ q, 0 ≤ q → q < 7 → I 108 q = grF (vL l) l.length q) (hmo : 0 ≤ most ∧ most ≤ 7) (hd : r 4 - l.length < (d : Int)) (h : ∀ I', Eqo [86, 108, 109] I I' → GW3 85 P r rd g sc cut I' → ((∀ l', gvF (MayP r rd g sc cut) (r 4).toNat most (r 4 - l.length).toNat l = some l' → (∀ j, 0 ≤ j → j < r 4 → I' 109 j = vL l' j) → Q (some (vi 1)) I' L R) ∧ (gvF (MayP r rd g sc cut) (r 4).toNat most (r 4 - l.length).toNat l = none → (∀ q, 0 ≤ q → q < 7 → I' 108 q = grF (vL l) l.length q) → (∀ j, 0 ≤ j → j < (l.length : Int) → I' 109 j = vL l j) → Q (some (vi 0)) I' L R))), CT E (M_X1_gives d) 161 yX1_gives [(vr (107)), (vi ((l.length : Int))), (vi (plF (vL l) l.length)), (vi (most))] I L R Q := by
  induction d with
  | zero => intros; exfalso; omega
  | succ d ih =>
  intro E I L R Q P r sc rd g cut most l hT hP hNP hr hsc hg hW hl hl6 hv hgr hmo hd h
  refine CT_of rfl rfl (fun h => by cases h) (Nat.le_of_ble_eq_true rfl) (fun X => ?_)
  show V X _ z0 0 [some (vr (107)), some (vi ((l.length : Int))), some (vi (plF (vL l) l.length)), some (vi (most)), none] [] I L R _
  have e0 := hr.1
  have hp : P = 3 ∨ P = 39 := hP
  have pb := plF_b hl6 l.length (by omega)
  by_cases hi : (l.length : Int) < r 4
  · obtain ⟨m, hm⟩ : ∃ m : Nat, (r 4 - l.length).toNat = m + 1 := ⟨(r 4 - l.length).toNat - 1, by omega⟩
    rw [hm] at h
    have hK : ∀ q : Int, 0 ≤ q → (q ≤ plF (vL l) l.length ∧ q < most ↔ q.toNat < trN (plF (vL l) l.length) most) := fun q q0 => by
      unfold trN
      split <;> omega
    have loop : ∀ (f : Nat) (p : Int) (I1 : MI), 8 - p < (f : Int) → 0 ≤ p → (p.toNat ≤ trN (plF (vL l) l.length) most) → Eqo [86, 108, 109] I I1 → GW3 85 P r rd g sc cut I1 → (∀ q, 0 ≤ q → q < 7 → I1 108 q = grF (vL l) l.length q) → (∀ j, 0 ≤ j → j < (l.length : Int) → I1 109 j = vL l j) → fstF (fun q : Nat => gvF (MayP r rd g sc cut) (r 4).toNat most m (l ++ [(q : Int)])) p.toNat = none → V X (M_X1_gives (d + 1)) z0 20 [some (vr 107), some (vi (l.length : Int)), some (vi (plF (vL l) l.length)), some (vi most), some (vi p)] [] I1 L R (RT X (M_X1_gives (d + 1)) Q) := by
      intro f
      induction f with
      | zero =>
        intro p I1 h1 h2 h3
        exfalso
        unfold trN at h3
        split at h3 <;> omega
      | succ f ih2 =>
        intro p I1 h1 h2 h3 h4 hW1 hg1 hv1 hf
        have p8 : p ≤ 8 := by
          have h3' := h3
          unfold trN at h3'
          split at h3' <;> omega
        by_cases hp9 : p ≤ plF (vL l) l.length ∧ p < most
        · have hlt := (hK p h2).mp hp9
          have ep : ((p.toNat : Nat) : Int) = p := by omega
          have eg := hg1 p h2 (by omega)
          obtain ⟨I2, e2⟩ : ∃ I2, I2 = up (up I1 108 p (ior (grF (vL l) l.length p) (ishl 1 (l.length : Int)))) 109 (l.length : Int) p := ⟨_, rfl⟩
          have o2 : ∀ c, c ≠ 108 → c ≠ 109 → I2 c = I1 c := fun c c1 c2 => by rw [e2, up_ne c2, up_ne c1]
          have q2 : Eqo [86, 108, 109] I I2 := by rw [e2]; exact (h4.st (by simp)).st (by simp)
          have W2 : GW3 85 P r rd g sc cut I2 := hW1.eq hr (fun c hc => o2 c (by omega) (by omega))
          have l2 : ((l ++ [p]).length : Int) = l.length + 1 := by rw [List.length_append, List.length_singleton]; omega
          have v2 : ∀ j, 0 ≤ j → j < ((l ++ [p]).length : Int) → I2 109 j = vL (l ++ [p]) j := fun j j1 j2 => by
            rw [e2, upd9]
            by_cases ej : j = (l.length : Int)
            · rw [if_pos ej, ej, vL_at]
            · rw [if_neg ej, up_ne (by decide), vL_ap ⟨j1, by omega⟩]
              exact hv1 j j1 (by omega)
          have g2 : ∀ q, 0 ≤ q → q < 7 → I2 108 q = grF (vL (l ++ [p])) ((l ++ [p]).length : Int) q := fun q a b => by
            rw [e2, up_ne (by decide), upd9, l2, grF_ap]
            by_cases eq : q = p
            · rw [if_pos eq, if_pos eq, eq]
            · rw [if_neg eq, if_neg eq]; exact hg1 q a b
          have s2 : ∀ j, 0 ≤ j → j < ((l ++ [p]).length : Int) → 0 ≤ vL (l ++ [p]) j ∧ vL (l ++ [p]) j ≤ 6 := fun j j1 j2 => by
            by_cases ej : j = (l.length : Int)
            · rw [ej, vL_at]; omega
            · rw [vL_ap ⟨j1, by omega⟩]; exact hl6 j j1 (by omega)
          have pl2 : plF (vL (l ++ [p])) (l ++ [p]).length = if plF (vL l) l.length < p + 1 then p + 1 else plF (vL l) l.length := by
            rw [List.length_append, List.length_singleton]; exact plF_ap
          have fu : (r 4 - ((l ++ [p]).length : Int)).toNat = m := by omega
          have sub : ∀ Q' : QT, (∀ I3, Eqo [86, 108, 109] I2 I3 → GW3 85 P r rd g sc cut I3 → ((∀ l', gvF (MayP r rd g sc cut) (r 4).toNat most m (l ++ [p]) = some l' → (∀ j, 0 ≤ j → j < r 4 → I3 109 j = vL l' j) → Q' (some (vi 1)) I3 L R) ∧ (gvF (MayP r rd g sc cut) (r 4).toNat most m (l ++ [p]) = none → (∀ q, 0 ≤ q → q < 7 → I3 108 q = grF (vL (l ++ [p])) ((l.length : Int) + 1) q) → (∀ j, 0 ≤ j → j < (l.length : Int) + 1 → I3 109 j = vL (l ++ [p]) j) → Q' (some (vi 0)) I3 L R))) → CT (xE X) (M_X1_gives d) 161 yX1_gives [vr 107, vi ((l.length : Int) + 1), vi (if plF (vL l) l.length < p + 1 then p + 1 else plF (vL l) l.length), vi most] I2 L R Q' := by
            intro Q' hQ
            have c := ih (E := xE X) (Q := Q') (l := l ++ [p]) hT hP hNP hr hsc hg W2 (by omega) s2 v2 g2 hmo (by omega) (by rw [fu, l2]; exact hQ)
            rw [pl2, l2] at c
            exact c
          have nb : ¬ hasI (grF (vL l) l.length p) (l.length : Int) := fun z => by
            unfold grF at z
            have := ((has_setOf (by omega) ⟨by omega, by omega⟩).mp z).1
            omega
          have bx : ixor (ior (grF (vL l) l.length p) (ishl 1 (l.length : Int))) (ishl 1 (l.length : Int)) = grF (vL l) l.length p := by
            have gr := grF_b (v := vL l) (n := (l.length : Int)) (q := p) ⟨by omega, by omega⟩
            have a7 := allF_7 (n := (l.length : Int)) ⟨by omega, by omega⟩
            refine set_ext (iI_r _) (by omega) (fun k k1 k2 => ?_)
            rw [has_xor ⟨k1, k2⟩, has_or ⟨k1, k2⟩, has_shl (by omega) ⟨k1, k2⟩]
            by_cases ek : k = (l.length : Int)
            · subst ek; exact ⟨fun z => absurd ⟨fun _ => rfl, fun _ => Or.inr rfl⟩ z, fun z => absurd z nb⟩
            · exact ⟨fun z => Classical.byContradiction (fun y => z ⟨fun w => w.elim (fun u => absurd u y) id, fun w => absurd w ek⟩), fun z y => ek (y.mp (Or.inl z))⟩
          refine (show V X (M_X1_gives (d + 1)) z0 20 [some (vr 107), some (vi (l.length : Int)), some (vi (plF (vL l) l.length)), some (vi most), some (vi p)] [] I1 L R (RT X (M_X1_gives (d + 1)) Q) from ?_)
          refine s_iload 22 dX1_gives_20 rfl rfl ?_
          refine s_iload_n 23 dX1_gives_22 rfl rfl ?_
          refine s_icmp_gt 100 26 dX1_gives_23 rfl rfl (by first | omega | exact bI_r _ | exact iI_r _) (by first | omega | exact bI_r _ | exact iI_r _) (fun h_23 => by exfalso; omega) (fun h_23 => ?_)
          refine s_iload 28 dX1_gives_26 rfl rfl ?_
          refine s_iload_n 29 dX1_gives_28 rfl rfl ?_
          refine s_icmp_ge 100 32 dX1_gives_29 rfl rfl (by first | omega | exact bI_r _ | exact iI_r _) (by first | omega | exact bI_r _ | exact iI_r _) (fun h_29 => by exfalso; omega) (fun h_29 => ?_)
          refine s_iload 34 dX1_gives_32 rfl rfl ?_
          refine s_bipush 36 dX1_gives_34 rfl (by decide) ?_
          refine s_icmp_ge 100 39 dX1_gives_36 rfl rfl (by first | omega | exact bI_r _ | exact iI_r _) (by first | omega | exact bI_r _ | exact iI_r _) (fun h_36 => by exfalso; omega) (fun h_36 => ?_)
          refine s_aload_n 40 dX1_gives_39 rfl rfl ?_
          refine s_getR 43 dX1_gives_40 rfl fl_X1_11 (fun _ _ _ _ => rfl) (T_X1_groups hT) sh_107 (Nat.le_of_ble_eq_true rfl) ?_
          refine s_iload 45 dX1_gives_43 rfl rfl ?_
          refine s_dup2 46 dX1_gives_45 rfl rfl rfl ?_
          refine s_iald 47 dX1_gives_46 rfl sh_108 (Nat.le_of_ble_eq_true rfl) (by omega) (by omega) (fun r_46 => ?_)
          refine s_iconst 48 dX1_gives_47 rfl ?_
          refine s_iload_n 49 dX1_gives_48 rfl rfl ?_
          refine s_ishl 50 dX1_gives_49 rfl ?_
          rw [eg]
          refine s_ior 51 dX1_gives_50 rfl ?_
          refine s_iast 52 dX1_gives_51 rfl sh_108 (Nat.le_of_ble_eq_true rfl) (by omega) (by omega) (ior_r _ _) ?_
          refine s_aload_n 53 dX1_gives_52 rfl rfl ?_
          refine s_getR 56 dX1_gives_53 rfl fl_X1_15 (fun _ _ _ _ => rfl) (T_X1_players hT) sh_107 (Nat.le_of_ble_eq_true rfl) ?_
          refine s_iload_n 57 dX1_gives_56 rfl rfl ?_
          refine s_iload 59 dX1_gives_57 rfl rfl ?_
          refine s_iast 60 dX1_gives_59 rfl sh_109 (Nat.le_of_ble_eq_true rfl) (by omega) (by omega) (by first | omega | exact bI_r _ | exact iI_r _) ?_
          rw [← e2]
          skip
          refine (show V X (M_X1_gives (d + 1)) z0 60 [some (vr 107), some (vi (l.length : Int)), some (vi (plF (vL l) l.length)), some (vi most), some (vi p)] [] I2 L R (RT X (M_X1_gives (d + 1)) Q) from ?_)
          refine s_aload_n 61 dX1_gives_60 rfl rfl ?_
          refine s_iload_n 62 dX1_gives_61 rfl rfl ?_
          refine s_iconst 63 dX1_gives_62 rfl ?_
          refine s_iadd 64 dX1_gives_63 rfl ?_
          refine s_iload_n 65 dX1_gives_64 rfl rfl ?_
          refine s_iload 67 dX1_gives_65 rfl rfl ?_
          refine s_iconst 68 dX1_gives_67 rfl ?_
          refine s_iadd 69 dX1_gives_68 rfl ?_
          refine s_mmax 72 dX1_gives_69 rfl w_m_X1_70 (by first | exact Nat.le_of_ble_eq_true rfl | (simp only [mrk]; omega)) (Nat.le_of_ble_eq_true rfl) (by first | omega | exact bI_r _ | exact iI_r _) (by first | omega | exact bI_r _ | exact iI_r _) ?_
          refine s_iload_n 73 dX1_gives_72 rfl rfl ?_
          refine s_callV0 (M' := (M_X1_gives d)) (as := [_, _, _]) 76 dX1_gives_73 rfl cw_X1_59 rfl rfl sh_107 rfl (by decide) (Nat.le_of_ble_eq_true rfl) (by first | exact Nat.le_of_ble_eq_true rfl | (simp only [mrk]; omega)) (Nat.le_of_ble_eq_true rfl) (Nat.le_of_ble_eq_true rfl) ⟨rfl, rfl, rfl⟩ ?_
          refine sub _ (fun I3 k1 k2 => ⟨fun l' k3 k4 => ?_, fun k3 k4 k5 => ?_⟩)
          · refine s_if_eq 81 79 dX1_gives_76 rfl rfl (by omega) (fun h_76 => by exfalso; omega) (fun h_76 => ?_)
            refine s_iconst 80 dX1_gives_79 rfl ?_
            refine s_zret dX1_gives_80 rfl (by omega) rfl ?_
            refine (h I3 (q2.tr k1) k2).1 l' ?_ k4
            have e3 := fstF_n hf
            rw [ep, k3] at e3
            have e4 := fstF_le e3 (trN (plF (vL l) l.length) most - (p.toNat + 1))
            rw [show p.toNat + 1 + (trN (plF (vL l) l.length) most - (p.toNat + 1)) = trN (plF (vL l) l.length) most by omega] at e4
            exact e4
          refine s_if_eq 81 79 dX1_gives_76 rfl rfl (by first | omega | exact bI_r _ | exact iI_r _) (fun h_76 => ?_) (fun h_76 => by exfalso; omega)
          refine s_aload_n 82 dX1_gives_81 rfl rfl ?_
          refine s_getR 85 dX1_gives_82 rfl fl_X1_11 (fun _ _ _ _ => rfl) (T_X1_groups hT) sh_107 (Nat.le_of_ble_eq_true rfl) ?_
          refine s_iload 87 dX1_gives_85 rfl rfl ?_
          refine s_dup2 88 dX1_gives_87 rfl rfl rfl ?_
          refine s_iald 89 dX1_gives_88 rfl sh_108 (Nat.le_of_ble_eq_true rfl) (by omega) (by omega) (fun r_88 => ?_)
          rw [k4 p h2 (by omega), grF_ap, if_pos rfl]
          refine s_iconst 90 dX1_gives_89 rfl ?_
          refine s_iload_n 91 dX1_gives_90 rfl rfl ?_
          refine s_ishl 92 dX1_gives_91 rfl ?_
          refine s_ixor 93 dX1_gives_92 rfl ?_
          refine s_iast 94 dX1_gives_93 rfl sh_108 (Nat.le_of_ble_eq_true rfl) (by omega) (by omega) (iI_r _) ?_
          refine s_iinc (ls' := [_, _, _, _, _]) 97 dX1_gives_94 rfl rfl (Nat.le_of_ble_eq_true rfl) rfl rfl ?_
          refine s_goto 20 dX1_gives_97 rfl ?_
          rw [bx]
          refine ih2 (p + 1) _ (by omega) (by omega) (by omega) ((q2.tr k1).st (by simp)) (k2.eq hr (fun c hc => up_ne (by omega))) (fun q a b => ?_) (fun j j1 j2 => ?_) ?_
          · rw [upd9]
            by_cases eq : q = p
            · rw [if_pos eq, eq]
            · rw [if_neg eq, k4 q a b, grF_ap, if_neg eq]
          · rw [up_ne (by decide), k5 j j1 (by omega), vL_ap ⟨j1, j2⟩]
          · rw [show (p + 1).toNat = p.toNat + 1 by omega, fstF_n hf, ep]; exact k3
        · have ek : p.toNat = trN (plF (vL l) l.length) most := by
            have := hK p h2
            by_cases z : p.toNat < trN (plF (vL l) l.length) most
            · exact absurd (this.mpr z) hp9
            · omega
          have fin := (h I1 h4 hW1).2 (by rw [ek] at hf; exact hf) hg1 hv1
          by_cases z1 : p ≤ plF (vL l) l.length
          · skip
            refine s_iload 22 dX1_gives_20 rfl rfl ?_
            refine s_iload_n 23 dX1_gives_22 rfl rfl ?_
            refine s_icmp_gt 100 26 dX1_gives_23 rfl rfl (by first | omega | exact bI_r _ | exact iI_r _) (by first | omega | exact bI_r _ | exact iI_r _) (fun h_23 => by exfalso; omega) (fun h_23 => ?_)
            refine s_iload 28 dX1_gives_26 rfl rfl ?_
            refine s_iload_n 29 dX1_gives_28 rfl rfl ?_
            refine s_icmp_ge 100 32 dX1_gives_29 rfl rfl (by first | omega | exact bI_r _ | exact iI_r _) (by first | omega | exact bI_r _ | exact iI_r _) (fun h_29 => ?_) (fun h_29 => by exfalso; omega)
            refine s_iconst 101 dX1_gives_100 rfl ?_
            refine s_zret dX1_gives_101 rfl (by first | omega | exact bI_b _) rfl ?_
            exact fin
          · skip
            refine s_iload 22 dX1_gives_20 rfl rfl ?_
            refine s_iload_n 23 dX1_gives_22 rfl rfl ?_
            refine s_icmp_gt 100 26 dX1_gives_23 rfl rfl (by first | omega | exact bI_r _ | exact iI_r _) (by first | omega | exact bI_r _ | exact iI_r _) (fun h_23 => ?_) (fun h_23 => by exfalso; omega)
            refine s_iconst 101 dX1_gives_100 rfl ?_
            refine s_zret dX1_gives_101 rfl (by first | omega | exact bI_b _) rfl ?_
            exact fin
    refine s_iload_n 1 dX1_gives_0 rfl rfl ?_
    refine s_aload_n 2 dX1_gives_1 rfl rfl ?_
    refine s_getR 5 dX1_gives_2 rfl fl_X1_36 (fun _ _ _ _ => rfl) (T_X1_night hT) sh_107 (Nat.le_of_ble_eq_true rfl) ?_
    refine s_callV0 (M' := M_X4_partCount) (as := []) 8 dX1_gives_5 rfl cw_X1_63 rfl rfl (isN_sh isN_85) rfl (by decide) (isN_lt isN_85) (by first | exact Nat.le_of_ble_eq_true rfl | (simp only [mrk]; omega)) (Nat.le_of_ble_eq_true rfl) (Nat.le_of_ble_eq_true rfl) ⟨rfl, rfl, rfl⟩ ?_
    refine c_X4_partCount hT isN_85 hP hNP hW.1 ?_
    refine s_icmp_lt 17 11 dX1_gives_8 rfl rfl (by first | omega | exact bI_r _ | exact iI_r _) (by first | omega | exact bI_r _ | exact iI_r _) (fun h_8 => ?_) (fun h_8 => by exfalso; omega)
    refine s_iconst 18 dX1_gives_17 rfl ?_
    refine s_istore (ls' := [_, _, _, _, _]) 20 dX1_gives_18 rfl (Nat.le_of_ble_eq_true rfl) rfl rfl ?_
    exact loop 9 0 I (by omega) (by omega) (by omega) Eqo.rf hW hgr hv rfl
  · have el : (l.length : Int) = r 4 := by omega
    have hm : (r 4 - l.length).toNat = 0 := by omega
    have en : l.length = (r 4).toNat := by omega
    rw [hm] at h
    have hGL : (∀ q, 0 ≤ q → q < plF (vL l) l.length → MayP r rd g sc cut (grF (vL l) l.length q)) ↔ GL (MayP r rd g sc cut) (r 4).toNat (vL l) := by
      unfold GL
      rw [← en]
    have eg : gvF (MayP r rd g sc cut) (r 4).toNat most 0 l = pick (GL (MayP r rd g sc cut) (r 4).toNat (vL l)) (some l) none := rfl
    refine s_iload_n 1 dX1_gives_0 rfl rfl ?_
    refine s_aload_n 2 dX1_gives_1 rfl rfl ?_
    refine s_getR 5 dX1_gives_2 rfl fl_X1_36 (fun _ _ _ _ => rfl) (T_X1_night hT) sh_107 (Nat.le_of_ble_eq_true rfl) ?_
    refine s_callV0 (M' := M_X4_partCount) (as := []) 8 dX1_gives_5 rfl cw_X1_63 rfl rfl (isN_sh isN_85) rfl (by decide) (isN_lt isN_85) (by first | exact Nat.le_of_ble_eq_true rfl | (simp only [mrk]; omega)) (Nat.le_of_ble_eq_true rfl) (Nat.le_of_ble_eq_true rfl) ⟨rfl, rfl, rfl⟩ ?_
    refine c_X4_partCount hT isN_85 hP hNP hW.1 ?_
    refine s_icmp_lt 17 11 dX1_gives_8 rfl rfl (by first | omega | exact bI_r _ | exact iI_r _) (by first | omega | exact bI_r _ | exact iI_r _) (fun h_8 => by exfalso; omega) (fun h_8 => ?_)
    refine s_aload_n 12 dX1_gives_11 rfl rfl ?_
    refine s_iload_n 13 dX1_gives_12 rfl rfl ?_
    refine s_callV0 (M' := M_X1_allGood) (as := [_]) 16 dX1_gives_13 rfl cw_X1_66 rfl rfl sh_107 rfl (by decide) (Nat.le_of_ble_eq_true rfl) (by first | exact Nat.le_of_ble_eq_true rfl | (simp only [mrk]; omega)) (Nat.le_of_ble_eq_true rfl) (Nat.le_of_ble_eq_true rfl) ⟨rfl, rfl, rfl⟩ ?_
    refine c_X1_allGood (v := vL l) (n := l.length) hT hP hNP hr hsc hg hW pb (by omega) hgr (fun I2 g1 g2 => ?_)
    have q2 : Eqo [86, 108, 109] I I2 := g1.mo (by simp)
    have v2 : ∀ j, 0 ≤ j → j < (l.length : Int) → I2 109 j = vL l j := fun j j1 j2 => by rw [g1 109 (by decide)]; exact hv j j1 j2
    refine s_zret dX1_gives_16 rfl (by first | omega | exact bI_b _) rfl ?_
    by_cases z : GL (MayP r rd g sc cut) (r 4).toNat (vL l)
    · rw [bI_t (hGL.mpr z)]
      exact (h I2 q2 g2).1 l (by rw [eg]; exact pick_t z) (fun j j1 j2 => v2 j j1 (by omega))
    · rw [bI_f (fun y => z (hGL.mp y))]
      exact (h I2 q2 g2).2 (by rw [eg]; exact pick_f z) (fun q a b => by rw [g1 108 (by decide)]; exact hgr q a b) v2
