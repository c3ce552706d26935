/-! SEARCH: fewestSwaps -/
theorem TrW.eq {P : Nat} {r : F1} {I I' : MI} (hP : isP P) (hr : WFr r) (h : TrW P r I) (e : ∀ c, (c < 111 ∨ (113 ≤ c ∧ c ≤ 134)) → I' c = I c) : TrW P r I' := by
  have hp : P = 3 ∨ P = 39 := hP
  have ep : ∀ c, P ≤ c → c ≤ P + 35 → I' c = I c := fun c a b => e c (by omega)
  have e0 := hr.1
  obtain ⟨w1, ⟨n1, n2⟩, w3⟩ := h
  refine ⟨w1.c (by omega) (fun c a b => ep c a (Nat.le_succ_of_le b)), ⟨fun a b a1 a2 b1 b2 => by rw [e (113 + 3 + a.toNat) (by omega)]; exact n1 a b a1 a2 b1 b2, ?_⟩, w3.c (ep P (Nat.le_refl _) (Nat.le_add_right _ _)) (ep (P + 35) (Nat.le_add_right _ _) (Nat.le_refl _))⟩
  rw [e 113 (by decide)]
  rcases n2 with z | ⟨o, g, sc, ct, z1, z2, z3, z4⟩
  · exact Or.inl z
  · exact Or.inr ⟨o, g, sc, ct, z1, z2, z3, by rw [e 113 (by decide)]; exact z4.1, by rw [e 113 (by decide)]; exact z4.2.1, by rw [e 113 (by decide)]; exact z4.2.2.1, z4.2.2.2.1.c (by omega) (fun c hc => e c (by omega)), z4.2.2.2.2.c (e (113 + 1) (by decide)) (fun _ _ _ => Iff.rfl)⟩
set_option maxHeartbeats 4000000 in
theorem c_X7_fewestSwaps {E : ET} {I : MI} {L : ML} {R : MR} {Q : Option AV → MI → ML → MR → Prop} {P : Nat} {r : F1} {a : List Int} {o cut : Int} (hT : Topo R) (hP : isP P) (h7 : R 111 0 = some P) (h13 : R 113 1 = some P) (hr : WFr r) (hW : TrW P r I) (ha : a ∈ ordL r) (ho : EnO o (vL a) (r 5)) (hcut : 0 ≤ cut ∧ cut < 16384) (h : ∀ I', (∀ c, c ≠ 112 → (c < 113 ∨ 134 < c) → I' c = I c) → TrW P r I' → Q (some (vi (swF r (fun l => TP r (-1) (r 2) (vL l) cut) a))) I' L R) : CT E M_X7_fewestSwaps 161 yX7_fewestSwaps [(vr (111)), (vi (o)), (vi (cut))] I L R Q := by
  refine CT_of rfl rfl (fun h => by cases h) (Nat.le_of_ble_eq_true rfl) (fun X => ?_)
  show V X _ z0 0 [some (vr (111)), some (vi (o)), some (vi (cut)), none, none] [] I L R _
  have e0 := hr.1
  have hl := ordL_len (r := r) ⟨by omega, by omega⟩
  have hp : P = 3 ∨ P = 39 := hP
  have ho1 := ho.1
  obtain ⟨T, eT⟩ : ∃ T : List Int → Prop, T = fun l => TP r (-1) (r 2) (vL l) cut := ⟨_, rfl⟩
  rw [← eT] at h
  have tT : ∀ l, T l ↔ TP r (-1) (r 2) (vL l) cut := fun l => by rw [eT]
  -- level after level
  have loop2 : ∀ (f : Nat) (d : Int) (I1 : MI) (w4 : Option AV), 121 - d < (f : Int) → 0 ≤ d → d ≤ 120 → (∀ c, c ≠ 112 → (c < 113 ∨ 134 < c) → I1 c = I c) → TrW P r I1 → StI (I1 112) r a d → (∀ e : Nat, (e : Int) < d → ∀ b, Rc r a e b → ¬ T b) → (∀ e : Int, 0 ≤ e → e ≤ d → ∃ i, 0 ≤ i ∧ i < ((ordL r).length : Int) ∧ I1 112 i = e) → V X M_X7_fewestSwaps z0 45 [some (vr (111)), some (vi (o)), some (vi (cut)), some (vi (d)), w4] [] (I1) L R (RT X M_X7_fewestSwaps Q) := by
    intro f
    induction f with
    | zero => intro d I1 w4 h1 h2 h3; omega
    | succ f ih =>
      intro d I1 w4 h1 h2 h3 h4 hW1 hS hN hE
      have hd : d < 120 := by
        apply Classical.byContradiction
        intro z
        have hx : ∀ e : Int, ∃ i : Int, 0 ≤ e → e ≤ d → 0 ≤ i ∧ i < ((ordL r).length : Int) ∧ I1 112 i = e := fun e => by
          by_cases y : 0 ≤ e ∧ e ≤ d
          · obtain ⟨i, hi⟩ := hE e y.1 y.2
            exact ⟨i, fun _ _ => hi⟩
          · exact ⟨0, fun p q => absurd ⟨p, q⟩ y⟩
        obtain ⟨w, hw⟩ := Classical.axiomOfChoice hx
        have nd := nodup_map (v := w) (n := 121) (fun i j i1 i2 j1 j2 e => by
          have wi := (hw i i1 (by omega)).2.2
          have wj := (hw j j1 (by omega)).2.2
          rw [e] at wi
          omega)
        have le := nodup_len (L := idl (ordL r).length) nd (fun x hx => by
          obtain ⟨k, k1, k2⟩ := List.mem_map.mp hx
          rw [List.mem_range] at k1
          have wk := hw k (by omega) (by omega)
          unfold idl
          exact List.mem_map.mpr ⟨x.toNat, List.mem_range.mpr (by omega), by omega⟩)
        rw [List.length_map, List.length_range] at le
        unfold idl at le
        rw [List.length_map, List.length_range] at le
        omega
      have sb : ∀ i, 0 ≤ i → i < ((ordL r).length : Int) → -1 ≤ I1 112 i ∧ I1 112 i ≤ 200 := fun i i1 i2 => by
        rcases hS i i1 i2 with z | z <;> omega
      have f2 : ∀ {I2 : MI}, NtF 113 I1 I2 → ∀ c, c ≠ 112 → (c < 113 ∨ 134 < c) → I2 c = I c := fun {I2} g1 c c1 c2 => by rw [g1 c (by omega)]; exact h4 c c1 c2
      -- none goes at this level
      have after : ∀ (I2 : MI) (w5 : Option AV), NtF 113 I1 I2 → TrW P r I2 → (∀ i, 0 ≤ i → i < ((ordL r).length : Int) → I1 112 i = d → ¬ TP r (-1) (r 2) (vL (Lk r i)) cut) → V X M_X7_fewestSwaps z0 110 [some (vr (111)), some (vi (o)), some (vi (cut)), some (vi (d)), w5] [] (I2) L R (RT X M_X7_fewestSwaps Q) := by
        intro I2 w5 g1 g2 h_57
        have e2 : I2 112 = I1 112 := g1 112 (by decide)
        refine s_aload_n 111 dX7_fewestSwaps_110 rfl rfl ?_
        refine s_iload_n 112 dX7_fewestSwaps_111 rfl rfl ?_
        refine s_callV0 (M' := M_X7_reachMore) (as := [_]) 115 dX7_fewestSwaps_112 rfl cw_X7_78 rfl rfl sh_111 rfl (by decide) (Nat.le_of_ble_eq_true rfl) (Nat.le_of_ble_eq_true rfl) (Nat.le_of_ble_eq_true rfl) (Nat.le_of_ble_eq_true rfl) ⟨rfl, rfl, rfl⟩ ?_
        refine c_X7_reachMore hT hP h7 hr g2 ⟨h2, by omega⟩ ha (by rw [e2]; exact hS) (fun I3 k1 k2 => ?_)
        have f3 : ∀ c, c ≠ 112 → (c < 113 ∨ 134 < c) → I3 c = I c := fun c c1 c2 => by rw [k1 c (by simpa using c1)]; exact f2 g1 c c1 c2
        have w3 : TrW P r I3 := g2.eq hP hr (fun c hc => k1 c (by simp; omega))
        have no : ∀ b, Rc r a d.toNat b → ¬ T b := fun b hb hT9 => by
          obtain ⟨i, i1, i2, i3⟩ := m_Lk (Rc_om ha hb)
          subst i3
          rcases hS i i1 i2 with z | ⟨z1, z2, z3, z4⟩
          · exact z.2 hb
          · by_cases ei : I1 112 i = d
            · exact h_57 i i1 i2 ei ((tT _).mp hT9)
            · exact hN (I1 112 i).toNat (by omega) _ z3 hT9
        refine s_ifb_ne 121 118 dX7_fewestSwaps_115 rfl rfl (fun h_115 => ?_) (fun h_115 => ?_)
        · skip
          refine s_iinc (ls' := [_, _, _, _, _]) 124 dX7_fewestSwaps_121 rfl rfl (Nat.le_of_ble_eq_true rfl) rfl rfl ?_
          refine s_goto 45 dX7_fewestSwaps_124 rfl ?_
          refine ih (d + 1) I3 w5 (by omega) (by omega) (by omega) f3 w3 k2 (fun e he b hb => ?_) (fun e e1 e2' => ?_)
          · by_cases ee : (e : Int) = d
            · exact no b (by rw [show d.toNat = e by omega]; exact hb)
            · exact hN e (by omega) b hb
          · by_cases ee : e = d + 1
            · rw [ee]; exact h_115
            · obtain ⟨i, i1, i2, i3⟩ := hE e e1 (by omega)
              refine ⟨i, i1, i2, ?_⟩
              rcases k2 i i1 i2 with z | ⟨z1, z2, z3, z4⟩
              · rcases hS i i1 i2 with y | ⟨y1, y2, y3, y4⟩
                · omega
                · exact absurd (y3.le (by omega)) z.2
              · rcases hS i i1 i2 with y | ⟨y1, y2, y3, y4⟩
                · omega
                · rcases Int.lt_trichotomy (I3 112 i) (I1 112 i) with w | w | w
                  · exact absurd z3 (y4 _ (by omega))
                  · omega
                  · exact absurd y3 (z4 _ (by omega))
        refine s_bipush 120 dX7_fewestSwaps_118 rfl (by decide) ?_
        refine s_iret dX7_fewestSwaps_120 rfl rfl ?_
        have ev : swF r T a = -2 := SwV.v (Or.inl ⟨rfl, fun e b hb => no b (StI.done h2 ha k2 (fun i i1 i2 z => h_115 ⟨i, i1, i2, z⟩) e b hb)⟩)
        rw [ev] at h; exact h I3 f3 w3
      -- those of this level, one after another
      have inner : ∀ (f : Nat) (k : Int) (I2 : MI), ((ordL r).length : Int) - k < (f : Int) → 0 ≤ k → k ≤ ((ordL r).length : Int) → NtF 113 I1 I2 → TrW P r I2 → (∀ i, 0 ≤ i → i < k → I1 112 i = d → ¬ TP r (-1) (r 2) (vL (Lk r i)) cut) → V X M_X7_fewestSwaps z0 54 [some (vr (111)), some (vi (o)), some (vi (cut)), some (vi (d)), some (vi (k))] [] (I2) L R (RT X M_X7_fewestSwaps Q) := by
        intro f
        induction f with
        | zero => intro k I2 q1 q2 q3; omega
        | succ f ih2 =>
          intro k I2 q1 q2 q3 q4 hW2 q5
          have e8 := hW2.2.2.1
          by_cases hk : k < ((ordL r).length : Int)
          · have eo := hW2.2.2.at q2 hk
            have hm := ordL_of hr (Lk_m q2 hk)
            have e112 : I2 112 = I1 112 := q4 112 (by decide)
            have sk := sb k q2 hk
            by_cases hs : I1 112 k = d
            · skip
              refine s_iload 56 dX7_fewestSwaps_54 rfl rfl ?_
              refine s_aload_n 57 dX7_fewestSwaps_56 rfl rfl ?_
              refine s_getR 60 dX7_fewestSwaps_57 rfl fl_X7_25 (fun _ _ _ _ => rfl) (by assumption) sh_111 (Nat.le_of_ble_eq_true rfl) ?_
              refine s_getI 63 dX7_fewestSwaps_60 rfl fl_X7_42 (fun _ _ _ _ => rfl) (isP_sh (by assumption)) (isP_lt (by assumption)) (fun r_60 => ?_)
              rw [e8]
              refine s_icmp_ge 110 66 dX7_fewestSwaps_63 rfl rfl (by first | omega | exact bI_r _ | exact iI_r _) (by first | omega | exact bI_r _ | exact iI_r _) (fun h_63 => by exfalso; omega) (fun h_63 => ?_)
              refine s_aload_n 67 dX7_fewestSwaps_66 rfl rfl ?_
              refine s_getR 70 dX7_fewestSwaps_67 rfl fl_X7_9 (fun _ _ _ _ => rfl) (T_X7_steps hT) sh_111 (Nat.le_of_ble_eq_true rfl) ?_
              refine s_iload 72 dX7_fewestSwaps_70 rfl rfl ?_
              refine s_iald 73 dX7_fewestSwaps_72 rfl sh_112 (Nat.le_of_ble_eq_true rfl) (by omega) (by omega) (fun r_72 => ?_)
              rw [e112, hs]
              refine s_iload_n 74 dX7_fewestSwaps_73 rfl rfl ?_
              refine s_icmp_ne 104 77 dX7_fewestSwaps_74 rfl rfl (by first | omega | exact bI_r _ | exact iI_r _) (by first | omega | exact bI_r _ | exact iI_r _) (fun h_74 => by exfalso; omega) (fun h_74 => ?_)
              refine s_aload_n 78 dX7_fewestSwaps_77 rfl rfl ?_
              refine s_aload_n 79 dX7_fewestSwaps_78 rfl rfl ?_
              refine s_getR 82 dX7_fewestSwaps_79 rfl fl_X7_25 (fun _ _ _ _ => rfl) (by assumption) sh_111 (Nat.le_of_ble_eq_true rfl) ?_
              refine s_getR 85 dX7_fewestSwaps_82 rfl fl_X7_47 (fun _ _ _ _ => rfl) (T_X5_orderList hT (by assumption)) (isP_sh (by assumption)) (isP_lt (by assumption)) ?_
              refine s_iload 87 dX7_fewestSwaps_85 rfl rfl ?_
              refine s_iald 88 dX7_fewestSwaps_87 rfl (shP_orderList (by assumption)) (ltP_orderList (by assumption)) (by omega) (by omega) (fun r_87 => ?_)
              refine s_aload_n 89 dX7_fewestSwaps_88 rfl rfl ?_
              refine s_getR 92 dX7_fewestSwaps_89 rfl fl_X7_25 (fun _ _ _ _ => rfl) (by assumption) sh_111 (Nat.le_of_ble_eq_true rfl) ?_
              refine s_getI 95 dX7_fewestSwaps_92 rfl fl_X7_50 (fun _ _ _ _ => rfl) (isP_sh (by assumption)) (isP_lt (by assumption)) (fun r_92 => ?_)
              rw [show I2 P 1 = r 2 from hW2.1.1.2.1]
              refine s_iload_n 96 dX7_fewestSwaps_95 rfl rfl ?_
              refine s_callV0 (M' := M_X7_goes) (as := [_, _, _]) 99 dX7_fewestSwaps_96 rfl cw_X7_74 rfl rfl sh_111 rfl (by decide) (Nat.le_of_ble_eq_true rfl) (Nat.le_of_ble_eq_true rfl) (Nat.le_of_ble_eq_true rfl) (Nat.le_of_ble_eq_true rfl) ⟨rfl, rfl, rfl⟩ ?_
              refine c_X7_goes hT hP h7 h13 hr hW2 eo hm.1 ⟨by omega, by omega⟩ hcut (fun I3 g1 g2 => ?_)
              refine s_ifb_eq 104 102 dX7_fewestSwaps_99 rfl rfl (fun h_99 => ?_) (fun h_99 => ?_)
              · skip
                refine s_iinc (ls' := [_, _, _, _, _]) 107 dX7_fewestSwaps_104 rfl rfl (Nat.le_of_ble_eq_true rfl) rfl rfl ?_
                refine s_goto 54 dX7_fewestSwaps_107 rfl ?_
                refine ih2 (k + 1) I3 (by omega) (by omega) (by omega) (q4.tr g1) g2 (fun i i1 i2 i3 => ?_)
                by_cases e : i = k
                · rw [e]; exact h_99
                · exact q5 i i1 (by omega) i3
              refine s_iload_n 103 dX7_fewestSwaps_102 rfl rfl ?_
              refine s_iret dX7_fewestSwaps_103 rfl rfl ?_
              have ev : swF r T a = d := SwV.v (Or.inr ⟨h2, ⟨Lk r k, ?_, (tT _).mpr h_99⟩, fun e he b hb => hN e he b hb⟩)
              · rw [ev] at h; exact h I3 (f2 (q4.tr g1)) g2
              · rcases hS k q2 hk with z | ⟨z1, z2, z3, z4⟩
                · omega
                · rw [hs] at z3; exact z3
            · skip
              refine s_iload 56 dX7_fewestSwaps_54 rfl rfl ?_
              refine s_aload_n 57 dX7_fewestSwaps_56 rfl rfl ?_
              refine s_getR 60 dX7_fewestSwaps_57 rfl fl_X7_25 (fun _ _ _ _ => rfl) (by assumption) sh_111 (Nat.le_of_ble_eq_true rfl) ?_
              refine s_getI 63 dX7_fewestSwaps_60 rfl fl_X7_42 (fun _ _ _ _ => rfl) (isP_sh (by assumption)) (isP_lt (by assumption)) (fun r_60 => ?_)
              rw [e8]
              refine s_icmp_ge 110 66 dX7_fewestSwaps_63 rfl rfl (by first | omega | exact bI_r _ | exact iI_r _) (by first | omega | exact bI_r _ | exact iI_r _) (fun h_63 => by exfalso; omega) (fun h_63 => ?_)
              refine s_aload_n 67 dX7_fewestSwaps_66 rfl rfl ?_
              refine s_getR 70 dX7_fewestSwaps_67 rfl fl_X7_9 (fun _ _ _ _ => rfl) (T_X7_steps hT) sh_111 (Nat.le_of_ble_eq_true rfl) ?_
              refine s_iload 72 dX7_fewestSwaps_70 rfl rfl ?_
              refine s_iald 73 dX7_fewestSwaps_72 rfl sh_112 (Nat.le_of_ble_eq_true rfl) (by omega) (by omega) (fun r_72 => ?_)
              rw [e112]
              refine s_iload_n 74 dX7_fewestSwaps_73 rfl rfl ?_
              refine s_icmp_ne 104 77 dX7_fewestSwaps_74 rfl rfl (by first | omega | exact bI_r _ | exact iI_r _) (by first | omega | exact bI_r _ | exact iI_r _) (fun h_74 => ?_) (fun h_74 => by exfalso; omega)
              refine s_iinc (ls' := [_, _, _, _, _]) 107 dX7_fewestSwaps_104 rfl rfl (Nat.le_of_ble_eq_true rfl) rfl rfl ?_
              refine s_goto 54 dX7_fewestSwaps_107 rfl ?_
              refine ih2 (k + 1) I2 (by omega) (by omega) (by omega) q4 hW2 (fun i i1 i2 i3 => ?_)
              by_cases e : i = k
              · rw [e] at i3; exact absurd i3 hs
              · exact q5 i i1 (by omega) i3
          · have ek : k = ((ordL r).length : Int) := by omega
            subst ek
            refine s_iload 56 dX7_fewestSwaps_54 rfl rfl ?_
            refine s_aload_n 57 dX7_fewestSwaps_56 rfl rfl ?_
            refine s_getR 60 dX7_fewestSwaps_57 rfl fl_X7_25 (fun _ _ _ _ => rfl) (by assumption) sh_111 (Nat.le_of_ble_eq_true rfl) ?_
            refine s_getI 63 dX7_fewestSwaps_60 rfl fl_X7_42 (fun _ _ _ _ => rfl) (isP_sh (by assumption)) (isP_lt (by assumption)) (fun r_60 => ?_)
            rw [e8]
            refine s_icmp_ge 110 66 dX7_fewestSwaps_63 rfl rfl (by first | omega | exact bI_r _ | exact iI_r _) (by first | omega | exact bI_r _ | exact iI_r _) (fun h_63 => ?_) (fun h_63 => by exfalso; omega)
            exact after I2 _ q4 hW2 q5
      refine s_iload_n 46 dX7_fewestSwaps_45 rfl rfl ?_
      refine s_bipush 48 dX7_fewestSwaps_46 rfl (by decide) ?_
      refine s_icmp_ge 127 51 dX7_fewestSwaps_48 rfl rfl (by first | omega | exact bI_r _ | exact iI_r _) (by first | omega | exact bI_r _ | exact iI_r _) (fun h_48 => by exfalso; omega) (fun h_48 => ?_)
      refine s_iconst 52 dX7_fewestSwaps_51 rfl ?_
      refine s_istore (ls' := [_, _, _, _, _]) 54 dX7_fewestSwaps_52 rfl (Nat.le_of_ble_eq_true rfl) rfl rfl ?_
      exact inner 122 0 I1 (by omega) (by omega) (by omega) NtF.rf hW1 (fun i a b => by omega)
  have loop1 : ∀ (f : Nat) (k : Int) (I1 : MI), ((ordL r).length : Int) - k < (f : Int) → 0 ≤ k → k ≤ ((ordL r).length : Int) → Eqo [112] I I1 → (∀ i, 0 ≤ i → i < k → I1 112 i = pick (Lk r i = a) 0 (-1)) → V X M_X7_fewestSwaps z0 2 [some (vr (111)), some (vi (o)), some (vi (cut)), some (vi (k)), none] [] (I1) L R (RT X M_X7_fewestSwaps Q) := by
    intro f
    induction f with
    | zero => intro k I1 h1 h2 h3; omega
    | succ f ih =>
      intro k I1 h1 h2 h3 h4 h5
      have W1 : TrW P r I1 := hW.eq hP hr (fun c hc => h4 c (by simp; omega))
      have e8 := W1.2.2.1
      by_cases hk : k < ((ordL r).length : Int)
      · have eo := W1.2.2.at h2 hk
        have eo1 := eo.1
        have nx : ∀ x : Int, x = pick (Lk r k = a) 0 (-1) → V X M_X7_fewestSwaps z0 2 [some (vr (111)), some (vi (o)), some (vi (cut)), some (vi (k + 1)), none] [] (up I1 112 k x) L R (RT X M_X7_fewestSwaps Q) := fun x ex => ih (k + 1) _ (by omega) (by omega) (by omega) (h4.st (by simp)) (fun i i1 i2 => by
          rw [upd9]
          by_cases e : i = k
          · rw [if_pos e, e]; exact ex
          · rw [if_neg e]; exact h5 i i1 (by omega))
        by_cases e : Lk r k = a
        · have eoo : I1 (P + 35) k = o := by rw [e] at eo; exact eo.uq ho
          have st := nx 0 (pick_t e).symm
          refine s_iload_n 3 dX7_fewestSwaps_2 rfl rfl ?_
          refine s_aload_n 4 dX7_fewestSwaps_3 rfl rfl ?_
          refine s_getR 7 dX7_fewestSwaps_4 rfl fl_X7_25 (fun _ _ _ _ => rfl) (by assumption) sh_111 (Nat.le_of_ble_eq_true rfl) ?_
          refine s_getI 10 dX7_fewestSwaps_7 rfl fl_X7_42 (fun _ _ _ _ => rfl) (isP_sh (by assumption)) (isP_lt (by assumption)) (fun r_7 => ?_)
          rw [e8]
          refine s_icmp_ge 43 13 dX7_fewestSwaps_10 rfl rfl (by first | omega | exact bI_r _ | exact iI_r _) (by first | omega | exact bI_r _ | exact iI_r _) (fun h_10 => by exfalso; omega) (fun h_10 => ?_)
          refine s_aload_n 14 dX7_fewestSwaps_13 rfl rfl ?_
          refine s_getR 17 dX7_fewestSwaps_14 rfl fl_X7_9 (fun _ _ _ _ => rfl) (T_X7_steps hT) sh_111 (Nat.le_of_ble_eq_true rfl) ?_
          refine s_iload_n 18 dX7_fewestSwaps_17 rfl rfl ?_
          refine s_aload_n 19 dX7_fewestSwaps_18 rfl rfl ?_
          refine s_getR 22 dX7_fewestSwaps_19 rfl fl_X7_25 (fun _ _ _ _ => rfl) (by assumption) sh_111 (Nat.le_of_ble_eq_true rfl) ?_
          refine s_getR 25 dX7_fewestSwaps_22 rfl fl_X7_47 (fun _ _ _ _ => rfl) (T_X5_orderList hT (by assumption)) (isP_sh (by assumption)) (isP_lt (by assumption)) ?_
          refine s_iload_n 26 dX7_fewestSwaps_25 rfl rfl ?_
          refine s_iald 27 dX7_fewestSwaps_26 rfl (shP_orderList (by assumption)) (ltP_orderList (by assumption)) (by omega) (by omega) (fun r_26 => ?_)
          rw [eoo]
          refine s_iload_n 28 dX7_fewestSwaps_27 rfl rfl ?_
          refine s_icmp_ne 35 31 dX7_fewestSwaps_28 rfl rfl (by first | omega | exact bI_r _ | exact iI_r _) (by first | omega | exact bI_r _ | exact iI_r _) (fun h_28 => by exfalso; omega) (fun h_28 => ?_)
          refine s_iconst 32 dX7_fewestSwaps_31 rfl ?_
          refine s_goto 36 dX7_fewestSwaps_32 rfl ?_
          refine s_iast 37 dX7_fewestSwaps_36 rfl sh_112 (Nat.le_of_ble_eq_true rfl) (by omega) (by omega) (by first | omega | exact bI_r _ | exact iI_r _) ?_
          refine s_iinc (ls' := [_, _, _, _, _]) 40 dX7_fewestSwaps_37 rfl rfl (Nat.le_of_ble_eq_true rfl) rfl rfl ?_
          refine s_goto 2 dX7_fewestSwaps_40 rfl ?_
          exact st
        · have ne : I1 (P + 35) k ≠ o := fun z => e (ordL_ext hr (Lk_m h2 hk) ha (fun j j1 j2 => by rw [← eo.2.1 j j1 j2, z, ho.2.1 j j1 j2]))
          have st := nx (-1) (pick_f e).symm
          refine s_iload_n 3 dX7_fewestSwaps_2 rfl rfl ?_
          refine s_aload_n 4 dX7_fewestSwaps_3 rfl rfl ?_
          refine s_getR 7 dX7_fewestSwaps_4 rfl fl_X7_25 (fun _ _ _ _ => rfl) (by assumption) sh_111 (Nat.le_of_ble_eq_true rfl) ?_
          refine s_getI 10 dX7_fewestSwaps_7 rfl fl_X7_42 (fun _ _ _ _ => rfl) (isP_sh (by assumption)) (isP_lt (by assumption)) (fun r_7 => ?_)
          rw [e8]
          refine s_icmp_ge 43 13 dX7_fewestSwaps_10 rfl rfl (by first | omega | exact bI_r _ | exact iI_r _) (by first | omega | exact bI_r _ | exact iI_r _) (fun h_10 => by exfalso; omega) (fun h_10 => ?_)
          refine s_aload_n 14 dX7_fewestSwaps_13 rfl rfl ?_
          refine s_getR 17 dX7_fewestSwaps_14 rfl fl_X7_9 (fun _ _ _ _ => rfl) (T_X7_steps hT) sh_111 (Nat.le_of_ble_eq_true rfl) ?_
          refine s_iload_n 18 dX7_fewestSwaps_17 rfl rfl ?_
          refine s_aload_n 19 dX7_fewestSwaps_18 rfl rfl ?_
          refine s_getR 22 dX7_fewestSwaps_19 rfl fl_X7_25 (fun _ _ _ _ => rfl) (by assumption) sh_111 (Nat.le_of_ble_eq_true rfl) ?_
          refine s_getR 25 dX7_fewestSwaps_22 rfl fl_X7_47 (fun _ _ _ _ => rfl) (T_X5_orderList hT (by assumption)) (isP_sh (by assumption)) (isP_lt (by assumption)) ?_
          refine s_iload_n 26 dX7_fewestSwaps_25 rfl rfl ?_
          refine s_iald 27 dX7_fewestSwaps_26 rfl (shP_orderList (by assumption)) (ltP_orderList (by assumption)) (by omega) (by omega) (fun r_26 => ?_)
          refine s_iload_n 28 dX7_fewestSwaps_27 rfl rfl ?_
          refine s_icmp_ne 35 31 dX7_fewestSwaps_28 rfl rfl (by first | omega | exact bI_r _ | exact iI_r _) (by first | omega | exact bI_r _ | exact iI_r _) (fun h_28 => ?_) (fun h_28 => by exfalso; omega)
          refine s_iconst 36 dX7_fewestSwaps_35 rfl ?_
          refine s_iast 37 dX7_fewestSwaps_36 rfl sh_112 (Nat.le_of_ble_eq_true rfl) (by omega) (by omega) (by first | omega | exact bI_r _ | exact iI_r _) ?_
          refine s_iinc (ls' := [_, _, _, _, _]) 40 dX7_fewestSwaps_37 rfl rfl (Nat.le_of_ble_eq_true rfl) rfl rfl ?_
          refine s_goto 2 dX7_fewestSwaps_40 rfl ?_
          exact st
      · have ek : k = ((ordL r).length : Int) := by omega
        subst ek
        refine s_iload_n 3 dX7_fewestSwaps_2 rfl rfl ?_
        refine s_aload_n 4 dX7_fewestSwaps_3 rfl rfl ?_
        refine s_getR 7 dX7_fewestSwaps_4 rfl fl_X7_25 (fun _ _ _ _ => rfl) (by assumption) sh_111 (Nat.le_of_ble_eq_true rfl) ?_
        refine s_getI 10 dX7_fewestSwaps_7 rfl fl_X7_42 (fun _ _ _ _ => rfl) (isP_sh (by assumption)) (isP_lt (by assumption)) (fun r_7 => ?_)
        rw [e8]
        refine s_icmp_ge 43 13 dX7_fewestSwaps_10 rfl rfl (by first | omega | exact bI_r _ | exact iI_r _) (by first | omega | exact bI_r _ | exact iI_r _) (fun h_10 => ?_) (fun h_10 => by exfalso; omega)
        refine s_iconst 44 dX7_fewestSwaps_43 rfl ?_
        refine s_istore_n (ls' := [_, _, _, _, _]) 45 dX7_fewestSwaps_44 rfl (Nat.le_of_ble_eq_true rfl) rfl rfl ?_
        refine loop2 122 0 I1 none (by omega) (by omega) (by omega) (fun c c1 c2 => h4 c (by simpa using c1)) W1 (fun i i1 i2 => ?_) (fun e he => by omega) (fun e e1 e2 => ?_)
        · rw [h5 i i1 i2]
          by_cases e : Lk r i = a
          · rw [pick_t e]; exact Or.inr ⟨by omega, by omega, e, fun e he => by omega⟩
          · rw [pick_f e]; exact Or.inl ⟨rfl, e⟩
        · obtain ⟨i, i1, i2, i3⟩ := m_Lk ha
          exact ⟨i, i1, i2, by rw [h5 i i1 i2, pick_t i3]; omega⟩
  refine s_iconst 1 dX7_fewestSwaps_0 rfl ?_
  refine s_istore_n (ls' := [_, _, _, _, _]) 2 dX7_fewestSwaps_1 rfl (Nat.le_of_ble_eq_true rfl) rfl rfl ?_
  exact loop1 122 0 I (by omega) (by omega) (by omega) Eqo.rf (fun i a b => by omega)
