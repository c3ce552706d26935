/-! CASTING: findCuts; the same cut as the reference's -/
theorem tp_spl {r sc : F1} {rd g cut : Int} (hr : WFr r) : TP r rd g sc cut ↔ Spl (MayP r rd g sc cut) (r 3).toNat (allF (r 4)) := by
  have e0 := hr.1
  have en : (((r 4).toNat : Nat) : Int) = r 4 := by omega
  have a7 := allF_7 (n := r 4) ⟨by omega, by omega⟩
  have hfs := few_spl (G := MayP r rd g sc cut) (n := (r 4).toNat) ⟨by omega, by omega⟩
  rw [en] at hfs
  unfold TP
  rw [← hfs]
  have hex : SplV (MayP r rd g sc cut) (allF (r 4)) (splV (MayP r rd g sc cut) (allF (r 4))) := by
    rcases few_all (G := MayP r rd g sc cut) (n := (r 4).toNat) with ⟨a, b⟩ | ⟨P, b, S, h1, h2, h3, h4, h5, h6⟩
    · have hv : SplV (MayP r rd g sc cut) (allF (r 4)) (-2) := by
        refine Or.inl ⟨rfl, fun m z => ?_⟩
        rw [← en] at z
        obtain ⟨l, l1, l2, l3⟩ := (spl_few (n := (r 4).toNat) ⟨by omega, by omega⟩).mp z
        have e := b l l1
        rw [valR_t l2] at e
        have := plF_nn (vL l) (r 4).toNat
        omega
      rw [hv.v]; exact hv
    · have gb : GL (MayP r rd g sc cut) (r 4).toNat (vL b) := valR_n (by rw [← h2]; exact h3)
      have ev := valR_t gb
      have pn := plF_nn (vL b) (r 4).toNat
      have hv : SplV (MayP r rd g sc cut) (allF (r 4)) (fewV (MayP r rd g sc cut) (r 4).toNat) := by
        refine Or.inr ⟨by omega, ?_, fun m m1 z => ?_⟩
        · have g9 := (spl_few (G := MayP r rd g sc cut) (n := (r 4).toNat) (m := (fewV (MayP r rd g sc cut) (r 4).toNat).toNat) ⟨by omega, by omega⟩).mpr ⟨b, by rw [h1]; simp, gb, by omega⟩
          rw [en] at g9
          exact g9
        · rw [← en] at z
          obtain ⟨l, l1, l2, l3⟩ := (spl_few (n := (r 4).toNat) ⟨by omega, by omega⟩).mp z
          have el := valR_t l2
          have := plF_nn (vL l) (r 4).toNat
          rw [h1] at l1
          rcases List.mem_append.mp l1 with y | y
          · rcases h6 l y with w | w <;> omega
          · rcases List.mem_cons.mp y with y | y
            · subst y; omega
            · rcases h5 l y with w | w <;> omega
      rw [hv.v]; exact hv
  rcases hex with ⟨a, b⟩ | ⟨a, b, c⟩
  · rw [a]
    exact ⟨fun z => absurd rfl z.1, fun z => absurd z (b _)⟩
  · constructor
    · intro z; exact b.le (by omega)
    · intro z
      refine ⟨by omega, ?_⟩
      apply Classical.byContradiction
      intro y
      exact c (r 3).toNat (by omega) z
theorem bst_cut {r s : F1} {rd g b : Int} (hr : WFr r) (h : BstV (feP r rd g s (s 12)) b) : (b = 65536 ∧ cutF r rd g s = -2) ∨ (b < 65536 ∧ 0 ≤ cutF r rd g s ∧ cutF r rd g s < 16384 ∧ b = bits (cutF r rd g s) * 16384 + cutF r rd g s) := by
  have e0 := hr.1
  have a14 := allF_14 (n := r 7) ⟨by omega, by omega⟩
  have hA : ∀ k, 0 ≤ k → k < 32 → (hasI (cutA r s) k ↔ k < r 7 ∧ ¬ hasI (s 12) k) := fun k a c => by
    unfold cutA
    rw [has_andn ⟨a, c⟩, allF_has ⟨by omega, by omega⟩ ⟨a, c⟩]
  have hA2 : 0 ≤ cutA r s ∧ cutA r s < 16384 := iand_lt14 (by omega)
  have fe : ∀ m, 0 ≤ m → (m ≤ cutA r s ∧ iand m (ixor (cutA r s) (-1)) = 0 ∧ TP r rd g s (ior (s 12) m) ↔ feP r rd g s (s 12) m) := by
    intro m m0
    constructor
    · rintro ⟨m1, m2, m3⟩
      exact ⟨⟨m0, by omega⟩, fun k a c d => (hA k a c).mp ((andn_0 (by omega)).mp m2 k a c d), (tp_spl hr).mp m3⟩
    · rintro ⟨m1, m2, m3⟩
      have hs : ∀ k, 0 ≤ k → k < 32 → hasI m k → hasI (cutA r s) k := fun k a c d => (hA k a c).mpr (m2 k a c d)
      refine ⟨?_, (andn_0 (by omega)).mpr hs, (tp_spl hr).mpr m3⟩
      have e1 : ((m.toNat : Nat) : Int) = m := by omega
      have e2 : (((cutA r s).toNat : Nat) : Int) = cutA r s := by omega
      have hi : iand m (cutA r s) = m := set_ext (iand_r _ _) (by omega) (fun k a c => by
        rw [has_and ⟨a, c⟩]; exact ⟨fun z => z.1, fun z => ⟨z, hs k a c z⟩⟩)
      rw [← e1, ← e2, iand_nat (by omega) (by omega)] at hi
      have := Nat.and_le_right (n := m.toNat) (m := (cutA r s).toNat)
      omega
  rcases h with ⟨h1, h2⟩ | ⟨x, x1, x2, x3, x4, x5⟩
  · refine Or.inl ⟨h1, CutV.v (Or.inl ⟨rfl, fun m m0 m1 m2 m3 m4 => h2 m ((fe m m0).mp ⟨m1, m2, m4⟩) m3⟩)⟩
  · have f := (fe x x1.1.1).mpr x1
    have bx := bits_b x
    have ec : cutF r rd g s = x := CutV.v (Or.inr ⟨x1.1.1, f.1, f.2.1, x2, f.2.2, fun m m0 m1 m2 m4 => by
      have fm := (fe m m0).mp ⟨m1, m2, m4⟩
      have b1 := bits_b m
      have m14 := fm.1
      by_cases m3 : bits m ≤ 3
      · have := x5 m fm m3
        have x14 := x1.1
        omega
      · omega⟩)
    rw [ec]
    exact Or.inr ⟨x4, x1.1.1, x1.1.2, x3⟩
set_option maxHeartbeats 4000000 in
theorem c_X1_findCuts {E : ET} {I : MI} {L : ML} {R : MR} {Q : Option AV → MI → ML → MR → Prop} {P : Nat} {r sc : F1} {rd g cut : Int} (hT : Topo R) (hP : isP P) (hNP : R 85 1 = some P) (hr : WFr r) (hsc : Perm (r 5) sc) (hg : 0 ≤ g ∧ g ≤ 99) (hW : GW3 85 P r rd g sc cut I) (hK : I 107 6 = I 85 12 → BstV (feP r rd g sc cut) (I 107 7)) (h : ∀ I', Eqo [107, 110] I I' → I' 107 6 = I 85 12 → (∀ k, k ≠ 6 → k ≠ 7 → I' 107 k = I 107 k) → BstV (feP r rd g sc cut) (I' 107 7) → Q none I' L R) : CT E M_X1_findCuts 161 yX1_findCuts [(vr (107))] I L R Q := by
  refine CT_of rfl rfl (fun h => by cases h) (Nat.le_of_ble_eq_true rfl) (fun X => ?_)
  show V X _ z0 0 [some (vr (107)), none, none] [] I L R _
  have e0 := hr.1
  have hp : P = 3 ∨ P = 39 := hP
  have a7 := allF_7 (n := r 4) ⟨by omega, by omega⟩
  have loop : ∀ (f : Nat) (n : Int) (I1 : MI) (w2 : Option AV), 5 - n < (f : Int) → 0 ≤ n → n ≤ 4 → Eqo [107, 110] I I1 → I1 107 6 = I 85 12 → (∀ k, k ≠ 6 → k ≠ 7 → I1 107 k = I 107 k) → ((I1 107 7 = 65536 ∧ (∀ x, feP r rd g sc cut x → ¬ bits x < n) ∧ (∀ s, 0 ≤ s → s ≤ allF (r 4) → LcV (KsP r rd g sc cut s) n (I1 110 s)) ∧ ∀ s, allF (r 4) < s → s ≤ 127 → I1 110 s = 65536) ∨ (I1 107 7 < 65536 ∧ 0 ≤ I1 107 7 ∧ BstV (feP r rd g sc cut) (I1 107 7))) → V X M_X1_findCuts z0 43 [some (vr (107)), some (vi (n)), w2] [] (I1) L R (RT X M_X1_findCuts Q) := by
    intro f
    induction f with
    | zero => intro n I1 w2 h1 h2 h3; omega
    | succ f ih =>
      intro n I1 w2 h1 h2 h3 h4 h5 h6 h7
      rcases h7 with ⟨z1, z2, z3, z4⟩ | ⟨z1, z1', z2⟩
      · by_cases hn : n ≤ 3
        · have W1 : GW3 85 P r rd g sc cut I1 := hW.eq hr (fun c hc => h4 c (by simp; omega))
          have big : ∀ (I2 : MI) (v : Int) (w2 : Option AV), Eqo [110] I1 I2 → (∀ s, allF (r 4) < s → I2 110 s = I1 110 s) → (∀ s, 0 ≤ s → s ≤ allF (r 4) → LcV (KsP r rd g sc cut s) (n + 1) (I2 110 s)) → ChV (I2 110) (r 3).toNat (allF (r 4)) v → V X M_X1_findCuts z0 81 [some (vr (107)), some (vi (n)), some (vi (v))] [] (I2) L R (RT X M_X1_findCuts Q) := by
            intro I2 v w2 g1 g2 g3 hv
            have q2 : Eqo [107, 110] I I2 := h4.tr (g1.mo (by simp))
            have e7 : I2 107 = I1 107 := g1 107 (by decide)
            have v1 := hv.1
            have v2 := hv.2.1
            have lb : ∀ y, feP r rd g sc cut y → bits y ≤ n → v ≤ bits y * 16384 + y := fun y hy hb => fe_cost hr g3 hy hb hv
            by_cases hlt : v < (n + 1) * 16384
            · obtain ⟨x, x1, x2⟩ := cost_fe hr g3 hv (by omega)
              have x14 := x1.1
              have bx := bits_b x
              have best : BstV (feP r rd g sc cut) v := Or.inr ⟨x, x1, by omega, x2.symm, by omega, fun y hy hb => by
                by_cases hb2 : bits y ≤ n
                · exact lb y hy hb2
                · have := hy.1; omega⟩
              refine s_iload_n 82 dX1_findCuts_81 rfl rfl ?_
              refine s_iload_n 83 dX1_findCuts_82 rfl rfl ?_
              refine s_iconst 84 dX1_findCuts_83 rfl ?_
              refine s_iadd 85 dX1_findCuts_84 rfl ?_
              refine s_sipush 88 dX1_findCuts_85 rfl (by decide) ?_
              refine s_imul 89 dX1_findCuts_88 rfl ?_
              refine s_icmp_ge 97 92 dX1_findCuts_89 rfl rfl (by first | omega | exact bI_r _ | exact iI_r _) (by first | omega | exact bI_r _ | exact iI_r _) (fun h_89 => by exfalso; omega) (fun h_89 => ?_)
              refine s_aload_n 93 dX1_findCuts_92 rfl rfl ?_
              refine s_iload_n 94 dX1_findCuts_93 rfl rfl ?_
              refine s_putI 97 dX1_findCuts_94 rfl fl_X1_33 (fun _ => rfl) (fun _ => rfl) (fun _ _ _ _ => rfl) sh_107 (Nat.le_of_ble_eq_true rfl) (by first | omega | exact bI_r _ | exact iI_r _) ?_
              refine s_iinc (ls' := [_, _, _]) 100 dX1_findCuts_97 rfl rfl (Nat.le_of_ble_eq_true rfl) rfl rfl ?_
              refine s_goto 43 dX1_findCuts_100 rfl ?_
              refine ih (n + 1) _ _ (by omega) (by omega) (by omega) (q2.st (by simp)) (by rw [upn (by decide), e7]; exact h5) (fun k k1 k2 => by rw [upn k2, e7]; exact h6 k k1 k2) (Or.inr ?_)
              rw [ups]
              exact ⟨by omega, v1, best⟩
            · skip
              refine s_iload_n 82 dX1_findCuts_81 rfl rfl ?_
              refine s_iload_n 83 dX1_findCuts_82 rfl rfl ?_
              refine s_iconst 84 dX1_findCuts_83 rfl ?_
              refine s_iadd 85 dX1_findCuts_84 rfl ?_
              refine s_sipush 88 dX1_findCuts_85 rfl (by decide) ?_
              refine s_imul 89 dX1_findCuts_88 rfl ?_
              refine s_icmp_ge 97 92 dX1_findCuts_89 rfl rfl (by first | omega | exact bI_r _ | exact iI_r _) (by first | omega | exact bI_r _ | exact iI_r _) (fun h_89 => ?_) (fun h_89 => by exfalso; omega)
              refine s_iinc (ls' := [_, _, _]) 100 dX1_findCuts_97 rfl rfl (Nat.le_of_ble_eq_true rfl) rfl rfl ?_
              refine s_goto 43 dX1_findCuts_100 rfl ?_
              refine ih (n + 1) I2 _ (by omega) (by omega) (by omega) q2 (by rw [e7]; exact h5) (fun k k1 k2 => by rw [e7]; exact h6 k k1 k2) (Or.inl ⟨by rw [e7]; exact z1, fun y hy hb => ?_, g3, fun s s1 s2 => by rw [g2 s s1]; exact z4 s s1 s2⟩)
              have := lb y hy (by omega)
              have := hy.1
              omega
          refine s_iload_n 44 dX1_findCuts_43 rfl rfl ?_
          refine s_iconst 45 dX1_findCuts_44 rfl ?_
          refine s_icmp_gt 103 48 dX1_findCuts_45 rfl rfl (by first | omega | exact bI_r _ | exact iI_r _) (by first | omega | exact bI_r _ | exact iI_r _) (fun h_45 => by exfalso; omega) (fun h_45 => ?_)
          refine s_aload_n 49 dX1_findCuts_48 rfl rfl ?_
          refine s_getI 52 dX1_findCuts_49 rfl fl_X1_33 (fun _ _ _ _ => rfl) sh_107 (Nat.le_of_ble_eq_true rfl) (fun r_49 => ?_)
          rw [z1]
          refine s_ldc 54 dX1_findCuts_52 rfl _ ck_X1_32 ?_
          refine s_icmp_lt 103 57 dX1_findCuts_54 rfl rfl (by first | omega | exact bI_r _ | exact iI_r _) (by first | omega | exact bI_r _ | exact iI_r _) (fun h_54 => by exfalso; omega) (fun h_54 => ?_)
          refine s_aload_n 58 dX1_findCuts_57 rfl rfl ?_
          refine s_iload_n 59 dX1_findCuts_58 rfl rfl ?_
          refine s_callV0 (M' := M_X1_addCuts) (as := [_]) 62 dX1_findCuts_59 rfl cw_X1_85 rfl rfl sh_107 rfl (by decide) (Nat.le_of_ble_eq_true rfl) (Nat.le_of_ble_eq_true rfl) (Nat.le_of_ble_eq_true rfl) (Nat.le_of_ble_eq_true rfl) ⟨rfl, rfl, rfl⟩ ?_
          refine c_X1_addCuts hT hP hNP hr hsc hg W1 ⟨h2, hn⟩ z3 (fun I2 g1 g2 g3 => ?_)
          have W2 : GW3 85 P r rd g sc cut I2 := W1.eq hr (fun c hc => g1 c (by simp; omega))
          refine s_aload_n 63 dX1_findCuts_62 rfl rfl ?_
          refine s_aload_n 64 dX1_findCuts_63 rfl rfl ?_
          refine s_getR 67 dX1_findCuts_64 rfl fl_X1_36 (fun _ _ _ _ => rfl) (T_X1_night hT) sh_107 (Nat.le_of_ble_eq_true rfl) ?_
          refine s_callV0 (M' := M_X4_allParts) (as := []) 70 dX1_findCuts_67 rfl cw_X1_45 rfl rfl (isN_sh isN_85) rfl (by decide) (isN_lt isN_85) (Nat.le_of_ble_eq_true rfl) (Nat.le_of_ble_eq_true rfl) (Nat.le_of_ble_eq_true rfl) ⟨rfl, rfl, rfl⟩ ?_
          refine c_X4_allParts hT isN_85 hP hNP W2.1 ?_
          refine s_aload_n 71 dX1_findCuts_70 rfl rfl ?_
          refine s_getR 74 dX1_findCuts_71 rfl fl_X1_36 (fun _ _ _ _ => rfl) (T_X1_night hT) sh_107 (Nat.le_of_ble_eq_true rfl) ?_
          refine s_callV0 (M' := M_X4_playersTold) (as := []) 77 dX1_findCuts_74 rfl cw_X1_89 rfl rfl (isN_sh isN_85) rfl (by decide) (isN_lt isN_85) (Nat.le_of_ble_eq_true rfl) (Nat.le_of_ble_eq_true rfl) (Nat.le_of_ble_eq_true rfl) ⟨rfl, rfl, rfl⟩ ?_
          refine c_X4_playersTold hT isN_85 hP hNP W2.1 ?_
          refine s_callV0 (M' := (M_X1_cheapest 3)) (as := [_, _]) 80 dX1_findCuts_77 rfl cw_X1_92 rfl rfl sh_107 rfl (by decide) (Nat.le_of_ble_eq_true rfl) (by first | exact Nat.le_of_ble_eq_true rfl | (simp only [mrk]; omega)) (Nat.le_of_ble_eq_true rfl) (Nat.le_of_ble_eq_true rfl) ⟨rfl, rfl, rfl⟩ ?_
          refine c_X1_cheapest 3 (lc := I2 110) hT (fun s s1 s2 => ⟨rfl, ?_⟩) a7 (by omega) (by omega) (by omega) (fun v hv => ?_)
          · by_cases y : s ≤ allF (r 4)
            · exact (g3 s s1 y).b
            · rw [g2 s (by omega), z4 s (by omega) s2]; omega
          refine s_istore_n (ls' := [_, _, _]) 81 dX1_findCuts_80 rfl (Nat.le_of_ble_eq_true rfl) rfl rfl ?_
          exact big I2 v w2 g1 g2 g3 hv
        · have en : n = 4 := by omega
          subst en
          refine s_iload_n 44 dX1_findCuts_43 rfl rfl ?_
          refine s_iconst 45 dX1_findCuts_44 rfl ?_
          refine s_icmp_gt 103 48 dX1_findCuts_45 rfl rfl (by first | omega | exact bI_r _ | exact iI_r _) (by first | omega | exact bI_r _ | exact iI_r _) (fun h_45 => ?_) (fun h_45 => by exfalso; omega)
          refine s_vret dX1_findCuts_103 rfl rfl ?_
          exact h I1 h4 h5 h6 (Or.inl ⟨z1, fun x hx hb => z2 x hx (by omega)⟩)
      · by_cases hn : n ≤ 3
        · skip
          refine s_iload_n 44 dX1_findCuts_43 rfl rfl ?_
          refine s_iconst 45 dX1_findCuts_44 rfl ?_
          refine s_icmp_gt 103 48 dX1_findCuts_45 rfl rfl (by first | omega | exact bI_r _ | exact iI_r _) (by first | omega | exact bI_r _ | exact iI_r _) (fun h_45 => by exfalso; omega) (fun h_45 => ?_)
          refine s_aload_n 49 dX1_findCuts_48 rfl rfl ?_
          refine s_getI 52 dX1_findCuts_49 rfl fl_X1_33 (fun _ _ _ _ => rfl) sh_107 (Nat.le_of_ble_eq_true rfl) (fun r_49 => ?_)
          refine s_ldc 54 dX1_findCuts_52 rfl _ ck_X1_32 ?_
          refine s_icmp_lt 103 57 dX1_findCuts_54 rfl rfl (by first | omega | exact bI_r _ | exact iI_r _) (by first | omega | exact bI_r _ | exact iI_r _) (fun h_54 => ?_) (fun h_54 => by exfalso; omega)
          refine s_vret dX1_findCuts_103 rfl rfl ?_
          exact h I1 h4 h5 h6 z2
        · skip
          refine s_iload_n 44 dX1_findCuts_43 rfl rfl ?_
          refine s_iconst 45 dX1_findCuts_44 rfl ?_
          refine s_icmp_gt 103 48 dX1_findCuts_45 rfl rfl (by first | omega | exact bI_r _ | exact iI_r _) (by first | omega | exact bI_r _ | exact iI_r _) (fun h_45 => ?_) (fun h_45 => by exfalso; omega)
          refine s_vret dX1_findCuts_103 rfl rfl ?_
          exact h I1 h4 h5 h6 z2
  by_cases hs : I 107 6 = I 85 12
  · skip
    refine s_aload_n 1 dX1_findCuts_0 rfl rfl ?_
    refine s_getI 4 dX1_findCuts_1 rfl fl_X1_29 (fun _ _ _ _ => rfl) sh_107 (Nat.le_of_ble_eq_true rfl) (fun r_1 => ?_)
    refine s_aload_n 5 dX1_findCuts_4 rfl rfl ?_
    refine s_getR 8 dX1_findCuts_5 rfl fl_X1_36 (fun _ _ _ _ => rfl) (T_X1_night hT) sh_107 (Nat.le_of_ble_eq_true rfl) ?_
    refine s_getI 11 dX1_findCuts_8 rfl fl_X1_40 (fun _ _ _ _ => rfl) (isN_sh isN_85) (isN_lt isN_85) (fun r_8 => ?_)
    refine s_icmp_ne 15 14 dX1_findCuts_11 rfl rfl (by first | omega | exact bI_r _ | exact iI_r _) (by first | omega | exact bI_r _ | exact iI_r _) (fun h_11 => by exfalso; omega) (fun h_11 => ?_)
    refine s_vret dX1_findCuts_14 rfl rfl ?_
    exact h I Eqo.rf hs (fun _ _ _ => rfl) (hK hs)
  · skip
    refine s_aload_n 1 dX1_findCuts_0 rfl rfl ?_
    refine s_getI 4 dX1_findCuts_1 rfl fl_X1_29 (fun _ _ _ _ => rfl) sh_107 (Nat.le_of_ble_eq_true rfl) (fun r_1 => ?_)
    refine s_aload_n 5 dX1_findCuts_4 rfl rfl ?_
    refine s_getR 8 dX1_findCuts_5 rfl fl_X1_36 (fun _ _ _ _ => rfl) (T_X1_night hT) sh_107 (Nat.le_of_ble_eq_true rfl) ?_
    refine s_getI 11 dX1_findCuts_8 rfl fl_X1_40 (fun _ _ _ _ => rfl) (isN_sh isN_85) (isN_lt isN_85) (fun r_8 => ?_)
    refine s_icmp_ne 15 14 dX1_findCuts_11 rfl rfl (by first | omega | exact bI_r _ | exact iI_r _) (by first | omega | exact bI_r _ | exact iI_r _) (fun h_11 => ?_) (fun h_11 => by exfalso; omega)
    refine s_aload_n 16 dX1_findCuts_15 rfl rfl ?_
    refine s_aload_n 17 dX1_findCuts_16 rfl rfl ?_
    refine s_getR 20 dX1_findCuts_17 rfl fl_X1_36 (fun _ _ _ _ => rfl) (T_X1_night hT) sh_107 (Nat.le_of_ble_eq_true rfl) ?_
    refine s_getI 23 dX1_findCuts_20 rfl fl_X1_40 (fun _ _ _ _ => rfl) (isN_sh isN_85) (isN_lt isN_85) (fun r_20 => ?_)
    refine s_putI 26 dX1_findCuts_23 rfl fl_X1_29 (fun _ => rfl) (fun _ => rfl) (fun _ _ _ _ => rfl) sh_107 (Nat.le_of_ble_eq_true rfl) (by first | omega | exact bI_r _ | exact iI_r _) ?_
    refine s_aload_n 27 dX1_findCuts_26 rfl rfl ?_
    refine s_getR 30 dX1_findCuts_27 rfl fl_X1_26 (fun _ _ _ _ => rfl) (T_X1_leastCuts hT) sh_107 (Nat.le_of_ble_eq_true rfl) ?_
    refine s_ldc 32 dX1_findCuts_30 rfl _ ck_X1_32 ?_
    refine s_callS0 (M' := M_J7_fill_53178) (as := [_, _]) 35 dX1_findCuts_32 rfl cw_X1_53 rfl rfl (Nat.le_of_ble_eq_true rfl) (Nat.le_of_ble_eq_true rfl) (Nat.le_of_ble_eq_true rfl) ⟨rfl, rfl, rfl⟩ ?_
    refine c_fill sh_110 (by decide) (by decide) (by decide) ?_
    refine s_aload_n 36 dX1_findCuts_35 rfl rfl ?_
    refine s_ldc 38 dX1_findCuts_36 rfl _ ck_X1_32 ?_
    refine s_putI 41 dX1_findCuts_38 rfl fl_X1_33 (fun _ => rfl) (fun _ => rfl) (fun _ _ _ _ => rfl) sh_107 (Nat.le_of_ble_eq_true rfl) (by first | omega | exact bI_r _ | exact iI_r _) ?_
    refine s_iconst 42 dX1_findCuts_41 rfl ?_
    refine s_istore_n (ls' := [_, _, _]) 43 dX1_findCuts_42 rfl (Nat.le_of_ble_eq_true rfl) rfl rfl ?_
    refine loop 6 0 _ _ (by omega) (by omega) (by omega) ?_ ?_ ?_ (Or.inl ⟨ups, fun x hx hb => by have := bits_b x; omega, fun s s1 s2 => ?_, fun s s1 s2 => ?_⟩)
    · intro c hc; rw [up_ne (fun e => hc (by rw [e]; simp)), flI_n (fun e => hc (by rw [e]; simp)), up_ne (fun e => hc (by rw [e]; simp))]
    · rw [upn (by decide), flI_n (by decide), ups]
    · intro k k1 k2; rw [upn k2, flI_n (by decide), upn k1]
    · rw [up_ne (by decide)]
      exact Or.inl ⟨flI_e ⟨s1, show s < 128 by omega⟩, fun n' x a b => by omega⟩
    · rw [up_ne (by decide)]
      exact flI_e ⟨by omega, show s < 128 by omega⟩
set_option maxHeartbeats 4000000 in
theorem c_X1_fewestCuts {E : ET} {I : MI} {L : ML} {R : MR} {Q : Option AV → MI → ML → MR → Prop} {P : Nat} {r s : F1} {rd g : Int} (hT : Topo R) (hP : isP P) (hNP : R 85 1 = some P) (hr : WFr r) (hsc : Perm (r 5) s) (hg : 0 ≤ g ∧ g ≤ 99) (hW : GW3 85 P r rd g s (s 12) I) (hK : I 107 6 = I 85 12 → BstV (feP r rd g s (s 12)) (I 107 7)) (h : ∀ I', Eqo [107, 110] I I' → I' 107 6 = I 85 12 → (∀ k, k ≠ 6 → k ≠ 7 → I' 107 k = I 107 k) → BstV (feP r rd g s (s 12)) (I' 107 7) → Q (some (vi (if cutF r rd g s = -2 then -2 else bits (cutF r rd g s)))) I' L R) : CT E M_X1_fewestCuts 161 yX1_fewestCuts [(vr (107))] I L R Q := by
  refine CT_of rfl rfl (fun h => by cases h) (Nat.le_of_ble_eq_true rfl) (fun X => ?_)
  show V X _ z0 0 [some (vr (107))] [] I L R _
  refine s_aload_n 1 dX1_fewestCuts_0 rfl rfl ?_
  refine s_callV0 (M' := M_X1_findCuts) (as := []) 4 dX1_fewestCuts_1 rfl cw_X1_82 rfl rfl sh_107 rfl (by decide) (Nat.le_of_ble_eq_true rfl) (Nat.le_of_ble_eq_true rfl) (Nat.le_of_ble_eq_true rfl) (Nat.le_of_ble_eq_true rfl) ⟨rfl, rfl, rfl⟩ ?_
  refine c_X1_findCuts hT hP hNP hr hsc hg hW hK (fun I2 g1 g2 g3 g4 => ?_)
  have hh := h I2 g1 g2 g3 g4
  have bc := bst_cut hr g4
  have bb := bits_b (cutF r rd g s)
  refine s_aload_n 5 dX1_fewestCuts_4 rfl rfl ?_
  refine s_getI 8 dX1_fewestCuts_5 rfl fl_X1_33 (fun _ _ _ _ => rfl) sh_107 (Nat.le_of_ble_eq_true rfl) (fun r_5 => ?_)
  refine s_ldc 10 dX1_fewestCuts_8 rfl _ ck_X1_32 ?_
  refine s_icmp_lt 18 13 dX1_fewestCuts_10 rfl rfl (by first | omega | exact bI_r _ | exact iI_r _) (by first | omega | exact bI_r _ | exact iI_r _) (fun h_10 => ?_) (fun h_10 => ?_)
  · skip
    refine s_aload_n 19 dX1_fewestCuts_18 rfl rfl ?_
    refine s_getI 22 dX1_fewestCuts_19 rfl fl_X1_33 (fun _ _ _ _ => rfl) sh_107 (Nat.le_of_ble_eq_true rfl) (fun r_19 => ?_)
    refine s_sipush 25 dX1_fewestCuts_22 rfl (by decide) ?_
    refine s_idiv 26 dX1_fewestCuts_25 rfl (by first | omega | exact bI_r _ | exact iI_r _) (by omega) ?_
    refine s_iret dX1_fewestCuts_26 rfl rfl ?_
    first | (rcases bc with ⟨a, b⟩ | ⟨a, b1, b2, b3⟩; (rw [if_pos b] at hh; exact hh); (exfalso; omega)) | (rcases bc with ⟨a, b⟩ | ⟨a, b1, b2, b3⟩; (exfalso; omega); (rw [if_neg (by omega)] at hh; rw [idiv_v (by omega) (by omega), show I2 107 7 / 16384 = bits (cutF r rd g s) by omega]; exact hh))
  refine s_bipush 15 dX1_fewestCuts_13 rfl (by decide) ?_
  refine s_goto 26 dX1_fewestCuts_15 rfl ?_
  refine s_iret dX1_fewestCuts_26 rfl rfl ?_
  first | (rcases bc with ⟨a, b⟩ | ⟨a, b1, b2, b3⟩; (rw [if_pos b] at hh; exact hh); (exfalso; omega)) | (rcases bc with ⟨a, b⟩ | ⟨a, b1, b2, b3⟩; (exfalso; omega); (rw [if_neg (by omega)] at hh; rw [idiv_v (by omega) (by omega), show I2 107 7 / 16384 = bits (cutF r rd g s) by omega]; exact hh))
set_option maxHeartbeats 4000000 in
theorem c_X1_cutBits {E : ET} {I : MI} {L : ML} {R : MR} {Q : Option AV → MI → ML → MR → Prop} {P : Nat} {r s : F1} {rd g : Int} (hT : Topo R) (hP : isP P) (hNP : R 85 1 = some P) (hr : WFr r) (hsc : Perm (r 5) s) (hg : 0 ≤ g ∧ g ≤ 99) (hW : GW3 85 P r rd g s (s 12) I) (hK : I 107 6 = I 85 12 → BstV (feP r rd g s (s 12)) (I 107 7)) (h : ∀ I', Eqo [107, 110] I I' → I' 107 6 = I 85 12 → (∀ k, k ≠ 6 → k ≠ 7 → I' 107 k = I 107 k) → BstV (feP r rd g s (s 12)) (I' 107 7) → Q (some (vi (cutF r rd g s))) I' L R) : CT E M_X1_cutBits 161 yX1_cutBits [(vr (107))] I L R Q := by
  refine CT_of rfl rfl (fun h => by cases h) (Nat.le_of_ble_eq_true rfl) (fun X => ?_)
  show V X _ z0 0 [some (vr (107))] [] I L R _
  refine s_aload_n 1 dX1_cutBits_0 rfl rfl ?_
  refine s_callV0 (M' := M_X1_findCuts) (as := []) 4 dX1_cutBits_1 rfl cw_X1_82 rfl rfl sh_107 rfl (by decide) (Nat.le_of_ble_eq_true rfl) (Nat.le_of_ble_eq_true rfl) (Nat.le_of_ble_eq_true rfl) (Nat.le_of_ble_eq_true rfl) ⟨rfl, rfl, rfl⟩ ?_
  refine c_X1_findCuts hT hP hNP hr hsc hg hW hK (fun I2 g1 g2 g3 g4 => ?_)
  have hh := h I2 g1 g2 g3 g4
  have bc := bst_cut hr g4
  have bb := bits_b (cutF r rd g s)
  refine s_aload_n 5 dX1_cutBits_4 rfl rfl ?_
  refine s_getI 8 dX1_cutBits_5 rfl fl_X1_33 (fun _ _ _ _ => rfl) sh_107 (Nat.le_of_ble_eq_true rfl) (fun r_5 => ?_)
  refine s_ldc 10 dX1_cutBits_8 rfl _ ck_X1_32 ?_
  refine s_icmp_lt 18 13 dX1_cutBits_10 rfl rfl (by first | omega | exact bI_r _ | exact iI_r _) (by first | omega | exact bI_r _ | exact iI_r _) (fun h_10 => ?_) (fun h_10 => ?_)
  · skip
    refine s_aload_n 19 dX1_cutBits_18 rfl rfl ?_
    refine s_getI 22 dX1_cutBits_19 rfl fl_X1_33 (fun _ _ _ _ => rfl) sh_107 (Nat.le_of_ble_eq_true rfl) (fun r_19 => ?_)
    refine s_sipush 25 dX1_cutBits_22 rfl (by decide) ?_
    refine s_irem 26 dX1_cutBits_25 rfl (by first | omega | exact bI_r _ | exact iI_r _) (by omega) ?_
    refine s_iret dX1_cutBits_26 rfl rfl ?_
    first | (rcases bc with ⟨a, b⟩ | ⟨a, b1, b2, b3⟩; (rw [b] at hh; exact hh); (exfalso; omega)) | (rcases bc with ⟨a, b⟩ | ⟨a, b1, b2, b3⟩; (exfalso; omega); (rw [irem_v (by omega) (by omega), show I2 107 7 % 16384 = cutF r rd g s by omega]; exact hh))
  refine s_bipush 15 dX1_cutBits_13 rfl (by decide) ?_
  refine s_goto 26 dX1_cutBits_15 rfl ?_
  refine s_iret dX1_cutBits_26 rfl rfl ?_
  first | (rcases bc with ⟨a, b⟩ | ⟨a, b1, b2, b3⟩; (rw [b] at hh; exact hh); (exfalso; omega)) | (rcases bc with ⟨a, b⟩ | ⟨a, b1, b2, b3⟩; (exfalso; omega); (rw [irem_v (by omega) (by omega), show I2 107 7 % 16384 = cutF r rd g s by omega]; exact hh))
