/-! must, betrayed, same, by the reference -/
theorem one_low : ∀ s : Int, 0 < s → s ≤ 127 → ∀ k j : Int, 0 ≤ k → k < 7 → 0 ≤ j → j < 7 → hasI (lowI s) k → hasI (lowI s) j → k = j := by
  intro s a b k j c d e f
  have h : ∀ s : Fin 128, ∀ k j : Fin 7, hasI (lowI (s.val : Nat)) (k.val : Nat) → hasI (lowI (s.val : Nat)) (j.val : Nat) → k = j ∨ s = 0 := by decide +kernel
  intro g1 g2
  have h1 := h ⟨s.toNat, by omega⟩ ⟨k.toNat, by omega⟩ ⟨j.toNat, by omega⟩
  simp only [] at h1
  rw [show ((s.toNat : Nat) : Int) = s by omega, show ((k.toNat : Nat) : Int) = k by omega, show ((j.toNat : Nat) : Int) = j by omega] at h1
  rcases h1 g1 g2 with z | z
  · have := Fin.val_eq_of_eq z
    simp at this
    omega
  · have := Fin.val_eq_of_eq z
    simp at this
    omega
theorem seen_one {r : F1} (hr : WFr r) {s : Int} (a : 0 < s) (b : s ≤ 127) (_ : True) : SeenP r (lowI s) := by
  have e0 := hr.1
  intro w v w1 w2 v1 v2 hw hv he _
  have := one_low s a b w v w1 (by omega) v1 (by omega) hw hv
  subst this
  exact absurd he ErP.ir
theorem one_spl {G : Int → Prop} (h : ∀ s, 0 < s → s ≤ 127 → True → G (lowI s)) : ∀ (n : Nat) (s : Int), 0 ≤ s ∧ s ≤ 127 → s ≤ n → ∃ m, Spl G m s
  | 0, s, hs, hn => ⟨0, show s = 0 by omega⟩
  | n + 1, s, hs, hn => by
    by_cases z : s = 0
    · exact ⟨0, z⟩
    · have hl := low_ok (s := s) (by omega)
      have hx := sub_next hs (o := lowI s) (by omega) hl.2.2.1
      obtain ⟨m, hm⟩ := one_spl h n (andN s (lowI s)) (by omega) (by omega)
      refine ⟨m + 1, Or.inr ⟨lowI s, hl.1, by omega, hl.2.2.1, ?_, h s (by omega) hs.2 trivial, hm⟩⟩
      have : iand (lowI s) (lowI s) = lowI s := chk_self (s := lowI s) (by omega)
      omega
set_option maxHeartbeats 4000000 in
theorem c_X12_must {E : ET} {I : MI} {L : ML} {R : MR} {Q : Option AV → MI → ML → MR → Prop} {r s : F1} {HP : Prop} (hT : Topo R) (er : I 141 = r) (erd : I 138 30 = -1) (ehp : I 138 14 = bI HP) (hr : HP → WFr r) (h : ∀ I', Eqo MS (gd I (pick HP 0 1)) I' → Q (some (vi (pick HP (splV (SeenP r) (allF (r 8))) (-1)))) I' L R) : CT E M_X12_must_ 161 yX12_must_ [(vr (138))] I L R Q := by
  refine CT_of rfl rfl (fun h => by cases h) (Nat.le_of_ble_eq_true rfl) (fun X => ?_)
  show V X _ z0 0 [some (vr (138)), none, none, none, none] [] I L R _
  obtain ⟨G, eG⟩ : ∃ G, G = SeenP r := ⟨_, rfl⟩
  obtain ⟨A, eA⟩ : ∃ A, A = allF (r 8) := ⟨_, rfl⟩
  rw [← eG, ← eA] at h
  have loop : HP → 0 ≤ A ∧ A ≤ 127 → ∀ (f : Nat) (s : Int) (w3 w4 : Option AV) (I1 : MI), A + 1 - s < (f : Int) → 1 ≤ s → s ≤ A + 1 → Eqo MS (gd I 0) I1 → (∀ x, 0 ≤ x → x < s → CovV G x (I1 154 x)) →
      V X M_X12_must_ z0 38 [some (vr 138), some (vi A), some (vi s), w3, w4] [] I1 L R (RT X M_X12_must_ Q) := by
    intro hP hA f
    have hr := hr hP
    have e0 := hr.1
    rw [pick_t hP, pick_t hP] at h
    induction f with
    | zero => intro s w3 w4 I1 h1 h2 h3; omega
    | succ f ih =>
      intro s w3 w4 I1 h1 h2 h3 h4 h5
      have inn : ∀ (f2 : Nat) (o : Int) (I1 : MI), o < (f2 : Int) → 0 ≤ o → o ≤ s → s ≤ A → sub o s → Eqo MS (gd I 0) I1 → (∀ x, 0 ≤ x → x < s → CovV G x (I1 154 x)) → PC (fun x => o < x) G s (I1 154 s) →
          V X M_X12_must_ z0 60 [some (vr (138)), some (vi (A)), some (vi (s)), some (vi (lowI s)), some (vi (o))] [] (I1) L R (RT X M_X12_must_ Q) := by
        intro f2
        induction f2 with
        | zero => intro o I1 k1 k2; omega
        | succ f2 ih2 =>
          intro o I1 k1 k2 k3 k4 k5 k6 k7 k8
          by_cases ho : o = 0
          · subst ho
            refine s_iload 62 dX12_must__60 rfl rfl ?_
            refine s_if_le 133 65 dX12_must__62 rfl rfl (by first | omega | exact bI_r _ | exact iI_r _) (fun h_62 => ?_) (fun h_62 => by exfalso; omega)
            refine s_iinc (ls' := [_, _, _, _, _]) 136 dX12_must__133 rfl rfl (Nat.le_of_ble_eq_true rfl) rfl rfl ?_
            refine s_goto 38 dX12_must__136 rfl ?_
            refine ih (s + 1) _ _ I1 (by omega) (by omega) (by omega) k6 (fun x a b => ?_)
            by_cases ex : x = s
            · rw [ex]; exact k8.fin (by omega)
            · exact k7 x a (by omega)
          · obtain ⟨n1, n2, n3, n4, n5, n6, n7⟩ := sub_next (s := s) (o := o) (by omega) (by omega) k5
            have er1 : I1 141 = r := (k6 141 (by decide)).trans ((gd_n (by decide)).trans er)
            have erd1 : I1 138 30 = -1 := (congrFun (k6 138 (by decide)) 30).trans ((gd_f (by decide)).trans erd)
            have hd := k7 (andN s o) n5 n4
            have hir := iand_r o (lowI s)
            have b94 : ∀ (I2 : MI), Eqo MS (gd I 0) I2 → (∀ x, 0 ≤ x → x < s → CovV G x (I2 154 x)) → PC (fun x => o ≤ x) G s (I2 154 s) → V X M_X12_must_ z0 122 [some (vr (138)), some (vi (A)), some (vi (s)), some (vi (lowI s)), some (vi (o))] [] (I2) L R (RT X M_X12_must_ Q) := by
              intro I2 j1 j2 j3
              refine s_iload 124 dX12_must__122 rfl rfl ?_
              refine s_iconst 125 dX12_must__124 rfl ?_
              refine s_isub 126 dX12_must__125 rfl ?_
              refine s_iload_n 127 dX12_must__126 rfl rfl ?_
              refine s_iand 128 dX12_must__127 rfl ?_
              refine s_istore (ls' := [_, _, _, _, _]) 130 dX12_must__128 rfl (Nat.le_of_ble_eq_true rfl) rfl rfl ?_
              refine s_goto 60 dX12_must__130 rfl ?_
              refine ih2 _ I2 (by omega) n1 (by omega) k4 n3 j1 j2 (j3.mo (fun x hx => ⟨fun z => ?_, fun z => ?_⟩))
              · apply Classical.byContradiction
                intro q
                have := n7 x (by have := hx.1; omega) (by omega) hx.2.1
                omega
              · omega
            have kb : ∀ x, (o ≤ x ↔ (o < x ∨ x = o)) := fun x => by omega
            have hdn : I1 154 (iand s (ixor o (-1))) = I1 154 (andN s o) := rfl
            have hdb : 0 ≤ I1 154 (andN s o) ∧ I1 154 (andN s o) ≤ 1000000 := by rcases hd with ⟨a, b⟩ | ⟨a, b, _⟩ <;> omega
            have ho8 : 0 ≤ o ∧ o < 2 ^ (r 8).toNat := by
              have := allF_v (n := r 8) (by omega)
              omega
            have n94 : iand o (lowI s) ≠ 0 → G o → I1 154 (andN s o) + 1 < I1 154 s → V X M_X12_must_ z0 122 [some (vr (138)), some (vi (A)), some (vi (s)), some (vi (lowI s)), some (vi (o))] [] (up I1 154 s (I1 154 (andN s o) + 1)) L R (RT X M_X12_must_ Q) := by
              intro j1 j2 j3
              have hB : Blk G s o := ⟨by omega, k5, j1, j2⟩
              refine b94 _ (k6.st (by decide)) (fun x a b => ?_) ?_
              · rw [upn (by omega)]; exact k7 x a b
              · rw [ups]; exact k8.new kb hB hd ⟨n4, by omega⟩ j3
            refine s_iload 62 dX12_must__60 rfl rfl ?_
            refine s_if_le 133 65 dX12_must__62 rfl rfl (by first | omega | exact bI_r _ | exact iI_r _) (fun h_62 => by exfalso; omega) (fun h_62 => ?_)
            refine s_iload 67 dX12_must__65 rfl rfl ?_
            refine s_iload_n 68 dX12_must__67 rfl rfl ?_
            refine s_iand 69 dX12_must__68 rfl ?_
            refine s_if_eq 122 72 dX12_must__69 rfl rfl (by first | omega | exact bI_r _ | exact iI_r _) (fun h_69 => ?_) (fun h_69 => ?_)
            · skip
              first | exact b94 I1 k6 k7 (k8.skip kb (fun z => z.2.2.1 (by assumption))) | exact b94 I1 k6 k7 (k8.skip kb (fun z => absurd z.2.2.2 (by assumption))) | exact b94 I1 k6 k7 (k8.keep kb hd ⟨n4, by omega⟩ (by omega)) | exact n94 (by assumption) (by assumption) (by omega)
            refine s_aload_n 73 dX12_must__72 rfl rfl ?_
            refine s_iload 75 dX12_must__73 rfl rfl ?_
            refine s_callV0 (M' := M_X12_canBeAll) (as := [_]) 78 dX12_must__75 rfl cw_X12_417 rfl rfl sh_138 rfl (by decide) (Nat.le_of_ble_eq_true rfl) (Nat.le_of_ble_eq_true rfl) (Nat.le_of_ble_eq_true rfl) (Nat.le_of_ble_eq_true rfl) ⟨rfl, rfl, rfl⟩ ?_
            refine c_X12_canBeAll hT er1 erd1 hr ho8 ?_
            rw [← eG]
            refine s_ifb_eq 122 81 dX12_must__78 rfl rfl (fun h_78 => ?_) (fun h_78 => ?_)
            · skip
              first | exact b94 I1 k6 k7 (k8.skip kb (fun z => z.2.2.1 (by assumption))) | exact b94 I1 k6 k7 (k8.skip kb (fun z => absurd z.2.2.2 (by assumption))) | exact b94 I1 k6 k7 (k8.keep kb hd ⟨n4, by omega⟩ (by omega)) | exact n94 (by assumption) (by assumption) (by omega)
            refine s_aload_n 82 dX12_must__81 rfl rfl ?_
            refine s_getR 85 dX12_must__82 rfl fl_X12_63 (fun _ _ _ _ => rfl) (T_X12_covers hT) sh_138 (Nat.le_of_ble_eq_true rfl) ?_
            refine s_iload_n 86 dX12_must__85 rfl rfl ?_
            refine s_iload 88 dX12_must__86 rfl rfl ?_
            refine s_iconst 89 dX12_must__88 rfl ?_
            refine s_ixor 90 dX12_must__89 rfl ?_
            refine s_iand 91 dX12_must__90 rfl ?_
            refine s_iald 92 dX12_must__91 rfl sh_154 (Nat.le_of_ble_eq_true rfl) ⟨by first | omega | exact n5, by first | omega | exact (Int.lt_of_lt_of_le n4 (by omega))⟩ (by omega) (fun r_91 => ?_)
            rw [show I1 154 (iand s (ixor o (-1))) = I1 154 (andN s o) from rfl] at r_91 ⊢
            refine s_iconst 93 dX12_must__92 rfl ?_
            refine s_iadd 94 dX12_must__93 rfl ?_
            refine s_aload_n 95 dX12_must__94 rfl rfl ?_
            refine s_getR 98 dX12_must__95 rfl fl_X12_63 (fun _ _ _ _ => rfl) (T_X12_covers hT) sh_138 (Nat.le_of_ble_eq_true rfl) ?_
            refine s_iload_n 99 dX12_must__98 rfl rfl ?_
            refine s_iald 100 dX12_must__99 rfl sh_154 (Nat.le_of_ble_eq_true rfl) ⟨by first | omega | exact n5, by first | omega | exact (Int.lt_of_lt_of_le n4 (by omega))⟩ (by omega) (fun r_99 => ?_)
            refine s_icmp_ge 122 103 dX12_must__100 rfl rfl (by first | omega | exact bI_r _ | exact iI_r _) (by first | omega | exact bI_r _ | exact iI_r _) (fun h_100 => ?_) (fun h_100 => ?_)
            · skip
              first | exact b94 I1 k6 k7 (k8.skip kb (fun z => z.2.2.1 (by assumption))) | exact b94 I1 k6 k7 (k8.skip kb (fun z => absurd z.2.2.2 (by assumption))) | exact b94 I1 k6 k7 (k8.keep kb hd ⟨n4, by omega⟩ (by omega)) | exact n94 (by assumption) (by assumption) (by omega)
            refine s_aload_n 104 dX12_must__103 rfl rfl ?_
            refine s_getR 107 dX12_must__104 rfl fl_X12_63 (fun _ _ _ _ => rfl) (T_X12_covers hT) sh_138 (Nat.le_of_ble_eq_true rfl) ?_
            refine s_iload_n 108 dX12_must__107 rfl rfl ?_
            refine s_aload_n 109 dX12_must__108 rfl rfl ?_
            refine s_getR 112 dX12_must__109 rfl fl_X12_63 (fun _ _ _ _ => rfl) (T_X12_covers hT) sh_138 (Nat.le_of_ble_eq_true rfl) ?_
            refine s_iload_n 113 dX12_must__112 rfl rfl ?_
            refine s_iload 115 dX12_must__113 rfl rfl ?_
            refine s_iconst 116 dX12_must__115 rfl ?_
            refine s_ixor 117 dX12_must__116 rfl ?_
            refine s_iand 118 dX12_must__117 rfl ?_
            refine s_iald 119 dX12_must__118 rfl sh_154 (Nat.le_of_ble_eq_true rfl) ⟨by first | omega | exact n5, by first | omega | exact (Int.lt_of_lt_of_le n4 (by omega))⟩ (by omega) (fun r_118 => ?_)
            rw [show I1 154 (iand s (ixor o (-1))) = I1 154 (andN s o) from rfl] at r_118 ⊢
            refine s_iconst 120 dX12_must__119 rfl ?_
            refine s_iadd 121 dX12_must__120 rfl ?_
            refine s_iast 122 dX12_must__121 rfl sh_154 (Nat.le_of_ble_eq_true rfl) ⟨by first | omega | exact n5, by first | omega | exact (Int.lt_of_lt_of_le n4 (by omega))⟩ (by omega) (by first | omega | exact bI_r _ | exact iI_r _) ?_
            first | exact b94 I1 k6 k7 (k8.skip kb (fun z => z.2.2.1 (by assumption))) | exact b94 I1 k6 k7 (k8.skip kb (fun z => absurd z.2.2.2 (by assumption))) | exact b94 I1 k6 k7 (k8.keep kb hd ⟨n4, by omega⟩ (by omega)) | exact n94 (by assumption) (by assumption) (by omega)
      have fin : s = A + 1 → ∀ w3 w4, V X M_X12_must_ z0 139 [some (vr 138), some (vi A), some (vi s), w3, w4] [] I1 L R (RT X M_X12_must_ Q) := by
        intro es w3 w4
        have hC := h5 A (by omega) (by omega)
        have hE := (hC.spl (by omega)).v
        have hex := one_spl (G := G) (fun o a b c => by rw [eG]; exact seen_one hr a b c) A.toNat A hA (by omega)
        have hne : I1 154 A < 1000000 := by
          rcases hC with ⟨a, b⟩ | ⟨a, b, _⟩
          · obtain ⟨m, hm⟩ := hex
            exact absurd hm (b m)
          · omega
        rw [if_neg (by omega)] at hE
        refine s_aload_n 140 dX12_must__139 rfl rfl ?_
        refine s_getR 143 dX12_must__140 rfl fl_X12_63 (fun _ _ _ _ => rfl) (T_X12_covers hT) sh_138 (Nat.le_of_ble_eq_true rfl) ?_
        refine s_iload_n 144 dX12_must__143 rfl rfl ?_
        refine s_iald 145 dX12_must__144 rfl sh_154 (Nat.le_of_ble_eq_true rfl) (by omega) (by omega) (fun r_144 => ?_)
        refine s_iret dX12_must__145 rfl rfl ?_
        rw [← hE]; exact h I1 h4
      refine s_iload_n 39 dX12_must__38 rfl rfl ?_
      refine s_iload_n 40 dX12_must__39 rfl rfl ?_
      refine s_icmp_gt 139 43 dX12_must__40 rfl rfl (by first | omega | exact bI_r _ | exact iI_r _) (by first | omega | exact bI_r _ | exact iI_r _) (fun h_40 => ?_) (fun h_40 => ?_)
      · skip
        exact fin (by omega) _ _
      skip
      have hlow := low_ok (s := s) (by omega)
      refine s_aload_n 44 dX12_must__43 rfl rfl ?_
      refine s_getR 47 dX12_must__44 rfl fl_X12_63 (fun _ _ _ _ => rfl) (T_X12_covers hT) sh_138 (Nat.le_of_ble_eq_true rfl) ?_
      refine s_iload_n 48 dX12_must__47 rfl rfl ?_
      refine s_ldcw 51 dX12_must__48 rfl _ ck_X12_385 ?_
      refine s_iast 52 dX12_must__51 rfl sh_154 (Nat.le_of_ble_eq_true rfl) (by omega) (by omega) (by first | omega | exact bI_r _ | exact iI_r _) ?_
      refine s_iload_n 53 dX12_must__52 rfl rfl ?_
      refine s_iload_n 54 dX12_must__53 rfl rfl ?_
      refine s_ineg 55 dX12_must__54 rfl ?_
      refine s_iand 56 dX12_must__55 rfl ?_
      refine s_istore_n (ls' := [_, _, _, _, _]) 57 dX12_must__56 rfl (Nat.le_of_ble_eq_true rfl) rfl rfl ?_
      refine s_iload_n 58 dX12_must__57 rfl rfl ?_
      refine s_istore (ls' := [_, _, _, _, _]) 60 dX12_must__58 rfl (Nat.le_of_ble_eq_true rfl) rfl rfl ?_
      refine inn (s + 1).toNat s _ (by omega) (by omega) (by omega) (by omega) (chk_self (by omega)) (h4.st (by decide)) (fun x a b => ?_) ?_
      · rw [upn (by omega)]; exact h5 x a b
      · rw [ups]; exact Or.inl ⟨rfl, fun o z hb => absurd (sub_le (by omega) hb.2.1) (by omega)⟩
  refine s_aload_n 1 dX12_must__0 rfl rfl ?_
  refine s_callV0 (M' := M_X12_good) (as := []) 4 dX12_must__1 rfl cw_X12_190 rfl rfl sh_138 rfl (by decide) (Nat.le_of_ble_eq_true rfl) (Nat.le_of_ble_eq_true rfl) (Nat.le_of_ble_eq_true rfl) (Nat.le_of_ble_eq_true rfl) ⟨rfl, rfl, rfl⟩ ?_
  refine c_X12_good ?_
  refine s_aload_n 5 dX12_must__4 rfl rfl ?_
  refine s_getI 8 dX12_must__5 rfl fl_X12_203 (fun _ _ _ _ => rfl) sh_138 (Nat.le_of_ble_eq_true rfl) (fun r_5 => ?_)
  rw [show up (up I 138 0 0) 138 11 0 138 14 = bI HP from (gd_f (by decide)).trans ehp]
  refine s_ifb_ne 17 11 dX12_must__8 rfl rfl (fun h_8 => ?_) (fun h_8 => ?_)
  · skip
    refine s_iconst 18 dX12_must__17 rfl ?_
    refine s_aload_n 19 dX12_must__18 rfl rfl ?_
    refine s_getR 22 dX12_must__19 rfl fl_X12_20 (fun _ _ _ _ => rfl) (T_X12_r hT) sh_138 (Nat.le_of_ble_eq_true rfl) ?_
    refine s_bipush 24 dX12_must__22 rfl (by decide) ?_
    refine s_iald 25 dX12_must__24 rfl sh_141 (Nat.le_of_ble_eq_true rfl) (by omega) (by omega) (fun r_24 => ?_)
    rw [show up (up I 138 0 0) 138 11 0 141 = r from (gd_n (by decide)).trans er] at r_24 ⊢
    refine s_ishl 26 dX12_must__25 rfl ?_
    refine s_iconst 27 dX12_must__26 rfl ?_
    refine s_isub 28 dX12_must__27 rfl ?_
    refine s_istore_n (ls' := [_, _, _, _, _]) 29 dX12_must__28 rfl (Nat.le_of_ble_eq_true rfl) rfl rfl ?_
    refine s_aload_n 30 dX12_must__29 rfl rfl ?_
    refine s_getR 33 dX12_must__30 rfl fl_X12_63 (fun _ _ _ _ => rfl) (T_X12_covers hT) sh_138 (Nat.le_of_ble_eq_true rfl) ?_
    refine s_iconst 34 dX12_must__33 rfl ?_
    refine s_iconst 35 dX12_must__34 rfl ?_
    refine s_iast 36 dX12_must__35 rfl sh_154 (Nat.le_of_ble_eq_true rfl) (by omega) (by omega) (by first | omega | exact bI_r _ | exact iI_r _) ?_
    refine s_iconst 37 dX12_must__36 rfl ?_
    refine s_istore_n (ls' := [_, _, _, _, _]) 38 dX12_must__37 rfl (Nat.le_of_ble_eq_true rfl) rfl rfl ?_
    have e0 := (hr (by assumption)).1
    have h7 := allF_7 (n := r 8) (by omega)
    rw [show ishl 1 (r 8) - 1 = A from eA.symm]
    refine loop (by assumption) (by omega) (A + 2).toNat 1 none none _ (by omega) (by omega) (by omega) (Eqo.st (I := gd I 0) (I' := gd I 0) Eqo.rf (by decide)) (fun x a b => ?_)
    rw [show x = 0 by omega, ups]
    exact Or.inr ⟨by omega, by omega, rfl, fun m hm => by omega⟩
  refine s_aload_n 12 dX12_must__11 rfl rfl ?_
  refine s_iconst 13 dX12_must__12 rfl ?_
  refine s_callV0 (M' := M_X12_no) (as := [_]) 16 dX12_must__13 rfl cw_X12_193 rfl rfl sh_138 rfl (by decide) (Nat.le_of_ble_eq_true rfl) (Nat.le_of_ble_eq_true rfl) (Nat.le_of_ble_eq_true rfl) (Nat.le_of_ble_eq_true rfl) ⟨rfl, rfl, rfl⟩ ?_
  refine c_X12_no (by decide) ?_
  rw [show up (up (up I 138 0 0) 138 11 0) 138 11 1 = gd I 1 from gd_no]
  refine s_iret dX12_must__16 rfl rfl ?_
  rw [pick_f (by assumption), pick_f (by assumption)] at h
  exact h _ Eqo.rf
def BetV (r : F1) (x : Int) : Prop := (x = -2 ∧ ∀ w v, 0 ≤ w → w < v → v < r 8 → BoP r w v) ∨ ∃ w v, 0 ≤ w ∧ w < v ∧ v < r 8 ∧ x = 8 * w + v ∧ ¬ BoP r w v ∧ ∀ w' v', 0 ≤ w' → w' < v' → v' < r 8 → (w' < w ∨ (w' = w ∧ v' < v)) → BoP r w' v'
theorem BetV.uq {r : F1} {x y : Int} (h : BetV r x) (h' : BetV r y) : x = y := by
  rcases h with ⟨a, b⟩ | ⟨w, v, a, b, c, d, e, g⟩ <;> rcases h' with ⟨a', b'⟩ | ⟨w', v', a', b', c', d', e', g'⟩
  · omega
  · exact absurd (b w' v' a' b' c') e'
  · exact absurd (b' w v a b c) e
  · by_cases z : w = w' ∧ v = v'
    · omega
    · by_cases z1 : w < w' ∨ (w = w' ∧ v < v')
      · exact absurd (g' w v a b c z1) e
      · exact absurd (g w' v' a' b' c' (by omega)) e'
noncomputable def betF (r : F1) : Int := Classical.epsilon (BetV r)
theorem BetV.v {r : F1} {v : Int} (h : BetV r v) : betF r = v := (Classical.epsilon_spec (p := BetV r) ⟨v, h⟩).uq h
set_option maxHeartbeats 4000000 in
theorem c_X12_betrayed {E : ET} {I : MI} {L : ML} {R : MR} {Q : Option AV → MI → ML → MR → Prop} {r : F1} {HP : Prop} (hT : Topo R) (er : I 141 = r) (erd : I 138 30 = -1) (ehp : I 138 14 = bI HP) (hr : HP → WFr r) (h : ∀ I', Eqo MS (gd I (pick HP 0 1)) I' → Q (some (vi (pick HP (betF r) (-1)))) I' L R) : CT E M_X12_betrayed 161 yX12_betrayed [(vr (138))] I L R Q := by
  refine CT_of rfl rfl (fun h => by cases h) (Nat.le_of_ble_eq_true rfl) (fun X => ?_)
  show V X _ z0 0 [some (vr (138)), none, none] [] I L R _
  have er1 : gd I 0 141 = r := (gd_n (by decide)).trans er
  have erd1 : gd I 0 138 30 = -1 := (gd_f (by decide)).trans erd
  have loop : HP → ∀ (f : Nat) (w : Int) (w2 : Option AV), r 8 - w < (f : Int) → 0 ≤ w → w ≤ r 8 → (∀ x y, 0 ≤ x → x < y → y < r 8 → x < w → BoP r x y) → V X M_X12_betrayed z0 19 [some (vr 138), some (vi w), w2] [] (gd I 0) L R (RT X M_X12_betrayed Q) := by
    intro hP f
    have hr := hr hP
    have e0 := hr.1
    rw [pick_t hP, pick_t hP] at h
    induction f with
    | zero => intro w w2 h1 h2 h3; omega
    | succ f ih =>
      intro w w2 h1 h2 h3 h4
      have inn : ∀ (g : Nat) (v : Int), r 8 - v < (g : Int) → w < v → v ≤ r 8 → (∀ y, w < y → y < v → BoP r w y) → V X M_X12_betrayed z0 34 [some (vr (138)), some (vi (w)), some (vi (v))] [] (gd I 0) L R (RT X M_X12_betrayed Q) := by
        intro g
        induction g with
        | zero => intro v k1 k2 k3; omega
        | succ g ih2 =>
          intro v k1 k2 k3 k4
          refine s_iload_n 35 dX12_betrayed_34 rfl rfl ?_
          refine s_aload_n 36 dX12_betrayed_35 rfl rfl ?_
          refine s_getR 39 dX12_betrayed_36 rfl fl_X12_20 (fun _ _ _ _ => rfl) (T_X12_r hT) sh_138 (Nat.le_of_ble_eq_true rfl) ?_
          refine s_bipush 41 dX12_betrayed_39 rfl (by decide) ?_
          refine s_iald 42 dX12_betrayed_41 rfl sh_141 (Nat.le_of_ble_eq_true rfl) (by omega) (by omega) (fun r_41 => ?_)
          rw [er1] at r_41 ⊢
          refine s_icmp_ge 67 45 dX12_betrayed_42 rfl rfl (by first | omega | exact bI_r _ | exact iI_r _) (by first | omega | exact bI_r _ | exact iI_r _) (fun h_42 => ?_) (fun h_42 => ?_)
          · skip
            refine s_iinc (ls' := [_, _, _]) 70 dX12_betrayed_67 rfl rfl (Nat.le_of_ble_eq_true rfl) rfl rfl ?_
            refine s_goto 19 dX12_betrayed_70 rfl ?_
            refine ih (w + 1) _ (by omega) (by omega) (by omega) (fun x y a b c d => ?_)
            by_cases ex : x = w
            · rw [ex]; exact k4 y (by omega) (by omega)
            · exact h4 x y a b c (by omega)
          refine s_aload_n 46 dX12_betrayed_45 rfl rfl ?_
          refine s_iload_n 47 dX12_betrayed_46 rfl rfl ?_
          refine s_iload_n 48 dX12_betrayed_47 rfl rfl ?_
          refine s_callV0 (M' := M_X12_canBeBoth) (as := [_, _]) 51 dX12_betrayed_48 rfl cw_X12_414 rfl rfl sh_138 rfl (by decide) (Nat.le_of_ble_eq_true rfl) (Nat.le_of_ble_eq_true rfl) (Nat.le_of_ble_eq_true rfl) (Nat.le_of_ble_eq_true rfl) ⟨rfl, rfl, rfl⟩ ?_
          refine c_X12_canBeBoth hT er1 erd1 hr (by omega) (by omega) ?_
          refine s_ifb_ne 61 54 dX12_betrayed_51 rfl rfl (fun h_51 => ?_) (fun h_51 => ?_)
          · skip
            refine s_iinc (ls' := [_, _, _]) 64 dX12_betrayed_61 rfl rfl (Nat.le_of_ble_eq_true rfl) rfl rfl ?_
            refine s_goto 34 dX12_betrayed_64 rfl ?_
            refine ih2 (v + 1) (by omega) (by omega) (by omega) (fun y a b => ?_)
            by_cases ey : y = v
            · rw [ey]; assumption
            · exact k4 y a (by omega)
          refine s_bipush 56 dX12_betrayed_54 rfl (by decide) ?_
          refine s_iload_n 57 dX12_betrayed_56 rfl rfl ?_
          refine s_imul 58 dX12_betrayed_57 rfl ?_
          refine s_iload_n 59 dX12_betrayed_58 rfl rfl ?_
          refine s_iadd 60 dX12_betrayed_59 rfl ?_
          refine s_iret dX12_betrayed_60 rfl rfl ?_
          have hB : BetV r (8 * w + v) := Or.inr ⟨w, v, h2, k2, by omega, rfl, by assumption, fun x y a b c d => ?_⟩
          · rw [← hB.v]; exact h _ Eqo.rf
          · rcases d with d | d
            · exact h4 x y a b c d
            · rw [d.1]; exact k4 y (by omega) d.2
      refine s_iload_n 20 dX12_betrayed_19 rfl rfl ?_
      refine s_aload_n 21 dX12_betrayed_20 rfl rfl ?_
      refine s_getR 24 dX12_betrayed_21 rfl fl_X12_20 (fun _ _ _ _ => rfl) (T_X12_r hT) sh_138 (Nat.le_of_ble_eq_true rfl) ?_
      refine s_bipush 26 dX12_betrayed_24 rfl (by decide) ?_
      refine s_iald 27 dX12_betrayed_26 rfl sh_141 (Nat.le_of_ble_eq_true rfl) (by omega) (by omega) (fun r_26 => ?_)
      rw [er1] at r_26 ⊢
      refine s_icmp_ge 73 30 dX12_betrayed_27 rfl rfl (by first | omega | exact bI_r _ | exact iI_r _) (by first | omega | exact bI_r _ | exact iI_r _) (fun h_27 => ?_) (fun h_27 => ?_)
      · skip
        refine s_bipush 75 dX12_betrayed_73 rfl (by decide) ?_
        refine s_iret dX12_betrayed_75 rfl rfl ?_
        have hB : BetV r (-2) := Or.inl ⟨rfl, fun x y a b c => h4 x y a b c (by omega)⟩
        rw [← hB.v]; exact h _ Eqo.rf
      refine s_iload_n 31 dX12_betrayed_30 rfl rfl ?_
      refine s_iconst 32 dX12_betrayed_31 rfl ?_
      refine s_iadd 33 dX12_betrayed_32 rfl ?_
      refine s_istore_n (ls' := [_, _, _]) 34 dX12_betrayed_33 rfl (Nat.le_of_ble_eq_true rfl) rfl rfl ?_
      exact inn (r 8).toNat (w + 1) (by omega) (by omega) (by omega) (fun y a b => by omega)
  refine s_aload_n 1 dX12_betrayed_0 rfl rfl ?_
  refine s_callV0 (M' := M_X12_good) (as := []) 4 dX12_betrayed_1 rfl cw_X12_190 rfl rfl sh_138 rfl (by decide) (Nat.le_of_ble_eq_true rfl) (Nat.le_of_ble_eq_true rfl) (Nat.le_of_ble_eq_true rfl) (Nat.le_of_ble_eq_true rfl) ⟨rfl, rfl, rfl⟩ ?_
  refine c_X12_good ?_
  refine s_aload_n 5 dX12_betrayed_4 rfl rfl ?_
  refine s_getI 8 dX12_betrayed_5 rfl fl_X12_203 (fun _ _ _ _ => rfl) sh_138 (Nat.le_of_ble_eq_true rfl) (fun r_5 => ?_)
  rw [show up (up I 138 0 0) 138 11 0 138 14 = bI HP from (gd_f (by decide)).trans ehp]
  refine s_ifb_ne 17 11 dX12_betrayed_8 rfl rfl (fun h_8 => ?_) (fun h_8 => ?_)
  · skip
    refine s_iconst 18 dX12_betrayed_17 rfl ?_
    refine s_istore_n (ls' := [_, _, _]) 19 dX12_betrayed_18 rfl (Nat.le_of_ble_eq_true rfl) rfl rfl ?_
    have e0 := (hr (by assumption)).1
    exact loop (by assumption) (r 8 + 1).toNat 0 none (by omega) (by omega) (by omega) (fun x y a b c d => by omega)
  refine s_aload_n 12 dX12_betrayed_11 rfl rfl ?_
  refine s_iconst 13 dX12_betrayed_12 rfl ?_
  refine s_callV0 (M' := M_X12_no) (as := [_]) 16 dX12_betrayed_13 rfl cw_X12_193 rfl rfl sh_138 rfl (by decide) (Nat.le_of_ble_eq_true rfl) (Nat.le_of_ble_eq_true rfl) (Nat.le_of_ble_eq_true rfl) (Nat.le_of_ble_eq_true rfl) ⟨rfl, rfl, rfl⟩ ?_
  refine c_X12_no (by decide) ?_
  rw [show up (up (up I 138 0 0) 138 11 0) 138 11 1 = gd I 1 from gd_no]
  refine s_iret dX12_betrayed_16 rfl rfl ?_
  rw [pick_f (by assumption), pick_f (by assumption)] at h
  exact h _ Eqo.rf
set_option maxHeartbeats 4000000 in
theorem c_X12_same {E : ET} {I : MI} {L : ML} {R : MR} {Q : Option AV → MI → ML → MR → Prop} {r : F1} {HP : Prop} {w v : Int} (hT : Topo R) (er : I 141 = r) (erd : I 138 30 = -1) (ehp : I 138 14 = bI HP) (hr : HP → WFr r) (hw : -2147483648 ≤ w ∧ w ≤ 2147483647) (hv : -2147483648 ≤ v ∧ v ≤ 2147483647) (h : (∀ C, C = ((HP ∧ 0 ≤ w ∧ w < r 8) ∧ (HP ∧ 0 ≤ v ∧ v < r 8) ∧ w ≠ v) → Q (some (vi (pick C (bI (BoP r w v)) (-1)))) (gd I (pick C 0 1)) L R)) : CT E M_X12_same 161 yX12_same [(vr (138)), (vi (w)), (vi (v))] I L R Q := by
  refine CT_of rfl rfl (fun h => by cases h) (Nat.le_of_ble_eq_true rfl) (fun X => ?_)
  show V X _ z0 0 [some (vr (138)), some (vi (w)), some (vi (v))] [] I L R _
  have h := h _ rfl
  have er1 : up (up I 138 0 0) 138 11 0 141 = r := (gd_n (by decide)).trans er
  have erd1 : up (up I 138 0 0) 138 11 0 138 30 = -1 := (gd_f (by decide)).trans erd
  have ehp1 : up (up I 138 0 0) 138 11 0 138 14 = bI HP := (gd_f (by decide)).trans ehp
  have no : ¬ ((HP ∧ 0 ≤ w ∧ w < r 8) ∧ (HP ∧ 0 ≤ v ∧ v < r 8) ∧ w ≠ v) → Q (some (vi (-1))) (gd I 1) L R := fun z => by rw [pick_f z, pick_f z] at h; exact h
  have ye : ((HP ∧ 0 ≤ w ∧ w < r 8) ∧ (HP ∧ 0 ≤ v ∧ v < r 8) ∧ w ≠ v) → Q (some (vi (bI (BoP r w v)))) (gd I 0) L R := fun z => by rw [pick_t z, pick_t z] at h; exact h
  refine s_aload_n 1 dX12_same_0 rfl rfl ?_
  refine s_callV0 (M' := M_X12_good) (as := []) 4 dX12_same_1 rfl cw_X12_190 rfl rfl sh_138 rfl (by decide) (Nat.le_of_ble_eq_true rfl) (Nat.le_of_ble_eq_true rfl) (Nat.le_of_ble_eq_true rfl) (Nat.le_of_ble_eq_true rfl) ⟨rfl, rfl, rfl⟩ ?_
  refine c_X12_good ?_
  refine s_aload_n 5 dX12_same_4 rfl rfl ?_
  refine s_iload_n 6 dX12_same_5 rfl rfl ?_
  refine s_callV0 (M' := M_X12_isSaw) (as := [_]) 9 dX12_same_6 rfl cw_X12_411 rfl rfl sh_138 rfl (by decide) (Nat.le_of_ble_eq_true rfl) (Nat.le_of_ble_eq_true rfl) (Nat.le_of_ble_eq_true rfl) (Nat.le_of_ble_eq_true rfl) ⟨rfl, rfl, rfl⟩ ?_
  refine c_X12_isSaw hT er1 ehp1 hr (by omega) ?_
  refine s_ifb_eq 42 12 dX12_same_9 rfl rfl (fun h_9 => ?_) (fun h_9 => ?_)
  · skip
    refine s_aload_n 43 dX12_same_42 rfl rfl ?_
    refine s_iconst 44 dX12_same_43 rfl ?_
    refine s_callV0 (M' := M_X12_no) (as := [_]) 47 dX12_same_44 rfl cw_X12_193 rfl rfl sh_138 rfl (by decide) (Nat.le_of_ble_eq_true rfl) (Nat.le_of_ble_eq_true rfl) (Nat.le_of_ble_eq_true rfl) (Nat.le_of_ble_eq_true rfl) ⟨rfl, rfl, rfl⟩ ?_
    refine c_X12_no (by decide) ?_
    rw [show up (up (up I 138 0 0) 138 11 0) 138 11 1 = gd I 1 from gd_no]
    refine s_iret dX12_same_47 rfl rfl ?_
    first | exact no (fun z => absurd z.1 (by assumption)) | exact no (fun z => absurd z.2.1 (by assumption)) | exact no (fun z => absurd z.2.2 (by omega)) | (have q := ye ⟨by assumption, by assumption, by assumption⟩; first | exact ret_t (by assumption) q | exact ret_f (by assumption) q)
  refine s_aload_n 13 dX12_same_12 rfl rfl ?_
  refine s_iload_n 14 dX12_same_13 rfl rfl ?_
  refine s_callV0 (M' := M_X12_isSaw) (as := [_]) 17 dX12_same_14 rfl cw_X12_411 rfl rfl sh_138 rfl (by decide) (Nat.le_of_ble_eq_true rfl) (Nat.le_of_ble_eq_true rfl) (Nat.le_of_ble_eq_true rfl) (Nat.le_of_ble_eq_true rfl) ⟨rfl, rfl, rfl⟩ ?_
  refine c_X12_isSaw hT er1 ehp1 hr (by omega) ?_
  refine s_ifb_eq 42 20 dX12_same_17 rfl rfl (fun h_17 => ?_) (fun h_17 => ?_)
  · skip
    refine s_aload_n 43 dX12_same_42 rfl rfl ?_
    refine s_iconst 44 dX12_same_43 rfl ?_
    refine s_callV0 (M' := M_X12_no) (as := [_]) 47 dX12_same_44 rfl cw_X12_193 rfl rfl sh_138 rfl (by decide) (Nat.le_of_ble_eq_true rfl) (Nat.le_of_ble_eq_true rfl) (Nat.le_of_ble_eq_true rfl) (Nat.le_of_ble_eq_true rfl) ⟨rfl, rfl, rfl⟩ ?_
    refine c_X12_no (by decide) ?_
    rw [show up (up (up I 138 0 0) 138 11 0) 138 11 1 = gd I 1 from gd_no]
    refine s_iret dX12_same_47 rfl rfl ?_
    first | exact no (fun z => absurd z.1 (by assumption)) | exact no (fun z => absurd z.2.1 (by assumption)) | exact no (fun z => absurd z.2.2 (by omega)) | (have q := ye ⟨by assumption, by assumption, by assumption⟩; first | exact ret_t (by assumption) q | exact ret_f (by assumption) q)
  refine s_iload_n 21 dX12_same_20 rfl rfl ?_
  refine s_iload_n 22 dX12_same_21 rfl rfl ?_
  refine s_icmp_eq 42 25 dX12_same_22 rfl rfl (by first | omega | exact bI_r _ | exact iI_r _) (by first | omega | exact bI_r _ | exact iI_r _) (fun h_22 => ?_) (fun h_22 => ?_)
  · skip
    refine s_aload_n 43 dX12_same_42 rfl rfl ?_
    refine s_iconst 44 dX12_same_43 rfl ?_
    refine s_callV0 (M' := M_X12_no) (as := [_]) 47 dX12_same_44 rfl cw_X12_193 rfl rfl sh_138 rfl (by decide) (Nat.le_of_ble_eq_true rfl) (Nat.le_of_ble_eq_true rfl) (Nat.le_of_ble_eq_true rfl) (Nat.le_of_ble_eq_true rfl) ⟨rfl, rfl, rfl⟩ ?_
    refine c_X12_no (by decide) ?_
    rw [show up (up (up I 138 0 0) 138 11 0) 138 11 1 = gd I 1 from gd_no]
    refine s_iret dX12_same_47 rfl rfl ?_
    first | exact no (fun z => absurd z.1 (by assumption)) | exact no (fun z => absurd z.2.1 (by assumption)) | exact no (fun z => absurd z.2.2 (by omega)) | (have q := ye ⟨by assumption, by assumption, by assumption⟩; first | exact ret_t (by assumption) q | exact ret_f (by assumption) q)
  refine s_aload_n 26 dX12_same_25 rfl rfl ?_
  refine s_iload_n 27 dX12_same_26 rfl rfl ?_
  refine s_iload_n 28 dX12_same_27 rfl rfl ?_
  refine s_callV0 (M' := M_X12_canBeBoth) (as := [_, _]) 31 dX12_same_28 rfl cw_X12_414 rfl rfl sh_138 rfl (by decide) (Nat.le_of_ble_eq_true rfl) (Nat.le_of_ble_eq_true rfl) (Nat.le_of_ble_eq_true rfl) (Nat.le_of_ble_eq_true rfl) ⟨rfl, rfl, rfl⟩ ?_
  refine c_X12_canBeBoth hT er1 erd1 (hr (by first | exact And.left h_9 | exact And.left h_17)) (by omega) (by omega) ?_
  refine s_ifb_eq 38 34 dX12_same_31 rfl rfl (fun h_31 => ?_) (fun h_31 => ?_)
  · skip
    refine s_iconst 39 dX12_same_38 rfl ?_
    refine s_goto 47 dX12_same_39 rfl ?_
    refine s_iret dX12_same_47 rfl rfl ?_
    first | exact no (fun z => absurd z.1 (by assumption)) | exact no (fun z => absurd z.2.1 (by assumption)) | exact no (fun z => absurd z.2.2 (by omega)) | (have q := ye ⟨by assumption, by assumption, by assumption⟩; first | exact ret_t (by assumption) q | exact ret_f (by assumption) q)
  refine s_iconst 35 dX12_same_34 rfl ?_
  refine s_goto 47 dX12_same_35 rfl ?_
  refine s_iret dX12_same_47 rfl rfl ?_
  first | exact no (fun z => absurd z.1 (by assumption)) | exact no (fun z => absurd z.2.1 (by assumption)) | exact no (fun z => absurd z.2.2 (by omega)) | (have q := ye ⟨by assumption, by assumption, by assumption⟩; first | exact ret_t (by assumption) q | exact ret_f (by assumption) q)
