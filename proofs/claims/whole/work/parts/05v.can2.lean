/-! a NIGHT: who CAN -/
theorem MeetS_at {b c q : F1} {n : Int} {A B : Int → Prop} (hq : Perm n q) : MeetS b c n A B ↔ ∃ j, 0 ≤ j ∧ j < n ∧ A (q j) ∧ ∃ l, 0 ≤ l ∧ l < n ∧ l ≠ q j ∧ B l ∧ meetP b c (q j) l := by
  constructor
  · rintro ⟨k, l, h1, h2, h3, h4, h5, h6, h7, h8⟩
    obtain ⟨j, j1, j2, j3⟩ := hq.2.2 k h1 h2
    subst j3
    exact ⟨j, j1, j2, h5, l, h3, h4, fun e => h6 e.symm, h7, h8⟩
  · rintro ⟨j, j1, j2, h5, l, h3, h4, h6, h7, h8⟩
    have qj := hq.1 j j1 j2
    exact ⟨q j, l, qj.1, qj.2, h3, h4, h5, fun e => h6 e.symm, h7, h8⟩
set_option maxHeartbeats 4000000 in
theorem c_X4_canBe {E : ET} {I : MI} {L : ML} {R : MR} {Q : Option AV → MI → ML → MR → Prop} {N P : Nat} {r sc : F1} {rd g cut ons : Int} (hT : Topo R) (hN : isN N) (hP : isP P) (hNP : R N 1 = some P) (hr : WFr r) (hR : PR I P r) (hV : NtV I N r rd g sc cut) (hsc : Perm (r 5) sc) (hg : 0 ≤ g ∧ g ≤ 99) (hons : ∀ k, r 7 ≤ k → k < 32 → ¬ hasI ons k) (h : Q (some (vi (bI (Can r rd (bgF r g sc) (clF r g sc) (sqF r g sc) (fun k => hasI ons k))))) I L R) : CT E M_X4_canBe 161 yX4_canBe [(vr (N)), (vi (ons))] I L R Q := by
  refine CT_of rfl rfl (fun h => by cases h) (Nat.le_of_ble_eq_true rfl) (fun X => ?_)
  show V X _ z0 0 [some (vr (N)), some (vi (ons)), none, none, none, none, none, none, none] [] I L R _
  have e0 := hr.1
  have e7 := hR.1.2.2.2.2.2.2.1
  have s1 := hR.2.1.1
  have s2 := hR.2.1.2.1
  have hn7 : (((r 7).toNat : Nat) : Int) = r 7 := by omega
  have hq := sq_P (g := g) (sc := sc) hr
  have hbc := NtV.bc hr hsc hg
  have hlt : ∀ k, 0 ≤ k → k < r 7 → bgF r g sc k < clF r g sc k := fun k a b => by have := bc_b hr hsc hg (k := k) ⟨a, b⟩; omega
  have eq := hV.2.2.1
  have eM := hV.2.2.2.1
  unfold LdR at eq
  unfold LdM meS at eM
  have spr : ∀ {X : XT} {k l : Int} {Q : QT}, 0 ≤ k ∧ k < r 7 → 0 ≤ l ∧ l < r 7 → Q (some (vi (bgF r g sc l - clF r g sc k - neF r rd k l))) I L R → CT (xE X) M_X4_spare 161 yX4_spare [vr N, vi k, vi l] I L R Q := fun hk hl hQ => c_X4_spare hT hN hr hV hk hl hQ
  generalize sqF r g sc = q at *
  generalize bgF r g sc = b at *
  generalize clF r g sc = c at *
  -- behind BODILY ones
  have main : ∀ A9 P9 B : Int, (∀ k, 0 ≤ k → k < 32 → (hasI A9 k ↔ k < r 7 ∧ hasI ons k ∧ behP r k)) → (∀ k, 0 ≤ k → k < 32 → (hasI P9 k ↔ k < r 7 ∧ hasI ons k ∧ pupP r k)) → BodS r q (fun k => hasI ons k) B → V X M_X4_canBe z0 27 [some (vr (N)), some (vi (ons)), some (vi (A9)), some (vi (P9)), some (vi (B)), none, none, none, none] [] (I) L R (RT X M_X4_canBe Q) := by
    intro A9 P9 B hA hP9 hB
    have hBod : ∀ i, 0 ≤ i → i < r 7 → (hasI B (q i) ↔ BodAt r q (fun k => hasI ons k) i) := by
      intro i q1 q2
      have qi := hq.1 i q1 q2
      rw [hB.2 _ qi.1 (by omega)]
      constructor
      · rintro ⟨j, a1, a2, a3, a4⟩
        have := hq.2.1 j i a1 a2 q1 q2 a3
        subst this
        exact a4
      · intro z
        exact ⟨i, q1, q2, rfl, z⟩
    have hBlt : ∀ l, 0 ≤ l → l < 32 → hasI B l → l < r 7 := fun l l1 l2 l3 => by
      obtain ⟨j, a1, a2, a3, a4⟩ := (hB.2 l l1 l2).mp l3
      have := hq.1 j a1 a2
      omega
    have t1 : ∀ k, 0 ≤ k → k < r 7 → (iand (I (N + 17) k) (ior A9 B) ≠ 0 ↔ ∃ l, 0 ≤ l ∧ l < r 7 ∧ l ≠ k ∧ ((hasI ons l ∧ behP r l) ∨ Bod r q (fun k => hasI ons k) l) ∧ meetP b c k l) := by
      intro k k1 k2
      rw [eM k k1 k2, and_ne]
      constructor
      · rintro ⟨l, l1, l2, l3, l4⟩
        rw [has_setOf (by omega) ⟨l1, l2⟩, hn7] at l3
        rw [has_or ⟨l1, l2⟩, hA l l1 l2, hB.2 l l1 l2] at l4
        exact ⟨l, l1, l3.1, l3.2.1, l4.imp (fun z => z.2) id, l3.2.2⟩
      · rintro ⟨l, l1, l2, l3, l4, l5⟩
        refine ⟨l, l1, by omega, ?_, ?_⟩
        · rw [has_setOf (by omega) ⟨l1, by omega⟩, hn7]; exact ⟨l2, l3, l5⟩
        · rw [has_or ⟨l1, by omega⟩, hA l l1 (by omega), hB.2 l l1 (by omega)]; exact l4.imp (fun z => ⟨l2, z⟩) id
    have t2 : ∀ k, 0 ≤ k → k < r 7 → (iand (I (N + 17) k) P9 ≠ 0 ↔ ∃ l, 0 ≤ l ∧ l < r 7 ∧ l ≠ k ∧ (hasI ons l ∧ pupP r l) ∧ meetP b c k l) := by
      intro k k1 k2
      rw [eM k k1 k2, and_ne]
      constructor
      · rintro ⟨l, l1, l2, l3, l4⟩
        rw [has_setOf (by omega) ⟨l1, l2⟩, hn7] at l3
        rw [hP9 l l1 l2] at l4
        exact ⟨l, l1, l3.1, l3.2.1, l4.2, l3.2.2⟩
      · rintro ⟨l, l1, l2, l3, l4, l5⟩
        refine ⟨l, l1, by omega, ?_, ?_⟩
        · rw [has_setOf (by omega) ⟨l1, by omega⟩, hn7]; exact ⟨l2, l3, l5⟩
        · rw [hP9 l l1 (by omega)]; exact ⟨l2, l4⟩
    have loop : ∀ (f : Nat) (i last j : Int) (w1 w2 : Option AV), r 7 - i < (f : Int) → 0 ≤ i → i ≤ r 7 →
        (∀ j, 0 ≤ j → j < i → (hasI ons (q j) ∧ behP r (q j)) → ¬ ∃ l, 0 ≤ l ∧ l < r 7 ∧ l ≠ q j ∧ ((hasI ons l ∧ behP r l) ∨ Bod r q (fun k => hasI ons k) l) ∧ meetP b c (q j) l) →
        (∀ j, 0 ≤ j → j < i → (hasI ons (q j) ∧ pupP r (q j)) → ¬ ∃ l, 0 ≤ l ∧ l < r 7 ∧ l ≠ q j ∧ (hasI ons l ∧ pupP r l) ∧ meetP b c (q j) l) →
        ((last = -1 ∧ ∀ m, 0 ≤ m → m < i → ¬ BodAt r q (fun k => hasI ons k) m) ∨ (0 ≤ j ∧ j < i ∧ last = q j ∧ BodAt r q (fun k => hasI ons k) j ∧ ∀ m, j < m → m < i → ¬ BodAt r q (fun k => hasI ons k) m)) →
        (∀ i' j', 0 ≤ i' → i' < j' → j' < i → BodAt r q (fun k => hasI ons k) i' → BodAt r q (fun k => hasI ons k) j' → (∀ m, i' < m → m < j' → ¬ BodAt r q (fun k => hasI ons k) m) → c (q i') + neF r rd (q i') (q j') ≤ b (q j')) →
        V X M_X4_canBe z0 33 [some (vr (N)), some (vi (ons)), some (vi (A9)), some (vi (P9)), some (vi (B)), some (vi (last)), some (vi (i)), w1, w2] [] (I) L R (RT X M_X4_canBe Q) := by
      intro f
      induction f with
      | zero => intro i last j w1 w2 h1 h2 h3; omega
      | succ f ih =>
        intro i last j w1 w2 h1 h2 h3 hm hp hl hc
        by_cases hi : i < r 7
        · have qi := hq.1 i h2 hi
          have eqi := eq i h2 hi
          have hB9 := hBod i h2 hi
          have bqi := hbc (q i) qi.1 qi.2
          have c1 := t1 (q i) qi.1 qi.2
          have c2 := t2 (q i) qi.1 qi.2
          -- the chain
          have s105 : (∀ j, 0 ≤ j → j < i + 1 → (hasI ons (q j) ∧ behP r (q j)) → ¬ ∃ l, 0 ≤ l ∧ l < r 7 ∧ l ≠ q j ∧ ((hasI ons l ∧ behP r l) ∨ Bod r q (fun k => hasI ons k) l) ∧ meetP b c (q j) l) → (∀ j, 0 ≤ j → j < i + 1 → (hasI ons (q j) ∧ pupP r (q j)) → ¬ ∃ l, 0 ≤ l ∧ l < r 7 ∧ l ≠ q j ∧ (hasI ons l ∧ pupP r l) ∧ meetP b c (q j) l) → V X M_X4_canBe z0 105 [some (vr (N)), some (vi (ons)), some (vi (A9)), some (vi (P9)), some (vi (B)), some (vi (last)), some (vi (i)), some (vi (q i)), some (vi (ishl 1 (q i)))] [] (I) L R (RT X M_X4_canBe Q) := by
            intro hm' hp'
            by_cases hb9 : hasI B (q i)
            · have hbi := hB9.mp hb9
              have next : (∀ i', 0 ≤ i' → i' < i → BodAt r q (fun k => hasI ons k) i' → (∀ m, i' < m → m < i → ¬ BodAt r q (fun k => hasI ons k) m) → c (q i') + neF r rd (q i') (q i) ≤ b (q i)) → V X M_X4_canBe z0 33 [some (vr (N)), some (vi (ons)), some (vi (A9)), some (vi (P9)), some (vi (B)), some (vi (q i)), some (vi (i + 1)), some (vi (q i)), some (vi (ishl 1 (q i)))] [] (I) L R (RT X M_X4_canBe Q) := by
                intro hci
                refine ih (i + 1) (q i) i _ _ (by omega) (by omega) (by omega) hm' hp' (Or.inr ⟨h2, by omega, rfl, hbi, fun m a1 a2 => by omega⟩) (fun i' j' a1 a2 a3 a4 a5 a6 => ?_)
                by_cases ej : j' = i
                · subst ej; exact hci i' a1 a2 a4 a6
                · exact hc i' j' a1 a2 (by omega) a4 a5 a6
              rcases hl with ⟨hl1, hl2⟩ | ⟨hj1, hj2, hj3, hj4, hj5⟩
              · skip
                refine s_iload 107 dX4_canBe_105 rfl rfl ?_
                refine s_iload 109 dX4_canBe_107 rfl rfl ?_
                refine s_iand 110 dX4_canBe_109 rfl ?_
                refine s_if_eq 136 113 dX4_canBe_110 rfl rfl (by first | omega | exact iand_r _ _) (fun h_110 => by exfalso; exact and_bit (by omega) |>.mpr hb9 |> absurd h_110) (fun h_110 => ?_)
                refine s_iload 115 dX4_canBe_113 rfl rfl ?_
                refine s_iconst 116 dX4_canBe_115 rfl ?_
                refine s_icmp_eq 132 119 dX4_canBe_116 rfl rfl (by first | omega | exact bI_r _ | exact iI_r _) (by first | omega | exact bI_r _ | exact iI_r _) (fun h_116 => ?_) (fun h_116 => by exfalso; omega)
                refine s_iload 134 dX4_canBe_132 rfl rfl ?_
                refine s_istore (ls' := [_, _, _, _, _, _, _, _, _]) 136 dX4_canBe_134 rfl (Nat.le_of_ble_eq_true rfl) rfl rfl ?_
                refine s_iinc (ls' := [_, _, _, _, _, _, _, _, _]) 139 dX4_canBe_136 rfl rfl (Nat.le_of_ble_eq_true rfl) rfl rfl ?_
                refine s_goto 33 dX4_canBe_139 rfl ?_
                exact next (fun i' a1 a2 a3 a4 => absurd a3 (hl2 i' a1 a2))
              · have e3 := hq.1 j hj1 (by omega)
                have e4 := hbc (q j) e3.1 e3.2
                have e5 := neF_b (rd := rd) hr e3 qi
                have hon : ∀ i', 0 ≤ i' → i' < i → BodAt r q (fun k => hasI ons k) i' → (∀ m, i' < m → m < i → ¬ BodAt r q (fun k => hasI ons k) m) → i' = j := by
                  intro i' a1 a2 a3 a4
                  rcases Int.lt_trichotomy i' j with g | g | g
                  · exact absurd hj4 (a4 j g hj2)
                  · exact g
                  · exact absurd a3 (hj5 i' g a2)
                subst hj3
                refine s_iload 107 dX4_canBe_105 rfl rfl ?_
                refine s_iload 109 dX4_canBe_107 rfl rfl ?_
                refine s_iand 110 dX4_canBe_109 rfl ?_
                refine s_if_eq 136 113 dX4_canBe_110 rfl rfl (by first | omega | exact iand_r _ _) (fun h_110 => by exfalso; exact and_bit (by omega) |>.mpr hb9 |> absurd h_110) (fun h_110 => ?_)
                refine s_iload 115 dX4_canBe_113 rfl rfl ?_
                refine s_iconst 116 dX4_canBe_115 rfl ?_
                refine s_icmp_eq 132 119 dX4_canBe_116 rfl rfl (by first | omega | exact bI_r _ | exact iI_r _) (by first | omega | exact bI_r _ | exact iI_r _) (fun h_116 => by exfalso; omega) (fun h_116 => ?_)
                refine s_aload_n 120 dX4_canBe_119 rfl rfl ?_
                refine s_iload 122 dX4_canBe_120 rfl rfl ?_
                refine s_iload 124 dX4_canBe_122 rfl rfl ?_
                refine s_callV0 (M' := M_X4_spare) (as := [_, _]) 127 dX4_canBe_124 rfl cw_X4_113 rfl rfl (isN_sh hN) rfl (by decide) (isN_lt hN) (Nat.le_of_ble_eq_true rfl) (Nat.le_of_ble_eq_true rfl) (Nat.le_of_ble_eq_true rfl) ⟨rfl, rfl, rfl⟩ ?_
                refine spr e3 qi ?_
                refine s_if_ge 132 130 dX4_canBe_127 rfl rfl (by first | omega | exact bI_r _ | exact iI_r _) (fun h_127 => ?_) (fun h_127 => ?_)
                · skip
                  refine s_iload 134 dX4_canBe_132 rfl rfl ?_
                  refine s_istore (ls' := [_, _, _, _, _, _, _, _, _]) 136 dX4_canBe_134 rfl (Nat.le_of_ble_eq_true rfl) rfl rfl ?_
                  refine s_iinc (ls' := [_, _, _, _, _, _, _, _, _]) 139 dX4_canBe_136 rfl rfl (Nat.le_of_ble_eq_true rfl) rfl rfl ?_
                  refine s_goto 33 dX4_canBe_139 rfl ?_
                  refine next (fun i' a1 a2 a3 a4 => ?_)
                  rw [hon i' a1 a2 a3 a4]
                  omega
                refine s_iconst 131 dX4_canBe_130 rfl ?_
                refine s_zret dX4_canBe_131 rfl (by first | omega | exact bI_b _) rfl ?_
                refine ret_f (fun z => ?_) h
                have := z.2.2.2 j i hj1 hj2 (by omega) hj4 hbi hj5
                omega
            · have hnb : ¬ BodAt r q (fun k => hasI ons k) i := fun z => hb9 (hB9.mpr z)
              refine s_iload 107 dX4_canBe_105 rfl rfl ?_
              refine s_iload 109 dX4_canBe_107 rfl rfl ?_
              refine s_iand 110 dX4_canBe_109 rfl ?_
              refine s_if_eq 136 113 dX4_canBe_110 rfl rfl (by first | omega | exact iand_r _ _) (fun h_110 => ?_) (fun h_110 => by exfalso; exact hb9 (and_bit (by omega) |>.mp h_110))
              refine s_iinc (ls' := [_, _, _, _, _, _, _, _, _]) 139 dX4_canBe_136 rfl rfl (Nat.le_of_ble_eq_true rfl) rfl rfl ?_
              refine s_goto 33 dX4_canBe_139 rfl ?_
              refine ih (i + 1) last j _ _ (by omega) (by omega) (by omega) hm' hp' ?_ (fun i' j' a1 a2 a3 a4 a5 a6 => ?_)
              · rcases hl with ⟨g1, g2⟩ | ⟨g1, g2, g3, g4, g5⟩
                · refine Or.inl ⟨g1, fun m a1 a2 => ?_⟩
                  by_cases em : m = i
                  · subst em; exact hnb
                  · exact g2 m a1 (by omega)
                · refine Or.inr ⟨g1, by omega, g3, g4, fun m a1 a2 => ?_⟩
                  by_cases em : m = i
                  · subst em; exact hnb
                  · exact g5 m a1 (by omega)
              · by_cases ej : j' = i
                · subst ej; exact absurd a5 hnb
                · exact hc i' j' a1 a2 (by omega) a4 a5 a6
          have s84 : (∀ j, 0 ≤ j → j < i + 1 → (hasI ons (q j) ∧ behP r (q j)) → ¬ ∃ l, 0 ≤ l ∧ l < r 7 ∧ l ≠ q j ∧ ((hasI ons l ∧ behP r l) ∨ Bod r q (fun k => hasI ons k) l) ∧ meetP b c (q j) l) → V X M_X4_canBe z0 84 [some (vr (N)), some (vi (ons)), some (vi (A9)), some (vi (P9)), some (vi (B)), some (vi (last)), some (vi (i)), some (vi (q i)), some (vi (ishl 1 (q i)))] [] (I) L R (RT X M_X4_canBe Q) := by
            intro hm'
            have hp2 : ((hasI ons (q i) ∧ pupP r (q i)) → ¬ ∃ l, 0 ≤ l ∧ l < r 7 ∧ l ≠ q i ∧ (hasI ons l ∧ pupP r l) ∧ meetP b c (q i) l) → ∀ j, 0 ≤ j → j < i + 1 → (hasI ons (q j) ∧ pupP r (q j)) → ¬ ∃ l, 0 ≤ l ∧ l < r 7 ∧ l ≠ q j ∧ (hasI ons l ∧ pupP r l) ∧ meetP b c (q j) l := fun z j j1 j2 => by
              by_cases ej : j = i
              · subst ej; exact z
              · exact hp j j1 (by omega)
            refine s_iload_n 85 dX4_canBe_84 rfl rfl ?_
            refine s_iload 87 dX4_canBe_85 rfl rfl ?_
            refine s_iand 88 dX4_canBe_87 rfl ?_
            refine s_if_eq 105 91 dX4_canBe_88 rfl rfl (by first | omega | exact iand_r _ _) (fun h_88 => ?_) (fun h_88 => ?_)
            · skip
              first | exact s105 hm' (hp2 (fun _ => (not_congr c2).mp (fun z => z h_100))) | exact s105 hm' (hp2 (fun z => absurd ((hP9 (q i) qi.1 (by omega)).mpr ⟨qi.2, z⟩) (fun y => (and_bit (by omega)).mpr y h_88)))
            refine s_aload_n 92 dX4_canBe_91 rfl rfl ?_
            refine s_getR 95 dX4_canBe_92 rfl fl_X4_16 (fun _ _ _ _ => rfl) (T_X4_meetings hT hN) (isN_sh hN) (isN_lt hN) ?_
            refine s_iload 97 dX4_canBe_95 rfl rfl ?_
            refine s_iald 98 dX4_canBe_97 rfl (shN_meetings hN) (ltN_meetings hN) (by omega) (by omega) (fun r_97 => ?_)
            skip
            refine s_iload_n 99 dX4_canBe_98 rfl rfl ?_
            refine s_iand 100 dX4_canBe_99 rfl ?_
            refine s_if_eq 105 103 dX4_canBe_100 rfl rfl (by first | omega | exact iand_r _ _) (fun h_100 => ?_) (fun h_100 => ?_)
            · skip
              first | exact s105 hm' (hp2 (fun _ => (not_congr c2).mp (fun z => z h_100))) | exact s105 hm' (hp2 (fun z => absurd ((hP9 (q i) qi.1 (by omega)).mpr ⟨qi.2, z⟩) (fun y => (and_bit (by omega)).mpr y h_88)))
            refine s_iconst 104 dX4_canBe_103 rfl ?_
            refine s_zret dX4_canBe_104 rfl (by first | omega | exact bI_b _) rfl ?_
            refine ret_f (fun z => z.2.1 ((MeetS_at hq).mpr ⟨i, h2, hi, ((hP9 (q i) qi.1 (by omega)).mp ((and_bit (by omega)).mp h_88)).2, c2.mp h_100⟩)) h
          have hm2 : ((hasI ons (q i) ∧ behP r (q i)) → ¬ ∃ l, 0 ≤ l ∧ l < r 7 ∧ l ≠ q i ∧ ((hasI ons l ∧ behP r l) ∨ Bod r q (fun k => hasI ons k) l) ∧ meetP b c (q i) l) → ∀ j, 0 ≤ j → j < i + 1 → (hasI ons (q j) ∧ behP r (q j)) → ¬ ∃ l, 0 ≤ l ∧ l < r 7 ∧ l ≠ q j ∧ ((hasI ons l ∧ behP r l) ∨ Bod r q (fun k => hasI ons k) l) ∧ meetP b c (q j) l := fun z j j1 j2 => by
            by_cases ej : j = i
            · subst ej; exact z
            · exact hm j j1 (by omega)
          refine s_iload 35 dX4_canBe_33 rfl rfl ?_
          refine s_aload_n 36 dX4_canBe_35 rfl rfl ?_
          refine s_getR 39 dX4_canBe_36 rfl fl_X4_49 (fun _ _ _ _ => rfl) (by assumption) (isN_sh hN) (isN_lt hN) ?_
          refine s_getI 42 dX4_canBe_39 rfl fl_X4_53 (fun _ _ _ _ => rfl) (isP_sh (by assumption)) (isP_lt (by assumption)) (fun r_39 => ?_)
          rw [e7]
          refine s_icmp_ge 142 45 dX4_canBe_42 rfl rfl (by first | omega | exact bI_r _ | exact iI_r _) (by first | omega | exact bI_r _ | exact iI_r _) (fun h_42 => by exfalso; omega) (fun h_42 => ?_)
          refine s_aload_n 46 dX4_canBe_45 rfl rfl ?_
          refine s_getR 49 dX4_canBe_46 rfl fl_X4_29 (fun _ _ _ _ => rfl) (T_X4_row hT hN) (isN_sh hN) (isN_lt hN) ?_
          refine s_iload 51 dX4_canBe_49 rfl rfl ?_
          refine s_iald 52 dX4_canBe_51 rfl (shN_row hN) (ltN_row hN) (by omega) (by omega) (fun r_51 => ?_)
          rw [eqi]
          refine s_istore (ls' := [_, _, _, _, _, _, _, _, _]) 54 dX4_canBe_52 rfl (Nat.le_of_ble_eq_true rfl) rfl rfl ?_
          refine s_iconst 55 dX4_canBe_54 rfl ?_
          refine s_iload 57 dX4_canBe_55 rfl rfl ?_
          refine s_ishl 58 dX4_canBe_57 rfl ?_
          refine s_istore (ls' := [_, _, _, _, _, _, _, _, _]) 60 dX4_canBe_58 rfl (Nat.le_of_ble_eq_true rfl) rfl rfl ?_
          refine s_iload_n 61 dX4_canBe_60 rfl rfl ?_
          refine s_iload 63 dX4_canBe_61 rfl rfl ?_
          refine s_iand 64 dX4_canBe_63 rfl ?_
          refine s_if_eq 84 67 dX4_canBe_64 rfl rfl (by first | omega | exact iand_r _ _) (fun h_64 => ?_) (fun h_64 => ?_)
          · skip
            first | exact s84 (hm2 (fun _ => (not_congr c1).mp (fun z => z h_79))) | exact s84 (hm2 (fun z => absurd ((hA (q i) qi.1 (by omega)).mpr ⟨qi.2, z⟩) (fun y => (and_bit (by omega)).mpr y h_64)))
          refine s_aload_n 68 dX4_canBe_67 rfl rfl ?_
          refine s_getR 71 dX4_canBe_68 rfl fl_X4_16 (fun _ _ _ _ => rfl) (T_X4_meetings hT hN) (isN_sh hN) (isN_lt hN) ?_
          refine s_iload 73 dX4_canBe_71 rfl rfl ?_
          refine s_iald 74 dX4_canBe_73 rfl (shN_meetings hN) (ltN_meetings hN) (by omega) (by omega) (fun r_73 => ?_)
          refine s_iload_n 75 dX4_canBe_74 rfl rfl ?_
          refine s_iload 77 dX4_canBe_75 rfl rfl ?_
          refine s_ior 78 dX4_canBe_77 rfl ?_
          refine s_iand 79 dX4_canBe_78 rfl ?_
          refine s_if_eq 84 82 dX4_canBe_79 rfl rfl (by first | omega | exact iand_r _ _) (fun h_79 => ?_) (fun h_79 => ?_)
          · skip
            first | exact s84 (hm2 (fun _ => (not_congr c1).mp (fun z => z h_79))) | exact s84 (hm2 (fun z => absurd ((hA (q i) qi.1 (by omega)).mpr ⟨qi.2, z⟩) (fun y => (and_bit (by omega)).mpr y h_64)))
          refine s_iconst 83 dX4_canBe_82 rfl ?_
          refine s_zret dX4_canBe_83 rfl (by first | omega | exact bI_b _) rfl ?_
          refine ret_f (fun z => z.1 ((MeetS_at hq).mpr ⟨i, h2, hi, ((hA (q i) qi.1 (by omega)).mp ((and_bit (by omega)).mp h_64)).2, c1.mp h_79⟩)) h
        · have ei : i = r 7 := by omega
          subst ei
          have hCan : Can r rd b c q (fun k => hasI ons k) := by
            refine ⟨fun z => ?_, fun z => ?_, chain_nm hr hq hlt (fun i' j' a1 a2 a3 => hc i' j' a1 a2 a3), fun i' j' a1 a2 a3 => hc i' j' a1 a2 a3⟩
            · obtain ⟨j, j1, j2, j3, j4⟩ := (MeetS_at hq).mp z
              exact hm j j1 j2 j3 j4
            · obtain ⟨j, j1, j2, j3, j4⟩ := (MeetS_at hq).mp z
              exact hp j j1 j2 j3 j4
          refine s_iload 35 dX4_canBe_33 rfl rfl ?_
          refine s_aload_n 36 dX4_canBe_35 rfl rfl ?_
          refine s_getR 39 dX4_canBe_36 rfl fl_X4_49 (fun _ _ _ _ => rfl) (by assumption) (isN_sh hN) (isN_lt hN) ?_
          refine s_getI 42 dX4_canBe_39 rfl fl_X4_53 (fun _ _ _ _ => rfl) (isP_sh (by assumption)) (isP_lt (by assumption)) (fun r_39 => ?_)
          rw [e7]
          refine s_icmp_ge 142 45 dX4_canBe_42 rfl rfl (by first | omega | exact bI_r _ | exact iI_r _) (by first | omega | exact bI_r _ | exact iI_r _) (fun h_42 => ?_) (fun h_42 => by exfalso; omega)
          refine s_iconst 143 dX4_canBe_142 rfl ?_
          refine s_zret dX4_canBe_143 rfl (by first | omega | exact bI_b _) rfl ?_
          exact ret_t hCan h
    refine s_iconst 28 dX4_canBe_27 rfl ?_
    refine s_istore (ls' := [_, _, _, _, _, _, _, _, _]) 30 dX4_canBe_28 rfl (Nat.le_of_ble_eq_true rfl) rfl rfl ?_
    refine s_iconst 31 dX4_canBe_30 rfl ?_
    refine s_istore (ls' := [_, _, _, _, _, _, _, _, _]) 33 dX4_canBe_31 rfl (Nat.le_of_ble_eq_true rfl) rfl rfl ?_
    exact loop 16 0 (-1) 0 _ _ (by omega) (by omega) (by omega) (fun j j1 j2 => by omega) (fun j j1 j2 => by omega) (Or.inl ⟨rfl, fun m a1 a2 => by omega⟩) (fun i' j' a1 a2 a3 => by omega)
  refine s_iload_n 1 dX4_canBe_0 rfl rfl ?_
  refine s_aload_n 2 dX4_canBe_1 rfl rfl ?_
  refine s_getR 5 dX4_canBe_2 rfl fl_X4_49 (fun _ _ _ _ => rfl) (by assumption) (isN_sh hN) (isN_lt hN) ?_
  refine s_getI 8 dX4_canBe_5 rfl fl_X4_97 (fun _ _ _ _ => rfl) (isP_sh (by assumption)) (isP_lt (by assumption)) (fun r_5 => ?_)
  rw [s1]
  refine s_iand 9 dX4_canBe_8 rfl ?_
  refine s_istore_n (ls' := [_, _, _, _, _, _, _, _, _]) 10 dX4_canBe_9 rfl (Nat.le_of_ble_eq_true rfl) rfl rfl ?_
  refine s_iload_n 11 dX4_canBe_10 rfl rfl ?_
  refine s_aload_n 12 dX4_canBe_11 rfl rfl ?_
  refine s_getR 15 dX4_canBe_12 rfl fl_X4_49 (fun _ _ _ _ => rfl) (by assumption) (isN_sh hN) (isN_lt hN) ?_
  refine s_getI 18 dX4_canBe_15 rfl fl_X4_100 (fun _ _ _ _ => rfl) (isP_sh (by assumption)) (isP_lt (by assumption)) (fun r_15 => ?_)
  rw [s2]
  refine s_iand 19 dX4_canBe_18 rfl ?_
  refine s_istore_n (ls' := [_, _, _, _, _, _, _, _, _]) 20 dX4_canBe_19 rfl (Nat.le_of_ble_eq_true rfl) rfl rfl ?_
  refine s_aload_n 21 dX4_canBe_20 rfl rfl ?_
  refine s_iload_n 22 dX4_canBe_21 rfl rfl ?_
  refine s_callV0 (M' := M_X4_bodilyOf) (as := [_]) 25 dX4_canBe_22 rfl cw_X4_109 rfl rfl (isN_sh hN) rfl (by decide) (isN_lt hN) (Nat.le_of_ble_eq_true rfl) (Nat.le_of_ble_eq_true rfl) (Nat.le_of_ble_eq_true rfl) ⟨rfl, rfl, rfl⟩ ?_
  refine c_X4_bodilyOf hT hN hP hNP hr hR eq hq hons (fun B hB => ?_)
  refine s_istore (ls' := [_, _, _, _, _, _, _, _, _]) 27 dX4_canBe_25 rfl (Nat.le_of_ble_eq_true rfl) rfl rfl ?_
  refine main _ _ B (fun k k1 k2 => ?_) (fun k k1 k2 => ?_) hB
  · rw [has_and ⟨k1, k2⟩, has_setOf (by omega) ⟨k1, k2⟩, hn7]; exact ⟨fun z => ⟨z.2.1, z.1, z.2.2⟩, fun z => ⟨z.2.1, z.1, z.2.2⟩⟩
  · rw [has_and ⟨k1, k2⟩, has_setOf (by omega) ⟨k1, k2⟩, hn7]; exact ⟨fun z => ⟨z.2.1, z.1, z.2.2⟩, fun z => ⟨z.2.1, z.1, z.2.2⟩⟩
theorem Can_s {r b c q : F1} {rd : Int} {S S' : Int → Prop} (hr : WFr r) (hq : Perm (r 7) q) (hS : ∀ k, 0 ≤ k → k < r 7 → (S k ↔ S' k)) : Can r rd b c q S ↔ Can r rd b c q S' := (Can_c hr hq (fun k _ _ => ⟨rfl, rfl⟩) (fun i _ _ => rfl) (fun k a b => hS k a b)).symm
set_option maxHeartbeats 4000000 in
theorem c_X4_fits {E : ET} {I : MI} {L : ML} {R : MR} {Q : Option AV → MI → ML → MR → Prop} {N P : Nat} {r sc : F1} {rd g cut s : Int} (hT : Topo R) (hN : isN N) (hP : isP P) (hNP : R N 1 = some P) (hr : WFr r) (hR : PR I P r) (hV : NtV I N r rd g sc cut) (hsc : Perm (r 5) sc) (hg : 0 ≤ g ∧ g ≤ 99) (h : Q (some (vi (bI (MayP r rd g sc cut s)))) I L R) : CT E M_X4_fits 161 yX4_fits [(vr (N)), (vi (s))] I L R Q := by
  refine CT_of rfl rfl (fun h => by cases h) (Nat.le_of_ble_eq_true rfl) (fun X => ?_)
  show V X _ z0 0 [some (vr (N)), some (vi (s))] [] I L R _
  have e0 := hr.1
  have e11 := hV.2.2.2.2
  have hC : Can r rd (bgF r g sc) (clF r g sc) (sqF r g sc) (fun k => hasI (iand (onsS r s) (ixor cut (-1))) k) ↔ MayP r rd g sc cut s := Can_s hr (sq_P hr) (fun k k1 k2 => by
    rw [has_andn ⟨k1, by omega⟩, has_onsS (by omega) ⟨k1, by omega⟩]
    exact ⟨fun z => ⟨z.1.2, z.2⟩, fun z => ⟨⟨k2, z.1⟩, z.2⟩⟩)
  rw [← bI_c hC] at h
  refine s_aload_n 1 dX4_fits_0 rfl rfl ?_
  refine s_aload_n 2 dX4_fits_1 rfl rfl ?_
  refine s_getR 5 dX4_fits_2 rfl fl_X4_49 (fun _ _ _ _ => rfl) (by assumption) (isN_sh hN) (isN_lt hN) ?_
  refine s_iload_n 6 dX4_fits_5 rfl rfl ?_
  refine s_callV0 (M' := M_X5_onsOfParts) (as := [_]) 9 dX4_fits_6 rfl cw_X4_116 rfl rfl (isP_sh (by assumption)) rfl (by decide) (isP_lt (by assumption)) (Nat.le_of_ble_eq_true rfl) (Nat.le_of_ble_eq_true rfl) (Nat.le_of_ble_eq_true rfl) ⟨rfl, rfl, rfl⟩ ?_
  refine c_X5_onsOfParts hT hP hr hR ?_
  refine s_aload_n 10 dX4_fits_9 rfl rfl ?_
  refine s_getI 13 dX4_fits_10 rfl fl_X4_43 (fun _ _ _ _ => rfl) (isN_sh hN) (isN_lt hN) (fun r_10 => ?_)
  rw [e11]
  refine s_iconst 14 dX4_fits_13 rfl ?_
  refine s_ixor 15 dX4_fits_14 rfl ?_
  refine s_iand 16 dX4_fits_15 rfl ?_
  refine s_callV0 (M' := M_X4_canBe) (as := [_]) 19 dX4_fits_16 rfl cw_X4_119 rfl rfl (isN_sh hN) rfl (by decide) (isN_lt hN) (Nat.le_of_ble_eq_true rfl) (Nat.le_of_ble_eq_true rfl) (Nat.le_of_ble_eq_true rfl) ⟨rfl, rfl, rfl⟩ ?_
  refine c_X4_canBe hT hN hP hNP hr hR hV hsc hg (fun k k1 k2 z => ?_) ?_
  · rw [has_andn ⟨by omega, k2⟩, has_onsS (by omega) ⟨by omega, k2⟩] at z
    omega
  refine s_zret dX4_fits_19 rfl (by first | omega | exact bI_b _) rfl ?_
  exact h
