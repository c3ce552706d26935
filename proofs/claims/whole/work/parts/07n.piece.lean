/-! what the class answers, 12: piece -/
theorem Topo_02 {R : MR} {v : Option Nat} (hT : Topo R) : Topo (up R 0 2 v) := Topo_up hT (fun b hb => absurd (List.mem_map_of_mem (f := fun t : Nat × Int × Nat => (t.1, t.2.1)) hb) (show ¬ ((0, 2) : Nat × Int) ∈ TOPO.map (fun t : Nat × Int × Nat => (t.1, t.2.1)) by decide +kernel))
theorem Topo_03 {R : MR} {v : Option Nat} (hT : Topo R) : Topo (up R 0 3 v) := Topo_up hT (fun b hb => absurd (List.mem_map_of_mem (f := fun t : Nat × Int × Nat => (t.1, t.2.1)) hb) (show ¬ ((0, 3) : Nat × Int) ∈ TOPO.map (fun t : Nat × Int × Nat => (t.1, t.2.1)) by decide +kernel))
theorem Topo_75 {R : MR} {v : Option Nat} (hT : Topo R) : Topo (up R 75 5 v) := Topo_up hT (fun b hb => absurd (List.mem_map_of_mem (f := fun t : Nat × Int × Nat => (t.1, t.2.1)) hb) (show ¬ ((75, 5) : Nat × Int) ∈ TOPO.map (fun t : Nat × Int × Nat => (t.1, t.2.1)) by decide +kernel))
theorem upnR {R : MR} {c d : Nat} {k j : Int} {v : Option Nat} (h : ¬ (d = c ∧ j = k)) : up R c k v d j = R d j := by
  by_cases e : d = c
  · subst e
    rw [up_eq]
    exact if_neg (fun z => h ⟨rfl, z⟩)
  · rw [up_ne e]
/-- a text with a FAULT -/
theorem CV.bad {I I' : MI} {L L' : ML} {R R' : MR} {m : Int} {bt bt' : F1} {n n' ft pl w ft' pl' w' : Int} {HP : Prop} {r s : F1} {a : List Int} {U D K : List (List Int)} {P P' : Nat} (h : CV I L R m bt n ft pl w HP r s a U D K P P') (hR : CvT R' P P') (e : ∀ c, 2 < c → c ≠ 75 → c ≠ 78 → c ≠ 79 → (c < P' ∨ P' + 35 < c) → I' c = I c) (eL : ∀ c, 82 ≤ c → c ≤ 84 → L' c = L c) (hA : CvA I' bt' n' ft' pl' w') : CV I' L' R' m bt' n' ft' pl' w' HP r s a U D K P P' := by
  have bd := h.bd
  obtain ⟨t, _, p, ⟨x1, x2, x3⟩, ⟨⟨b1, b2⟩, ⟨b3, b4⟩, ⟨b5, b6⟩, b7⟩, c9, hh9, hz⟩ := h
  have hp : P = 3 ∨ P = 39 := t.1
  have hp' : P' = 3 ∨ P' = 39 := t.2.1
  have hne := t.2.2.1
  have ee : ∀ c, (79 < c ∨ (P ≤ c ∧ c ≤ P + 35)) → I' c = I c := fun c hc => e c (by omega) (by omega) (by omega) (by omega) (by omega)
  refine ⟨hR, hA, p.c (by omega) (fun c x y => ee c (by omega)), ?_, ?_, ?_, fun hh => ?_, hz⟩
  · unfold CvE
    rw [ee 80 (by omega)]; exact ⟨x1, x2, x3⟩
  · unfold CvH
    rw [ee 81 (by omega)]; exact ⟨⟨b1, fun j hj => by rw [eL 82 (by decide) (by decide)]; exact b2 j hj⟩, ⟨b3, fun j hj => by rw [eL 83 (by decide) (by decide)]; exact b4 j hj⟩, ⟨b5, fun j hj => by rw [eL 84 (by decide) (by decide)]; exact b6 j hj⟩, b7⟩
  · unfold CvS at *
    rw [ee 85 (by omega), ee 107 (by omega)]; exact c9
  · obtain ⟨h0, hw, h1, h2, h3, h4, h5, h6, h7⟩ := hh9 hh
    refine ⟨h0, hw, h1.c (ee P (by omega)) (ee (P + 35) (by omega)), h2.eq (by omega) (fun c a b => ee c (by omega)), h3.eq (ee 85 (by omega)) (ee 107 (by omega)) (ee 109 (by omega)), h4.eq (by omega) (fun c a b => ee c (by omega)), ?_, fun i a b => by rw [ee 137 (by omega)]; exact h6 i a b, h7.c (ee 136 (by omega)) (fun _ _ _ => Iff.rfl)⟩
    unfold BaI at *
    rw [ee 111 (by omega)]; exact h5
set_option maxHeartbeats 4000000 in
theorem c_X11_piece {E : ET} {I : MI} {L : ML} {R : MR} {Q : Option AV → MI → ML → MR → Prop} {m : Int} {bt : F1} {n ft pl w : Int} {HP : Prop} {r s : F1} {a : List Int} {U D K : List (List Int)} {P P' : Nat} {i : Int} (hT : Topo R) (hC : CV I L R m bt n ft pl w HP r s a U D K P P') (hB : Nrm bt) (hm : 0 ≤ m ∧ m ≤ 900000) (hi : -2147483648 ≤ i ∧ i ≤ 2147483647) (h : (¬ (0 ≤ i ∧ i ≤ n) → ∀ I', Hi I I' → CV I' L R (m + 8) bt n ft pl 2 HP r s a U D K P P' → Q (some (vi (-1))) I' L R) ∧ (0 ≤ i ∧ i ≤ n → ∀ q, finF bt i = .inl q → ∀ I' L' R', Topo R' → Hi I I' → CV I' L' R' (m + 8) bt 0 q.1 q.2 4 HP r s a U D K P P' → Q (some (vi (-1))) I' L' R') ∧ (0 ≤ i ∧ i ≤ n → ∀ r', finF bt i = .inr r' → ∀ c B I' L' R' pl', Topo R' → Hi I I' → ordL r' = c :: B → (∀ s', (∀ k, 0 ≤ k → k < r' 5 → s' k = vL c k) → (∀ p, 5 ≤ p → p < 13 → s' p = 0) → CV I' L' R' (m + 8) bt 0 0 pl' 0 True r' s' c [] [] [] P' P) → Q (some (vi (r' 7))) I' L' R')) : CT E M_X11_piece 161 yX11_piece [(vr (0)), (vi (i))] I L R Q := by
  refine CT_of rfl rfl (fun h => by cases h) (Nat.le_of_ble_eq_true rfl) (fun X => ?_)
  show V X _ z0 0 [some (vr (0)), some (vi (i)), none] [] I L R _
  have bd := hC.bd
  obtain ⟨hP, hP2, hne, t2, t3, t85, t113, t111, t135⟩ := hC.1
  have hp : P = 3 ∨ P = 39 := hP
  have hp2 : P' = 3 ∨ P' = 39 := hP2
  obtain ⟨c1, c2, c3, c4, c5, c6⟩ := hC.2.1
  have hS := hC.2.2.2.2.2.1
  by_cases hi2 : 0 ≤ i ∧ i ≤ n
  · obtain ⟨-, h2, h3⟩ := h
    have h2 := h2 hi2
    have h3 := h3 hi2
    have CT1 : ∀ R1 : MR, R1 = up R 75 5 (some P') → CvT R1 P P' := fun R1 e => by
      subst e
      exact ⟨hP, hP2, hne, by rw [up_ne (by decide)]; exact t2, by rw [up_ne (by decide)]; exact t3, by rw [up_ne (by decide)]; exact t85, by rw [up_ne (by decide)]; exact t113, by rw [up_ne (by decide)]; exact t111, by rw [up_ne (by decide)]; exact t135⟩
    have bad : ∀ (q : Int × Int), finF bt i = .inl q → ∀ (R1 : MR), R1 = up R 75 5 (some P') → Topo R1 → ∀ (I0 I1 : MI) (L1 : ML) (w2 : Option AV), (∀ c, c ≠ 2 → I0 c = I c) → I0 2 = bt → RdF P' I0 L I1 L1 → I1 75 7 = q.2 → V X M_X11_piece z0 34 [some (vr (0)), some (vi (i)), w2] [(vi (q.1)), (vr (0))] (I1) L1 R1 (RT X M_X11_piece Q) := by
      intro q hf R1 eR hT I0 I1 L1 w2 g1 g2 g3 g4
      have fe := finF_e hf
      have t2' := (CT1 R1 eR).2.2.2.1
      refine s_putI 37 dX11_piece_34 rfl fl_X11_85 (fun _ => rfl) (fun _ => rfl) (fun _ _ _ _ => rfl) sh_0 (Nat.le_of_ble_eq_true rfl) (by first | omega | exact bI_r _ | exact iI_r _) ?_
      refine s_aload_n 38 dX11_piece_37 rfl rfl ?_
      refine s_getR 41 dX11_piece_38 rfl fl_X11_10 (fun _ _ _ _ => rfl) (T_X11_tape hT) sh_0 (Nat.le_of_ble_eq_true rfl) ?_
      refine s_iconst 42 dX11_piece_41 rfl ?_
      refine s_putI 45 dX11_piece_42 rfl fl_X11_99 (fun _ => rfl) (fun _ => rfl) (fun _ _ _ _ => rfl) sh_1 (Nat.le_of_ble_eq_true rfl) (by first | omega | exact bI_r _ | exact iI_r _) ?_
      refine s_aload_n 46 dX11_piece_45 rfl rfl ?_
      refine s_getI 49 dX11_piece_46 rfl fl_X11_85 (fun _ _ _ _ => rfl) sh_0 (Nat.le_of_ble_eq_true rfl) (fun r_46 => ?_)
      rw [up_ne (by decide), ups]
      refine s_if_eq 69 52 dX11_piece_49 rfl rfl (by first | omega | exact bI_r _ | exact iI_r _) (fun h_49 => by exfalso; omega) (fun h_49 => ?_)
      refine s_aload_n 53 dX11_piece_52 rfl rfl ?_
      refine s_aload_n 54 dX11_piece_53 rfl rfl ?_
      refine s_getR 57 dX11_piece_54 rfl fl_X11_31 (fun _ _ _ _ => rfl) (T_X11_reader hT) sh_0 (Nat.le_of_ble_eq_true rfl) ?_
      refine s_getI 60 dX11_piece_57 rfl fl_X11_110 (fun _ _ _ _ => rfl) sh_75 (Nat.le_of_ble_eq_true rfl) (fun r_57 => ?_)
      rw [up_ne (by decide), up_ne (by decide), g4]
      rw [up_ne (by decide), up_ne (by decide), g4] at r_57
      refine s_putI 63 dX11_piece_60 rfl fl_X11_88 (fun _ => rfl) (fun _ => rfl) (fun _ _ _ _ => rfl) sh_0 (Nat.le_of_ble_eq_true rfl) (by first | omega | exact bI_r _ | exact iI_r _) ?_
      refine s_aload_n 64 dX11_piece_63 rfl rfl ?_
      refine s_iconst 65 dX11_piece_64 rfl ?_
      refine s_callV0 (M' := M_X11_refuse) (as := [_]) 68 dX11_piece_65 rfl cw_X11_102 rfl rfl sh_0 rfl (by decide) (Nat.le_of_ble_eq_true rfl) (Nat.le_of_ble_eq_true rfl) (Nat.le_of_ble_eq_true rfl) (Nat.le_of_ble_eq_true rfl) ⟨rfl, rfl, rfl⟩ ?_
      refine c_X11_refuse (by decide) ?_
      refine s_iret dX11_piece_68 rfl rfl ?_
      refine h2 q hf _ L1 R1 hT (Hi.st (Hi.st (Hi.st (Hi.st (fun c hc => ?_) (by decide)) (by decide)) (by decide)) (by decide)) (CV.bad (hC.mo (by omega)) (CT1 R1 eR) (fun c x1 x2 x3 x4 x5 => ?_) (fun c x1 x2 => g3.2 c (by omega) (by omega) (by omega)) ?_)
      · rw [g3.1 c (by omega) (by omega) (by omega) (by omega)]; exact g1 c (by omega)
      · rw [up_ne (by omega), up_ne (by omega), up_ne (by omega), up_ne (by omega), g3.1 c (by omega) (by omega) (by omega) (by omega)]; exact g1 c (by omega)
      · refine ⟨by rw [up_ne (by decide), up_ne (by decide), ups], by decide, fun k k1 k2 => ?_, ups, by rw [upn (by decide), upn (by decide), up_ne (by decide), ups], fun _ => by rw [upn (by decide), ups]⟩
        rw [up_ne (by decide), up_ne (by decide), up_ne (by decide), up_ne (by decide), g3.1 2 (by decide) (by decide) (by decide) (by omega), g2]
    have good : ∀ (r' : F1), finF bt i = .inr r' → ∀ (R1 : MR), R1 = up R 75 5 (some P') → Topo R1 → ∀ (I0 I1 : MI) (L1 : ML) (w2 : Option AV), (∀ c, c ≠ 2 → I0 c = I c) → I0 2 = bt → RdF P' I0 L I1 L1 → PR I1 P' r' → V X M_X11_piece z0 34 [some (vr (0)), some (vi (i)), w2] [(vi (0)), (vr (0))] (I1) L1 R1 (RT X M_X11_piece Q) := by
      intro r' hf R1 eR hT I0 I1 L1 w2 g1 g2 g3 g4
      obtain ⟨hwp, hwr⟩ := finF_w hf
      have hh' := finF_h hf
      have e0' := hwr.1
      have t2' := (CT1 R1 eR).2.2.2.1
      have t3' := (CT1 R1 eR).2.2.2.2.1
      have end91 : ∀ (R5 : MR) (I5 : MI) (c : List Int) (B : List (List Int)), ordL r' = c :: B → R5 = up (up (up (up (up (up R1 0 2 (some P')) 0 3 (some P)) 85 1 (some P')) 111 0 (some P')) 113 1 (some P')) 135 1 (some P') → Topo R5 → StG (up (up I1 0 11 0) 1 1 0) I5 P' r' c → I5 85 8 = 0 → I5 85 12 = up (up I1 0 11 0) 1 1 0 85 12 → NtI I5 85 r' (-1) → NtI I5 113 r' (-1) → I5 111 3 = -1 → SrV I5 r' → KnG I5 136 (SeenP r') → V X M_X11_piece z0 91 [some (vr (0)), some (vi (i)), some (vr (P))] [] (I5) L1 R5 (RT X M_X11_piece Q) := by
        intro R5 I5 c B hcB eR5 k0 k1 k2 k3 k4 k5 k6 k7 k8
        obtain ⟨m1, m2, m3, m4, m5, m6, m7, m8, m9⟩ := k1
        have t25 : R5 0 2 = some P' := by rw [eR5, up_ne (by decide), up_ne (by decide), up_ne (by decide), up_ne (by decide), upnR (by decide), upsR]
        have CTn : CvT R5 P' P := by
          refine ⟨hP2, hP, fun z => hne z.symm, t25, ?_, ?_, ?_, ?_, ?_⟩
          · rw [eR5, up_ne (by decide), up_ne (by decide), up_ne (by decide), up_ne (by decide), upsR]
          · rw [eR5, up_ne (by decide), up_ne (by decide), up_ne (by decide), upsR]
          · rw [eR5, up_ne (by decide), upsR]
          · rw [eR5, up_ne (by decide), up_ne (by decide), upsR]
          · rw [eR5, upsR]
        have I5e : ∀ x, x ≠ 0 → x ≠ 1 → x ≠ P' → x ≠ P' + 35 → x ≠ 80 → x ≠ 81 → (x < 85 ∨ 137 < x ∨ (107 ≤ x ∧ x ≤ 110)) → I5 x = I1 x := fun x y0 y1 y2 y3 y4 y5 y6 => by rw [m9 x y2 y3 y4 y5 y6, up_ne y1, up_ne y0]
        have e8 : ∀ k, I1 85 k = I 85 k := fun k => by rw [g3.1 85 (by decide) (by decide) (by decide) (by omega), g1 85 (by decide)]
        have e17 : I5 107 = I 107 := by rw [I5e 107 (by decide) (by decide) (by omega) (by omega) (by decide) (by decide) (by decide), g3.1 107 (by decide) (by decide) (by decide) (by omega), g1 107 (by decide)]
        have z012 : I5 0 = up I1 0 11 0 0 := by rw [m9 0 (by omega) (by omega) (by decide) (by decide) (by decide), up_ne (by decide)]
        refine s_aload_n 92 dX11_piece_91 rfl rfl ?_
        refine s_aload_n 93 dX11_piece_92 rfl rfl ?_
        refine s_getR 96 dX11_piece_93 rfl fl_X11_19 (fun _ _ _ _ => rfl) (by assumption) sh_0 (Nat.le_of_ble_eq_true rfl) ?_
        refine s_getI 99 dX11_piece_96 rfl fl_X11_116 (fun _ _ _ _ => rfl) (isP_sh (by assumption)) (isP_lt (by assumption)) (fun r_96 => ?_)
        rw [m1.1.2.2.2.2.2.2.1]
        refine s_callV0 (M' := M_X11_fine) (as := [_]) 102 dX11_piece_99 rfl cw_X11_119 rfl rfl sh_0 rfl (by decide) (Nat.le_of_ble_eq_true rfl) (Nat.le_of_ble_eq_true rfl) (Nat.le_of_ble_eq_true rfl) (Nat.le_of_ble_eq_true rfl) ⟨rfl, rfl, rfl⟩ ?_
        refine c_X11_fine ?_
        refine s_iret dX11_piece_102 rfl rfl ?_
        refine h3 r' hf c B _ L1 R5 (up I5 0 10 0 0 12) k0 (Hi.st (fun x hx => ?_) (by decide)) hcB (fun s' s1 s2 => ?_)
        · rw [I5e x (by omega) (by omega) (by omega) (by omega) (by omega) (by omega) (by omega), g3.1 x (by omega) (by omega) (by omega) (by omega)]; exact g1 x (by omega)
        · have nx : ∀ x, x ≠ 0 → up I5 0 10 0 x = I5 x := fun x hx => up_ne hx
          refine ⟨CTn, ⟨?_, by decide, fun k y1 y2 => ?_, ups, ?_, fun z => absurd z (by decide)⟩, m1.c (by omega) (fun c a b => nx c (by omega)), ⟨?_, ?_, ?_⟩, ⟨⟨?_, fun j hj => absurd hj (by simp)⟩, ⟨?_, fun j hj => absurd hj (by simp)⟩, ⟨?_, fun j hj => absurd hj (by simp)⟩, by decide, by decide⟩, ?_, fun _ => ⟨?_, hh', m2.c (nx P' (by omega)) (nx (P' + 35) (by omega)), k4.eq (by omega) (fun c a b => nx c (by omega)), ?_, k5.eq (by omega) (fun c a b => nx c (by omega)), ?_, fun x y1 y2 => by rw [nx 137 (by decide)]; exact k7 x y1 y2, k8.c (nx 136 (by decide)) (fun _ _ _ => Iff.rfl)⟩, fun z => absurd trivial z⟩
          · rw [nx 1 (by decide), m9 1 (by omega) (by omega) (by decide) (by decide) (by decide), ups]
          · rw [nx 2 (by decide), I5e 2 (by decide) (by decide) (by omega) (by omega) (by decide) (by decide) (by decide), g3.1 2 (by decide) (by decide) (by decide) (by omega), g2]
          · rw [upn (by decide), z012, ups]
          · rw [nx 80 (by decide)]; exact m3.c (fun k a b => (s1 k a b).symm)
          · rw [nx 80 (by decide), m4]; exact GvO.z (fun p a b => s2 (5 + p) (by omega) (by omega))
          · rw [nx 80 (by decide), m5, s2 12 (by decide) (by decide)]
          · rw [nx 81 (by decide), m6]; rfl
          · rw [nx 81 (by decide), m7]; rfl
          · rw [nx 81 (by decide), m8]; rfl
          · unfold CvS at *
            rw [nx 85 (by decide), nx 107 (by decide), k3, up_ne (by decide), up_ne (by decide), e8, e17]; omega
          · refine ⟨hwr, by rw [hcB]; simp, fun k a b => s1 k a b, fun p a b => by rw [s2 (5 + p) (by omega) (by omega)]; decide, by rw [s2 12 (by decide) (by decide)]; decide, by rw [s2 12 (by decide) (by decide)]; exact Int.pow_pos (by decide)⟩
          · intro z; rw [nx 85 (by decide), k2] at z; exact absurd z (by decide)
          · exact Or.inl (by rw [nx 111 (by decide)]; exact k6)
      have end87 : ∀ (R3 : MR), R3 = up (up R1 0 2 (some P')) 0 3 (some P) → Topo R3 → R3 0 2 = some P' → V X M_X11_piece z0 87 [some (vr (0)), some (vi (i)), some (vr (P))] [] (up (up I1 0 11 0) 1 1 0) L1 R3 (RT X M_X11_piece Q) := by
        intro R3 eR3 hT t23
        obtain ⟨c, B, hcB⟩ : ∃ c B, ordL r' = c :: B := by
          rcases e : ordL r' with _ | ⟨c, B⟩
          · exact absurd e (ord_ex hwr (hwp.2.2.2.2.2.2.2.2.2.2.2))
          · exact ⟨c, B, rfl⟩
        have PR2 : PR (up (up I1 0 11 0) 1 1 0) P' r' := g4.c (by omega) (fun c a b => by rw [up_ne (by omega), up_ne (by omega)])
        refine s_aload_n 88 dX11_piece_87 rfl rfl ?_
        refine s_callV0 (M' := M_X11_startAnew) (as := []) 91 dX11_piece_88 rfl cw_X11_113 rfl rfl sh_0 rfl (by decide) (Nat.le_of_ble_eq_true rfl) (Nat.le_of_ble_eq_true rfl) (Nat.le_of_ble_eq_true rfl) (Nat.le_of_ble_eq_true rfl) ⟨rfl, rfl, rfl⟩ ?_
        refine c_X11_startAnew hT hP2 t23 hwr hh' PR2 hcB (fun I5 R5 eR5 k0 k1 k2 k3 k4 k5 k6 k7 k8 => ?_)
        skip
        exact end91 R5 I5 c B hcB (by rw [eR5, eR3]) k0 k1 k2 k3 k4 k5 k6 k7 k8
      have end82 : ∀ (R2 : MR), R2 = up R1 0 2 (some P') → Topo R2 → R2 0 3 = some P' → V X M_X11_piece z0 82 [some (vr (0)), some (vi (i)), some (vr (P))] [] (up (up I1 0 11 0) 1 1 0) L1 R2 (RT X M_X11_piece Q) := by
        intro R2 eR2 hT t3
        refine s_aload_n 83 dX11_piece_82 rfl rfl ?_
        refine s_aload_n 84 dX11_piece_83 rfl rfl ?_
        refine s_putR 87 dX11_piece_84 rfl fl_X11_23 (fun _ => rfl) (fun _ => rfl) (fun _ _ _ _ => rfl) sh_0 (Nat.le_of_ble_eq_true rfl) ?_
        exact end87 _ (by rw [eR2]) (Topo_03 hT) (by rw [upnR (by decide), eR2, upsR])
      refine s_putI 37 dX11_piece_34 rfl fl_X11_85 (fun _ => rfl) (fun _ => rfl) (fun _ _ _ _ => rfl) sh_0 (Nat.le_of_ble_eq_true rfl) (by first | omega | exact bI_r _ | exact iI_r _) ?_
      refine s_aload_n 38 dX11_piece_37 rfl rfl ?_
      refine s_getR 41 dX11_piece_38 rfl fl_X11_10 (fun _ _ _ _ => rfl) (T_X11_tape hT) sh_0 (Nat.le_of_ble_eq_true rfl) ?_
      refine s_iconst 42 dX11_piece_41 rfl ?_
      refine s_putI 45 dX11_piece_42 rfl fl_X11_99 (fun _ => rfl) (fun _ => rfl) (fun _ _ _ _ => rfl) sh_1 (Nat.le_of_ble_eq_true rfl) (by first | omega | exact bI_r _ | exact iI_r _) ?_
      refine s_aload_n 46 dX11_piece_45 rfl rfl ?_
      refine s_getI 49 dX11_piece_46 rfl fl_X11_85 (fun _ _ _ _ => rfl) sh_0 (Nat.le_of_ble_eq_true rfl) (fun r_46 => ?_)
      rw [up_ne (by decide), ups]
      refine s_if_eq 69 52 dX11_piece_49 rfl rfl (by first | omega | exact bI_r _ | exact iI_r _) (fun h_49 => ?_) (fun h_49 => by exfalso; omega)
      refine s_aload_n 70 dX11_piece_69 rfl rfl ?_
      refine s_getR 73 dX11_piece_70 rfl fl_X11_19 (fun _ _ _ _ => rfl) (by assumption) sh_0 (Nat.le_of_ble_eq_true rfl) ?_
      refine s_astore_n (ls' := [_, _, _]) 74 dX11_piece_73 rfl (Nat.le_of_ble_eq_true rfl) rfl rfl ?_
      refine s_aload_n 75 dX11_piece_74 rfl rfl ?_
      refine s_aload_n 76 dX11_piece_75 rfl rfl ?_
      refine s_getR 79 dX11_piece_76 rfl fl_X11_23 (fun _ _ _ _ => rfl) (by assumption) sh_0 (Nat.le_of_ble_eq_true rfl) ?_
      refine s_putR 82 dX11_piece_79 rfl fl_X11_19 (fun _ => rfl) (fun _ => rfl) (fun _ _ _ _ => rfl) sh_0 (Nat.le_of_ble_eq_true rfl) ?_
      exact end82 _ rfl (Topo_02 hT) (by rw [upnR (by decide)]; exact t3')
    have body21 : ∀ I0 : MI, (∀ c, c ≠ 2 → I0 c = I c) → I0 2 = bt → ∀ w2 : Option AV, V X M_X11_piece z0 21 [some (vr (0)), some (vi (i)), w2] [] (I0) L R (RT X M_X11_piece Q) := by
      intro I0 g1 g2 w2
      rcases hf : finF bt i with q | r'
      · skip
        refine s_aload_n 22 dX11_piece_21 rfl rfl ?_
        refine s_aload_n 23 dX11_piece_22 rfl rfl ?_
        refine s_getR 26 dX11_piece_23 rfl fl_X11_31 (fun _ _ _ _ => rfl) (T_X11_reader hT) sh_0 (Nat.le_of_ble_eq_true rfl) ?_
        refine s_iload_n 27 dX11_piece_26 rfl rfl ?_
        refine s_aload_n 28 dX11_piece_27 rfl rfl ?_
        refine s_getR 31 dX11_piece_28 rfl fl_X11_23 (fun _ _ _ _ => rfl) (by assumption) sh_0 (Nat.le_of_ble_eq_true rfl) ?_
        refine s_callV0 (M' := M_X6_read) (as := [_, _]) 34 dX11_piece_31 rfl cw_X11_106 rfl rfl sh_75 rfl (by decide) (Nat.le_of_ble_eq_true rfl) (Nat.le_of_ble_eq_true rfl) (Nat.le_of_ble_eq_true rfl) (Nat.le_of_ble_eq_true rfl) ⟨rfl, rfl, rfl⟩ ?_
        refine c_X6_read hT hP2 ⟨by omega, by omega⟩ hB.2 g2 (fun I1 L1 f => ⟨fun q' e3 e4 => ?_, fun r2 e3 => by rw [hf] at e3; cases e3⟩)
        obtain rfl : q = q' := by rw [hf] at e3; exact Sum.inl.inj e3
        exact bad q hf _ rfl (Topo_75 hT) I0 I1 L1 _ g1 g2 f e4
      · skip
        refine s_aload_n 22 dX11_piece_21 rfl rfl ?_
        refine s_aload_n 23 dX11_piece_22 rfl rfl ?_
        refine s_getR 26 dX11_piece_23 rfl fl_X11_31 (fun _ _ _ _ => rfl) (T_X11_reader hT) sh_0 (Nat.le_of_ble_eq_true rfl) ?_
        refine s_iload_n 27 dX11_piece_26 rfl rfl ?_
        refine s_aload_n 28 dX11_piece_27 rfl rfl ?_
        refine s_getR 31 dX11_piece_28 rfl fl_X11_23 (fun _ _ _ _ => rfl) (by assumption) sh_0 (Nat.le_of_ble_eq_true rfl) ?_
        refine s_callV0 (M' := M_X6_read) (as := [_, _]) 34 dX11_piece_31 rfl cw_X11_106 rfl rfl sh_75 rfl (by decide) (Nat.le_of_ble_eq_true rfl) (Nat.le_of_ble_eq_true rfl) (Nat.le_of_ble_eq_true rfl) (Nat.le_of_ble_eq_true rfl) ⟨rfl, rfl, rfl⟩ ?_
        refine c_X6_read hT hP2 ⟨by omega, by omega⟩ hB.2 g2 (fun I1 L1 f => ⟨fun q' e3 e4 => (by rw [hf] at e3; cases e3), fun r2 e3 e4 => ?_⟩)
        obtain rfl : r' = r2 := by rw [hf] at e3; exact Sum.inr.inj e3
        exact good r' hf _ rfl (Topo_75 hT) I0 I1 L1 _ g1 g2 f e4
    refine s_iload_n 1 dX11_piece_0 rfl rfl ?_
    refine s_if_lt 15 4 dX11_piece_1 rfl rfl (by first | omega | exact bI_r _ | exact iI_r _) (fun h_1 => by exfalso; omega) (fun h_1 => ?_)
    refine s_iload_n 5 dX11_piece_4 rfl rfl ?_
    refine s_aload_n 6 dX11_piece_5 rfl rfl ?_
    refine s_getR 9 dX11_piece_6 rfl fl_X11_10 (fun _ _ _ _ => rfl) (T_X11_tape hT) sh_0 (Nat.le_of_ble_eq_true rfl) ?_
    refine s_getI 12 dX11_piece_9 rfl fl_X11_99 (fun _ _ _ _ => rfl) sh_1 (Nat.le_of_ble_eq_true rfl) (fun r_9 => ?_)
    rw [c1]
    refine s_icmp_le 21 15 dX11_piece_12 rfl rfl (by first | omega | exact bI_r _ | exact iI_r _) (by first | omega | exact bI_r _ | exact iI_r _) (fun h_12 => ?_) (fun h_12 => by exfalso; omega)
    refine V_set sh_2 bt (fun k y1 y2 => (c3 k y1 y2).symm) (fun _ k => by have := hB.2 k; omega) ?_
    exact body21 _ (fun c hc => setA_n hc) setA_e _
  · have h := h.1 hi2
    refine s_iload_n 1 dX11_piece_0 rfl rfl ?_
    refine s_if_lt 15 4 dX11_piece_1 rfl rfl (by first | omega | exact bI_r _ | exact iI_r _) (fun h_1 => ?_) (fun h_1 => ?_)
    · skip
      refine s_aload_n 16 dX11_piece_15 rfl rfl ?_
      refine s_iconst 17 dX11_piece_16 rfl ?_
      refine s_callV0 (M' := M_X11_refuse) (as := [_]) 20 dX11_piece_17 rfl cw_X11_102 rfl rfl sh_0 rfl (by decide) (Nat.le_of_ble_eq_true rfl) (Nat.le_of_ble_eq_true rfl) (Nat.le_of_ble_eq_true rfl) (Nat.le_of_ble_eq_true rfl) ⟨rfl, rfl, rfl⟩ ?_
      refine c_X11_refuse (by decide) ?_
      refine s_iret dX11_piece_20 rfl rfl ?_
      exact h _ (Hi.rf.st (by decide)) ((hC.mo (by omega)).rf (by decide))
    refine s_iload_n 5 dX11_piece_4 rfl rfl ?_
    refine s_aload_n 6 dX11_piece_5 rfl rfl ?_
    refine s_getR 9 dX11_piece_6 rfl fl_X11_10 (fun _ _ _ _ => rfl) (T_X11_tape hT) sh_0 (Nat.le_of_ble_eq_true rfl) ?_
    refine s_getI 12 dX11_piece_9 rfl fl_X11_99 (fun _ _ _ _ => rfl) sh_1 (Nat.le_of_ble_eq_true rfl) (fun r_9 => ?_)
    rw [c1]
    refine s_icmp_le 21 15 dX11_piece_12 rfl rfl (by first | omega | exact bI_r _ | exact iI_r _) (by first | omega | exact bI_r _ | exact iI_r _) (fun h_12 => by exfalso; exact hi2 ⟨by omega, by omega⟩) (fun h_12 => ?_)
    refine s_aload_n 16 dX11_piece_15 rfl rfl ?_
    refine s_iconst 17 dX11_piece_16 rfl ?_
    refine s_callV0 (M' := M_X11_refuse) (as := [_]) 20 dX11_piece_17 rfl cw_X11_102 rfl rfl sh_0 rfl (by decide) (Nat.le_of_ble_eq_true rfl) (Nat.le_of_ble_eq_true rfl) (Nat.le_of_ble_eq_true rfl) (Nat.le_of_ble_eq_true rfl) ⟨rfl, rfl, rfl⟩ ?_
    refine c_X11_refuse (by decide) ?_
    refine s_iret dX11_piece_20 rfl rfl ?_
    exact h _ (Hi.rf.st (by decide)) ((hC.mo (by omega)).rf (by decide))
