/-! the class as a whole: what holds between calls -/
def CvT (R : MR) (P P' : Nat) : Prop := isP P ∧ isP P' ∧ P ≠ P' ∧ R 0 2 = some P ∧ R 0 3 = some P' ∧ R 85 1 = some P ∧ R 113 1 = some P ∧ R 111 0 = some P ∧ R 135 1 = some P
def CvA (I : MI) (bt : F1) (n ft pl w : Int) : Prop := I 1 1 = n ∧ (0 ≤ n ∧ n ≤ 900) ∧ (∀ k, 0 ≤ k → k < 900 → I 2 k = bt k) ∧ I 0 10 = w ∧ I 0 11 = ft ∧ (w = 4 → I 0 12 = pl)
def CvE (I : MI) (r s : F1) : Prop := EnO (I 80 0) s (r 5) ∧ GvO (I 80 1) (fun p => s (5 + p)) ∧ I 80 2 = s 12
/-- a row kept as one long -/
def PkR (r : F1) (e : Int64) (x : List Int) : Prop := ∃ (o g : Int) (a : List Int), EnO o (vL x) (r 5) ∧ GvO g (fun p => vL x (5 + p)) ∧ e = pkE o g (vL x 12) ∧ SOk r (vL x) a
def AcR (L : ML) (c : Nat) (r : F1) (U : List (List Int)) : Prop := ∀ j : Nat, j < U.length → PkR r (L c j) (U.getD j [])
def CvH (I : MI) (L : ML) (r : F1) (U D K : List (List Int)) : Prop := (I 81 1 = (U.length : Int) ∧ AcR L 82 r U) ∧ (I 81 3 = (D.length : Int) ∧ AcR L 83 r D) ∧ (I 81 5 = (K.length : Int) ∧ AcR L 84 r K) ∧ U.length + D.length ≤ 12 ∧ K.length ≤ 3
def CaW (I : MI) (r : F1) : Prop := I 85 8 = 1 → ∀ sc, EnO (I 85 9) sc (r 5) → Perm (r 5) sc → (I 107 3 = I 85 12 → CasP I r (MayP r (-1) (I 85 10) sc (I 85 11))) ∧ (I 107 6 = I 85 12 → BstV (feP r (-1) (I 85 10) sc (I 85 11)) (I 107 7))
def CvN (I : MI) (r : F1) (P : Nat) : Prop := OLs I P r (ordL r) ∧ NtI I 85 r (-1) ∧ CaW I r ∧ NtI I 113 r (-1) ∧ BaI I r ∧ SrV I r ∧ KnG I 136 (SeenP r)
def CvS (I : MI) (m : Int) : Prop := 0 ≤ I 85 12 ∧ I 85 12 ≤ m ∧ 0 ≤ I 107 3 ∧ I 107 3 ≤ I 85 12 ∧ 0 ≤ I 107 6 ∧ I 107 6 ≤ I 85 12
def CV (I : MI) (L : ML) (R : MR) (m : Int) (bt : F1) (n ft pl w : Int) (HP : Prop) (r s : F1) (a : List Int) (U D K : List (List Int)) (P P' : Nat) : Prop :=
  CvT R P P' ∧ CvA I bt n ft pl w ∧ PR I P r ∧ CvE I r s ∧ CvH I L r U D K ∧ CvS I m ∧ (HP → SOk r s a ∧ wHr r ∧ CvN I r P) ∧ (¬ HP → (∀ j, 0 ≤ j → j < 281 → r j = 0) ∧ ∀ j, 0 ≤ j → j < 13 → s j = 0)
theorem EnO.n {o n : Int} {v : F1} (h : EnO o v n) : 0 ≤ o ∧ o < 32768 := h.1
theorem r_bd {HP : Prop} {I : MI} {r s : F1} {a : List Int} {P : Nat} (h1 : HP → SOk r s a ∧ wHr r ∧ CvN I r P) (h2 : ¬ HP → (∀ j, 0 ≤ j → j < 281 → r j = 0) ∧ ∀ j, 0 ≤ j → j < 13 → s j = 0) : 0 ≤ r 4 ∧ r 4 ≤ 7 ∧ 0 ≤ r 5 ∧ r 5 ≤ 5 ∧ 0 ≤ r 7 ∧ r 7 ≤ 14 ∧ 0 ≤ r 8 ∧ r 8 ≤ 7 ∧ (HP → 1 ≤ r 4) ∧ (¬ HP → r 4 = 0 ∧ r 5 = 0 ∧ r 7 = 0 ∧ r 8 = 0) := by
  by_cases hp : HP
  · have := (h1 hp).1.1.1
    exact ⟨by omega, by omega, by omega, by omega, by omega, by omega, by omega, by omega, fun _ => by omega, fun z => absurd hp z⟩
  · have z := (h2 hp).1
    have z4 := z 4 (by decide) (by decide)
    have z5 := z 5 (by decide) (by decide)
    have z7 := z 7 (by decide) (by decide)
    have z8 := z 8 (by decide) (by decide)
    exact ⟨by omega, by omega, by omega, by omega, by omega, by omega, by omega, by omega, fun y => absurd y hp, fun _ => ⟨z4, z5, z7, z8⟩⟩
theorem CV.bd {I : MI} {L : ML} {R : MR} {m : Int} {bt : F1} {n ft pl w : Int} {HP : Prop} {r s : F1} {a : List Int} {U D K : List (List Int)} {P P' : Nat} (h : CV I L R m bt n ft pl w HP r s a U D K P P') : 0 ≤ r 4 ∧ r 4 ≤ 7 ∧ 0 ≤ r 5 ∧ r 5 ≤ 5 ∧ 0 ≤ r 7 ∧ r 7 ≤ 14 ∧ 0 ≤ r 8 ∧ r 8 ≤ 7 ∧ (HP → 1 ≤ r 4) ∧ (¬ HP → r 4 = 0 ∧ r 5 = 0 ∧ r 7 = 0 ∧ r 8 = 0) := r_bd h.2.2.2.2.2.2.1 h.2.2.2.2.2.2.2
theorem SetN.eq {N : Nat} {I I' : MI} {r : F1} {rd o g : Int} {sc : F1} {cut : Int} (hr : 0 ≤ r 7 ∧ r 7 ≤ 14) (h : SetN I N r rd o g sc cut) (e : ∀ c, N ≤ c → c ≤ N + 21 → I' c = I c) : SetN I' N r rd o g sc cut := by
  have en : I' N = I N := e N (Nat.le_refl _) (by omega)
  exact ⟨by rw [en]; exact h.1, by rw [en]; exact h.2.1, by rw [en]; exact h.2.2.1, h.2.2.2.1.c hr (fun c hc => e c (by omega) (by omega)), h.2.2.2.2.c (e (N + 1) (by omega) (by omega)) (fun _ _ _ => Iff.rfl)⟩
theorem NtI.eq {N : Nat} {I I' : MI} {r : F1} {rd : Int} (hr : 0 ≤ r 7 ∧ r 7 ≤ 14) (h : NtI I N r rd) (e : ∀ c, N ≤ c → c ≤ N + 21 → I' c = I c) : NtI I' N r rd := by
  obtain ⟨n1, n2⟩ := h
  refine ⟨fun a b a1 a2 b1 b2 => by rw [e (N + 3 + a.toNat) (by omega) (by omega)]; exact n1 a b a1 a2 b1 b2, ?_⟩
  rcases n2 with z | ⟨o, g, sc, ct, z1, z2, z3, z4⟩
  · exact Or.inl (by rw [e N (Nat.le_refl _) (by omega)]; exact z)
  · exact Or.inr ⟨o, g, sc, ct, z1, z2, z3, z4.eq hr e⟩
theorem CaW.eq {I I' : MI} {r : F1} (h : CaW I r) (e1 : I' 85 = I 85) (e2 : I' 107 = I 107) (e3 : I' 109 = I 109) : CaW I' r := by
  unfold CaW CasP at *
  rw [e1, e2, e3]
  exact h
/-- what keeps the cells of a night's keepers -/
theorem CvN.eq {I I' : MI} {r : F1} {P : Nat} (hP : isP P) (hr : 0 ≤ r 7 ∧ r 7 ≤ 14) (h : CvN I r P) (e : ∀ c, (c < 75 ∨ (85 ≤ c ∧ c ≤ 137)) → I' c = I c) : CvN I' r P := by
  have hp : P = 3 ∨ P = 39 := hP
  obtain ⟨h1, h2, h3, h4, h5, h6, h7⟩ := h
  refine ⟨h1.c (e P (by omega)) (e (P + 35) (by omega)), h2.eq hr (fun c a b => e c (by omega)), h3.eq (e 85 (by decide)) (e 107 (by decide)) (e 109 (by decide)), h4.eq hr (fun c a b => e c (by omega)), ?_, fun i a b => by rw [e 137 (by decide)]; exact h6 i a b, h7.c (e 136 (by decide)) (fun _ _ _ => Iff.rfl)⟩
  unfold BaI at *
  rw [e 111 (by decide)]
  exact h5
/-- only the night, its keepers have changed -/
theorem CV.ng {I I' : MI} {L : ML} {R : MR} {m m' : Int} {bt : F1} {n ft pl w : Int} {HP : Prop} {r s : F1} {a : List Int} {U D K : List (List Int)} {P P' : Nat} (h : CV I L R m bt n ft pl w HP r s a U D K P P') (e : ∀ c, c < 85 → I' c = I c) (hS : CvS I' m') (hN : HP → CvN I' r P) : CV I' L R m' bt n ft pl w HP r s a U D K P P' := by
  have bd := h.bd
  obtain ⟨t, ⟨a1, a2, a3, a4, a5, a6⟩, p, ⟨e1, e2, e3⟩, ⟨⟨b1, b2⟩, ⟨b3, b4⟩, ⟨b5, b6⟩, b7⟩, _, hh, hz⟩ := h
  have hp : P = 3 ∨ P = 39 := t.1
  refine ⟨t, ⟨by rw [e 1 (by decide)]; exact a1, a2, fun k k1 k2 => by rw [e 2 (by decide)]; exact a3 k k1 k2, by rw [e 0 (by decide)]; exact a4, by rw [e 0 (by decide)]; exact a5, fun z => by rw [e 0 (by decide)]; exact a6 z⟩, p.c (by omega) (fun c x y => e c (by omega)), ?_, ?_, hS, fun z => ⟨(hh z).1, (hh z).2.1, hN z⟩, hz⟩
  · unfold CvE
    rw [e 80 (by decide)]; exact ⟨e1, e2, e3⟩
  · unfold CvH
    rw [e 81 (by decide)]; exact ⟨⟨b1, b2⟩, ⟨b3, b4⟩, ⟨b5, b6⟩, b7⟩
/-- only the refusal has changed -/
theorem CV.rf {I : MI} {L : ML} {R : MR} {m : Int} {bt : F1} {n ft pl w w' : Int} {HP : Prop} {r s : F1} {a : List Int} {U D K : List (List Int)} {P P' : Nat} (h : CV I L R m bt n ft pl w HP r s a U D K P P') (hw : w' ≠ 4) : CV (up I 0 10 w') L R m bt n ft pl w' HP r s a U D K P P' := by
  have bd := h.bd
  obtain ⟨t, ⟨a1, a2, a3, a4, a5, a6⟩, p, ⟨e1, e2, e3⟩, ⟨⟨b1, b2⟩, ⟨b3, b4⟩, ⟨b5, b6⟩, b7⟩, c9, hh, hz⟩ := h
  have hp : P = 3 ∨ P = 39 := t.1
  have e : ∀ c, c ≠ 0 → up I 0 10 w' c = I c := fun c hc => up_ne hc
  refine ⟨t, ⟨by rw [e 1 (by decide)]; exact a1, a2, fun k k1 k2 => by rw [e 2 (by decide)]; exact a3 k k1 k2, ups, by rw [upn (by decide)]; exact a5, fun z => absurd z hw⟩, p.c (by omega) (fun c x y => e c (by omega)), ?_, ?_, ?_, fun z => ⟨(hh z).1, (hh z).2.1, ?_⟩, hz⟩
  · unfold CvE
    rw [e 80 (by decide)]; exact ⟨e1, e2, e3⟩
  · unfold CvH
    rw [e 81 (by decide)]; exact ⟨⟨b1, b2⟩, ⟨b3, b4⟩, ⟨b5, b6⟩, b7⟩
  · unfold CvS
    rw [e 85 (by decide), e 107 (by decide)]; exact c9
  · have hN := (hh z).2.2
    obtain ⟨h1, h2, h3, h4, h5, h6, h7⟩ := hN
    refine ⟨h1.c (e P (by omega)) (e (P + 35) (by omega)), h2.eq (by omega) (fun c a b => e c (by omega)), h3.eq (e 85 (by decide)) (e 107 (by decide)) (e 109 (by decide)), h4.eq (by omega) (fun c a b => e c (by omega)), ?_, fun i a b => by rw [e 137 (by decide)]; exact h6 i a b, h7.c (e 136 (by decide)) (fun _ _ _ => Iff.rfl)⟩
    unfold BaI at *
    rw [e 111 (by decide)]
    exact h5
theorem CV.mo {I : MI} {L : ML} {R : MR} {m m' : Int} {bt : F1} {n ft pl w : Int} {HP : Prop} {r s : F1} {a : List Int} {U D K : List (List Int)} {P P' : Nat} (h : CV I L R m bt n ft pl w HP r s a U D K P P') (hm : m ≤ m') : CV I L R m' bt n ft pl w HP r s a U D K P P' := by
  obtain ⟨t, x, p, e, b, ⟨c1, c2, c3⟩, hh⟩ := h
  exact ⟨t, x, p, e, b, ⟨c1, by omega, c3⟩, hh⟩
/-- the reference's cells -/
def Hi (I I' : MI) : Prop := ∀ c, 138 ≤ c → I' c = I c
theorem Hi.rf {I : MI} : Hi I I := fun _ _ => rfl
theorem Hi.tr {I I' I'' : MI} (h : Hi I I') (h' : Hi I' I'') : Hi I I'' := fun c hc => (h' c hc).trans (h c hc)
theorem Hi.st {I I' : MI} (h : Hi I I') {c : Nat} {k v : Int} (hc : c < 138) : Hi I (up I' c k v) := fun x hx => by
  rw [up_ne (by omega)]; exact h x hx
theorem Hi.nt {N : Nat} {I I' : MI} (hN : isN N) (h : NtF N I I') : Hi I I' := fun c hc => h c (by have hn : N = 85 ∨ N = 113 := hN; omega)
theorem MV.hi {I I' : MI} {bt : F1} {n ft pl w : Int} {HP : Prop} {r s : F1} {U D K : List (List Int)} (h : MV I bt n ft pl w HP r s U D K) (e : Hi I I') : MV I' bt n ft pl w HP r s U D K := by
  unfold MV at *
  rw [e 138 (by decide), e 139 (by decide), e 141 (by decide), e 143 (by decide), e 145 (by decide), e 146 (by decide), e 147 (by decide)]
  exact h
theorem CV.lo {I I' : MI} {L : ML} {R : MR} {m : Int} {bt : F1} {n ft pl w : Int} {HP : Prop} {r s : F1} {a : List Int} {U D K : List (List Int)} {P P' : Nat} (h : CV I L R m bt n ft pl w HP r s a U D K P P') (e : Lo I I') : CV I' L R m bt n ft pl w HP r s a U D K P P' := by
  have bd := h.bd
  have t := h.1
  refine h.ng (fun c hc => e c (by omega)) ?_ (fun z => (h.2.2.2.2.2.2.1 z).2.2.eq t.1 (by omega) (fun c hc => e c (by omega)))
  have c9 := h.2.2.2.2.2.1
  unfold CvS at *
  rw [e 85 (by decide), e 107 (by decide)]
  exact c9
set_option maxHeartbeats 4000000 in
theorem c_X11_fine {E : ET} {I : MI} {L : ML} {R : MR} {Q : Option AV → MI → ML → MR → Prop} {v : Int} (h : Q (some (vi v)) (up I 0 10 0) L R) : CT E M_X11_fine 161 yX11_fine [(vr (0)), (vi (v))] I L R Q := by
  refine CT_of rfl rfl (fun h => by cases h) (Nat.le_of_ble_eq_true rfl) (fun X => ?_)
  show V X _ z0 0 [some (vr (0)), some (vi (v))] [] I L R _
  refine s_aload_n 1 dX11_fine_0 rfl rfl ?_
  refine s_iconst 2 dX11_fine_1 rfl ?_
  refine s_putI 5 dX11_fine_2 rfl fl_X11_81 (fun _ => rfl) (fun _ => rfl) (fun _ _ _ _ => rfl) sh_0 (Nat.le_of_ble_eq_true rfl) (by first | omega | exact bI_r _ | exact iI_r _) ?_
  refine s_iload_n 6 dX11_fine_5 rfl rfl ?_
  refine s_iret dX11_fine_6 rfl rfl ?_
  exact h
set_option maxHeartbeats 4000000 in
theorem c_X11_refuse {E : ET} {I : MI} {L : ML} {R : MR} {Q : Option AV → MI → ML → MR → Prop} {v : Int} (hv : 0 ≤ v ∧ v ≤ 9) (h : Q (some (vi (-1))) (up I 0 10 v) L R) : CT E M_X11_refuse 161 yX11_refuse [(vr (0)), (vi (v))] I L R Q := by
  refine CT_of rfl rfl (fun h => by cases h) (Nat.le_of_ble_eq_true rfl) (fun X => ?_)
  show V X _ z0 0 [some (vr (0)), some (vi (v))] [] I L R _
  refine s_aload_n 1 dX11_refuse_0 rfl rfl ?_
  refine s_iload_n 2 dX11_refuse_1 rfl rfl ?_
  refine s_putI 5 dX11_refuse_2 rfl fl_X11_81 (fun _ => rfl) (fun _ => rfl) (fun _ _ _ _ => rfl) sh_0 (Nat.le_of_ble_eq_true rfl) (by first | omega | exact bI_r _ | exact iI_r _) ?_
  refine s_iconst 6 dX11_refuse_5 rfl ?_
  refine s_iret dX11_refuse_6 rfl rfl ?_
  exact h
set_option maxHeartbeats 4000000 in
theorem c_X11_denied {E : ET} {I : MI} {L : ML} {R : MR} {Q : Option AV → MI → ML → MR → Prop} {v : Int} (hv : 0 ≤ v ∧ v ≤ 9) (h : Q (some (vi (bI False))) (up I 0 10 v) L R) : CT E M_X11_denied 161 yX11_denied [(vr (0)), (vi (v))] I L R Q := by
  refine CT_of rfl rfl (fun h => by cases h) (Nat.le_of_ble_eq_true rfl) (fun X => ?_)
  show V X _ z0 0 [some (vr (0)), some (vi (v))] [] I L R _
  refine s_aload_n 1 dX11_denied_0 rfl rfl ?_
  refine s_iload_n 2 dX11_denied_1 rfl rfl ?_
  refine s_putI 5 dX11_denied_2 rfl fl_X11_81 (fun _ => rfl) (fun _ => rfl) (fun _ _ _ _ => rfl) sh_0 (Nat.le_of_ble_eq_true rfl) (by first | omega | exact bI_r _ | exact iI_r _) ?_
  refine s_iconst 6 dX11_denied_5 rfl ?_
  refine s_zret dX11_denied_6 rfl (by first | omega | exact bI_b _) rfl ?_
  exact ret_f id h
set_option maxHeartbeats 4000000 in
theorem c_X11_done {E : ET} {I : MI} {L : ML} {R : MR} {Q : Option AV → MI → ML → MR → Prop}  (h : Q (some (vi 1)) (up I 0 10 0) L R) : CT E M_X11_done 161 yX11_done [(vr (0))] I L R Q := by
  refine CT_of rfl rfl (fun h => by cases h) (Nat.le_of_ble_eq_true rfl) (fun X => ?_)
  show V X _ z0 0 [some (vr (0))] [] I L R _
  refine s_aload_n 1 dX11_done_0 rfl rfl ?_
  refine s_iconst 2 dX11_done_1 rfl ?_
  refine s_putI 5 dX11_done_2 rfl fl_X11_81 (fun _ => rfl) (fun _ => rfl) (fun _ _ _ _ => rfl) sh_0 (Nat.le_of_ble_eq_true rfl) (by first | omega | exact bI_r _ | exact iI_r _) ?_
  refine s_iconst 6 dX11_done_5 rfl ?_
  refine s_zret dX11_done_6 rfl (by first | omega | exact bI_b _) rfl ?_
  exact h
set_option maxHeartbeats 4000000 in
theorem c_X11_fineIf {E : ET} {I : MI} {L : ML} {R : MR} {Q : Option AV → MI → ML → MR → Prop} {B : Prop} (h : Q (some (vi (bI B))) (up I 0 10 0) L R) : CT E M_X11_fineIf 161 yX11_fineIf [(vr (0)), (vi (bI B))] I L R Q := by
  refine CT_of rfl rfl (fun h => by cases h) (Nat.le_of_ble_eq_true rfl) (fun X => ?_)
  show V X _ z0 0 [some (vr (0)), some (vi (bI B))] [] I L R _
  refine s_aload_n 1 dX11_fineIf_0 rfl rfl ?_
  refine s_iload_n 2 dX11_fineIf_1 rfl rfl ?_
  refine s_ifb_eq 9 5 dX11_fineIf_2 rfl rfl (fun h_2 => ?_) (fun h_2 => ?_)
  · skip
    refine s_iconst 10 dX11_fineIf_9 rfl ?_
    refine s_callV0 (M' := M_X11_fine) (as := [_]) 13 dX11_fineIf_10 rfl cw_X11_119 rfl rfl sh_0 rfl (by decide) (Nat.le_of_ble_eq_true rfl) (Nat.le_of_ble_eq_true rfl) (Nat.le_of_ble_eq_true rfl) (Nat.le_of_ble_eq_true rfl) ⟨rfl, rfl, rfl⟩ ?_
    first | (rw [bI_t (by assumption)] at h; refine c_X11_fine ?_) | (rw [bI_f (by assumption)] at h; refine c_X11_fine ?_)
    refine s_iret dX11_fineIf_13 rfl rfl ?_
    exact h
  refine s_iconst 6 dX11_fineIf_5 rfl ?_
  refine s_goto 10 dX11_fineIf_6 rfl ?_
  refine s_callV0 (M' := M_X11_fine) (as := [_]) 13 dX11_fineIf_10 rfl cw_X11_119 rfl rfl sh_0 rfl (by decide) (Nat.le_of_ble_eq_true rfl) (Nat.le_of_ble_eq_true rfl) (Nat.le_of_ble_eq_true rfl) (Nat.le_of_ble_eq_true rfl) ⟨rfl, rfl, rfl⟩ ?_
  first | (rw [bI_t (by assumption)] at h; refine c_X11_fine ?_) | (rw [bI_f (by assumption)] at h; refine c_X11_fine ?_)
  refine s_iret dX11_fineIf_13 rfl rfl ?_
  exact h
set_option maxHeartbeats 4000000 in
theorem c_X11_noPiece {E : ET} {I : MI} {L : ML} {R : MR} {Q : Option AV → MI → ML → MR → Prop} {m : Int} {bt : F1} {n ft pl w : Int} {HP : Prop} {r s : F1} {a : List Int} {U D K : List (List Int)} {P P' : Nat} (hC : CV I L R m bt n ft pl w HP r s a U D K P P') (h : Q (some (vi (bI (¬ HP)))) I L R) : CT E M_X11_noPiece 161 yX11_noPiece [(vr (0))] I L R Q := by
  refine CT_of rfl rfl (fun h => by cases h) (Nat.le_of_ble_eq_true rfl) (fun X => ?_)
  show V X _ z0 0 [some (vr (0))] [] I L R _
  have bd := hC.bd
  have hP := hC.1.1
  have t2 := hC.1.2.2.2.1
  have e4 := hC.2.2.1.1.2.2.2.1
  by_cases hp : HP
  · have b4 := bd.2.2.2.2.2.2.2.2.1 hp
    refine s_aload_n 1 dX11_noPiece_0 rfl rfl ?_
    refine s_getR 4 dX11_noPiece_1 rfl fl_X11_19 (fun _ _ _ _ => rfl) (by assumption) sh_0 (Nat.le_of_ble_eq_true rfl) ?_
    refine s_getI 7 dX11_noPiece_4 rfl fl_X11_142 (fun _ _ _ _ => rfl) (isP_sh (by assumption)) (isP_lt (by assumption)) (fun r_4 => ?_)
    rw [e4]
    refine s_if_ne 14 10 dX11_noPiece_7 rfl rfl (by first | omega | exact bI_r _ | exact iI_r _) (fun h_7 => ?_) (fun h_7 => by exfalso; omega)
    refine s_iconst 15 dX11_noPiece_14 rfl ?_
    refine s_zret dX11_noPiece_15 rfl (by first | omega | exact bI_b _) rfl ?_
    exact ret_f (fun z => z hp) h
  · have b4 := bd.2.2.2.2.2.2.2.2.2 hp
    refine s_aload_n 1 dX11_noPiece_0 rfl rfl ?_
    refine s_getR 4 dX11_noPiece_1 rfl fl_X11_19 (fun _ _ _ _ => rfl) (by assumption) sh_0 (Nat.le_of_ble_eq_true rfl) ?_
    refine s_getI 7 dX11_noPiece_4 rfl fl_X11_142 (fun _ _ _ _ => rfl) (isP_sh (by assumption)) (isP_lt (by assumption)) (fun r_4 => ?_)
    rw [e4]
    refine s_if_ne 14 10 dX11_noPiece_7 rfl rfl (by first | omega | exact bI_r _ | exact iI_r _) (fun h_7 => by exfalso; omega) (fun h_7 => ?_)
    refine s_iconst 11 dX11_noPiece_10 rfl ?_
    refine s_goto 15 dX11_noPiece_11 rfl ?_
    refine s_zret dX11_noPiece_15 rfl (by first | omega | exact bI_b _) rfl ?_
    exact ret_t hp h
set_option maxHeartbeats 4000000 in
theorem c_X11_isPart {E : ET} {I : MI} {L : ML} {R : MR} {Q : Option AV → MI → ML → MR → Prop} {m : Int} {bt : F1} {n ft pl w : Int} {HP : Prop} {r s : F1} {a : List Int} {U D K : List (List Int)} {P P' : Nat} {p : Int} (hC : CV I L R m bt n ft pl w HP r s a U D K P P') (hp : -2147483648 ≤ p ∧ p ≤ 2147483647) (h : Q (some (vi (bI (HP ∧ 0 ≤ p ∧ p < r 4)))) I L R) : CT E M_X11_isPart 161 yX11_isPart [(vr (0)), (vi (p))] I L R Q := by
  refine CT_of rfl rfl (fun h => by cases h) (Nat.le_of_ble_eq_true rfl) (fun X => ?_)
  show V X _ z0 0 [some (vr (0)), some (vi (p))] [] I L R _
  have bd := hC.bd
  have hP := hC.1.1
  have t2 := hC.1.2.2.2.1
  have e4 := hC.2.2.1.1.2.2.2.1
  have eq : (HP ∧ 0 ≤ p ∧ p < r 4) ↔ (0 ≤ p ∧ p < r 4) := ⟨fun z => z.2, fun z => ⟨Classical.byContradiction (fun y => by have := bd.2.2.2.2.2.2.2.2.2 y; omega), z⟩⟩
  rw [bI_c eq] at h
  refine s_iload_n 1 dX11_isPart_0 rfl rfl ?_
  refine s_if_lt 19 4 dX11_isPart_1 rfl rfl (by first | omega | exact bI_r _ | exact iI_r _) (fun h_1 => ?_) (fun h_1 => ?_)
  · skip
    refine s_iconst 20 dX11_isPart_19 rfl ?_
    refine s_zret dX11_isPart_20 rfl (by first | omega | exact bI_b _) rfl ?_
    first | exact ret_t (by omega) h | exact ret_f (by omega) h
  refine s_iload_n 5 dX11_isPart_4 rfl rfl ?_
  refine s_aload_n 6 dX11_isPart_5 rfl rfl ?_
  refine s_getR 9 dX11_isPart_6 rfl fl_X11_19 (fun _ _ _ _ => rfl) (by assumption) sh_0 (Nat.le_of_ble_eq_true rfl) ?_
  refine s_getI 12 dX11_isPart_9 rfl fl_X11_142 (fun _ _ _ _ => rfl) (isP_sh (by assumption)) (isP_lt (by assumption)) (fun r_9 => ?_)
  rw [e4]
  refine s_icmp_ge 19 15 dX11_isPart_12 rfl rfl (by first | omega | exact bI_r _ | exact iI_r _) (by first | omega | exact bI_r _ | exact iI_r _) (fun h_12 => ?_) (fun h_12 => ?_)
  · skip
    refine s_iconst 20 dX11_isPart_19 rfl ?_
    refine s_zret dX11_isPart_20 rfl (by first | omega | exact bI_b _) rfl ?_
    first | exact ret_t (by omega) h | exact ret_f (by omega) h
  refine s_iconst 16 dX11_isPart_15 rfl ?_
  refine s_goto 20 dX11_isPart_16 rfl ?_
  refine s_zret dX11_isPart_20 rfl (by first | omega | exact bI_b _) rfl ?_
  first | exact ret_t (by omega) h | exact ret_f (by omega) h
set_option maxHeartbeats 4000000 in
theorem c_X11_isScene {E : ET} {I : MI} {L : ML} {R : MR} {Q : Option AV → MI → ML → MR → Prop} {m : Int} {bt : F1} {n ft pl w : Int} {HP : Prop} {r s : F1} {a : List Int} {U D K : List (List Int)} {P P' : Nat} {p : Int} (hC : CV I L R m bt n ft pl w HP r s a U D K P P') (hp : -2147483648 ≤ p ∧ p ≤ 2147483647) (h : Q (some (vi (bI (HP ∧ 0 ≤ p ∧ p < r 5)))) I L R) : CT E M_X11_isScene 161 yX11_isScene [(vr (0)), (vi (p))] I L R Q := by
  refine CT_of rfl rfl (fun h => by cases h) (Nat.le_of_ble_eq_true rfl) (fun X => ?_)
  show V X _ z0 0 [some (vr (0)), some (vi (p))] [] I L R _
  have bd := hC.bd
  have hP := hC.1.1
  have t2 := hC.1.2.2.2.1
  have e4 := hC.2.2.1.1.2.2.2.2.1
  have eq : (HP ∧ 0 ≤ p ∧ p < r 5) ↔ (0 ≤ p ∧ p < r 5) := ⟨fun z => z.2, fun z => ⟨Classical.byContradiction (fun y => by have := bd.2.2.2.2.2.2.2.2.2 y; omega), z⟩⟩
  rw [bI_c eq] at h
  refine s_iload_n 1 dX11_isScene_0 rfl rfl ?_
  refine s_if_lt 19 4 dX11_isScene_1 rfl rfl (by first | omega | exact bI_r _ | exact iI_r _) (fun h_1 => ?_) (fun h_1 => ?_)
  · skip
    refine s_iconst 20 dX11_isScene_19 rfl ?_
    refine s_zret dX11_isScene_20 rfl (by first | omega | exact bI_b _) rfl ?_
    first | exact ret_t (by omega) h | exact ret_f (by omega) h
  refine s_iload_n 5 dX11_isScene_4 rfl rfl ?_
  refine s_aload_n 6 dX11_isScene_5 rfl rfl ?_
  refine s_getR 9 dX11_isScene_6 rfl fl_X11_19 (fun _ _ _ _ => rfl) (by assumption) sh_0 (Nat.le_of_ble_eq_true rfl) ?_
  refine s_getI 12 dX11_isScene_9 rfl fl_X11_145 (fun _ _ _ _ => rfl) (isP_sh (by assumption)) (isP_lt (by assumption)) (fun r_9 => ?_)
  rw [e4]
  refine s_icmp_ge 19 15 dX11_isScene_12 rfl rfl (by first | omega | exact bI_r _ | exact iI_r _) (by first | omega | exact bI_r _ | exact iI_r _) (fun h_12 => ?_) (fun h_12 => ?_)
  · skip
    refine s_iconst 20 dX11_isScene_19 rfl ?_
    refine s_zret dX11_isScene_20 rfl (by first | omega | exact bI_b _) rfl ?_
    first | exact ret_t (by omega) h | exact ret_f (by omega) h
  refine s_iconst 16 dX11_isScene_15 rfl ?_
  refine s_goto 20 dX11_isScene_16 rfl ?_
  refine s_zret dX11_isScene_20 rfl (by first | omega | exact bI_b _) rfl ?_
  first | exact ret_t (by omega) h | exact ret_f (by omega) h
set_option maxHeartbeats 4000000 in
theorem c_X11_isOn {E : ET} {I : MI} {L : ML} {R : MR} {Q : Option AV → MI → ML → MR → Prop} {m : Int} {bt : F1} {n ft pl w : Int} {HP : Prop} {r s : F1} {a : List Int} {U D K : List (List Int)} {P P' : Nat} {p : Int} (hC : CV I L R m bt n ft pl w HP r s a U D K P P') (hp : -2147483648 ≤ p ∧ p ≤ 2147483647) (h : Q (some (vi (bI (HP ∧ 0 ≤ p ∧ p < r 7)))) I L R) : CT E M_X11_isOn 161 yX11_isOn [(vr (0)), (vi (p))] I L R Q := by
  refine CT_of rfl rfl (fun h => by cases h) (Nat.le_of_ble_eq_true rfl) (fun X => ?_)
  show V X _ z0 0 [some (vr (0)), some (vi (p))] [] I L R _
  have bd := hC.bd
  have hP := hC.1.1
  have t2 := hC.1.2.2.2.1
  have e4 := hC.2.2.1.1.2.2.2.2.2.2.1
  have eq : (HP ∧ 0 ≤ p ∧ p < r 7) ↔ (0 ≤ p ∧ p < r 7) := ⟨fun z => z.2, fun z => ⟨Classical.byContradiction (fun y => by have := bd.2.2.2.2.2.2.2.2.2 y; omega), z⟩⟩
  rw [bI_c eq] at h
  refine s_iload_n 1 dX11_isOn_0 rfl rfl ?_
  refine s_if_lt 19 4 dX11_isOn_1 rfl rfl (by first | omega | exact bI_r _ | exact iI_r _) (fun h_1 => ?_) (fun h_1 => ?_)
  · skip
    refine s_iconst 20 dX11_isOn_19 rfl ?_
    refine s_zret dX11_isOn_20 rfl (by first | omega | exact bI_b _) rfl ?_
    first | exact ret_t (by omega) h | exact ret_f (by omega) h
  refine s_iload_n 5 dX11_isOn_4 rfl rfl ?_
  refine s_aload_n 6 dX11_isOn_5 rfl rfl ?_
  refine s_getR 9 dX11_isOn_6 rfl fl_X11_19 (fun _ _ _ _ => rfl) (by assumption) sh_0 (Nat.le_of_ble_eq_true rfl) ?_
  refine s_getI 12 dX11_isOn_9 rfl fl_X11_116 (fun _ _ _ _ => rfl) (isP_sh (by assumption)) (isP_lt (by assumption)) (fun r_9 => ?_)
  rw [e4]
  refine s_icmp_ge 19 15 dX11_isOn_12 rfl rfl (by first | omega | exact bI_r _ | exact iI_r _) (by first | omega | exact bI_r _ | exact iI_r _) (fun h_12 => ?_) (fun h_12 => ?_)
  · skip
    refine s_iconst 20 dX11_isOn_19 rfl ?_
    refine s_zret dX11_isOn_20 rfl (by first | omega | exact bI_b _) rfl ?_
    first | exact ret_t (by omega) h | exact ret_f (by omega) h
  refine s_iconst 16 dX11_isOn_15 rfl ?_
  refine s_goto 20 dX11_isOn_16 rfl ?_
  refine s_zret dX11_isOn_20 rfl (by first | omega | exact bI_b _) rfl ?_
  first | exact ret_t (by omega) h | exact ret_f (by omega) h
set_option maxHeartbeats 4000000 in
theorem c_X11_isSaw {E : ET} {I : MI} {L : ML} {R : MR} {Q : Option AV → MI → ML → MR → Prop} {m : Int} {bt : F1} {n ft pl w : Int} {HP : Prop} {r s : F1} {a : List Int} {U D K : List (List Int)} {P P' : Nat} {p : Int} (hC : CV I L R m bt n ft pl w HP r s a U D K P P') (hp : -2147483648 ≤ p ∧ p ≤ 2147483647) (h : Q (some (vi (bI (HP ∧ 0 ≤ p ∧ p < r 8)))) I L R) : CT E M_X11_isSaw 161 yX11_isSaw [(vr (0)), (vi (p))] I L R Q := by
  refine CT_of rfl rfl (fun h => by cases h) (Nat.le_of_ble_eq_true rfl) (fun X => ?_)
  show V X _ z0 0 [some (vr (0)), some (vi (p))] [] I L R _
  have bd := hC.bd
  have hP := hC.1.1
  have t2 := hC.1.2.2.2.1
  have e4 := hC.2.2.1.1.2.2.2.2.2.2.2
  have eq : (HP ∧ 0 ≤ p ∧ p < r 8) ↔ (0 ≤ p ∧ p < r 8) := ⟨fun z => z.2, fun z => ⟨Classical.byContradiction (fun y => by have := bd.2.2.2.2.2.2.2.2.2 y; omega), z⟩⟩
  rw [bI_c eq] at h
  refine s_iload_n 1 dX11_isSaw_0 rfl rfl ?_
  refine s_if_lt 19 4 dX11_isSaw_1 rfl rfl (by first | omega | exact bI_r _ | exact iI_r _) (fun h_1 => ?_) (fun h_1 => ?_)
  · skip
    refine s_iconst 20 dX11_isSaw_19 rfl ?_
    refine s_zret dX11_isSaw_20 rfl (by first | omega | exact bI_b _) rfl ?_
    first | exact ret_t (by omega) h | exact ret_f (by omega) h
  refine s_iload_n 5 dX11_isSaw_4 rfl rfl ?_
  refine s_aload_n 6 dX11_isSaw_5 rfl rfl ?_
  refine s_getR 9 dX11_isSaw_6 rfl fl_X11_19 (fun _ _ _ _ => rfl) (by assumption) sh_0 (Nat.le_of_ble_eq_true rfl) ?_
  refine s_getI 12 dX11_isSaw_9 rfl fl_X11_148 (fun _ _ _ _ => rfl) (isP_sh (by assumption)) (isP_lt (by assumption)) (fun r_9 => ?_)
  rw [e4]
  refine s_icmp_ge 19 15 dX11_isSaw_12 rfl rfl (by first | omega | exact bI_r _ | exact iI_r _) (by first | omega | exact bI_r _ | exact iI_r _) (fun h_12 => ?_) (fun h_12 => ?_)
  · skip
    refine s_iconst 20 dX11_isSaw_19 rfl ?_
    refine s_zret dX11_isSaw_20 rfl (by first | omega | exact bI_b _) rfl ?_
    first | exact ret_t (by omega) h | exact ret_f (by omega) h
  refine s_iconst 16 dX11_isSaw_15 rfl ?_
  refine s_goto 20 dX11_isSaw_16 rfl ?_
  refine s_zret dX11_isSaw_20 rfl (by first | omega | exact bI_b _) rfl ?_
  first | exact ret_t (by omega) h | exact ret_f (by omega) h
set_option maxHeartbeats 4000000 in
theorem c_X11_isPlayer {E : ET} {I : MI} {L : ML} {R : MR} {Q : Option AV → MI → ML → MR → Prop} {m : Int} {bt : F1} {n ft pl w : Int} {HP : Prop} {r s : F1} {a : List Int} {U D K : List (List Int)} {P P' : Nat} {p : Int} (hC : CV I L R m bt n ft pl w HP r s a U D K P P') (hp : -2147483648 ≤ p ∧ p ≤ 2147483647) (h : Q (some (vi (bI (HP ∧ 0 ≤ p ∧ p < 7)))) I L R) : CT E M_X11_isPlayer 161 yX11_isPlayer [(vr (0)), (vi (p))] I L R Q := by
  refine CT_of rfl rfl (fun h => by cases h) (Nat.le_of_ble_eq_true rfl) (fun X => ?_)
  show V X _ z0 0 [some (vr (0)), some (vi (p))] [] I L R _
  by_cases hh : HP
  · have eq : (HP ∧ 0 ≤ p ∧ p < 7) ↔ (0 ≤ p ∧ p < 7) := ⟨fun z => z.2, fun z => ⟨hh, z⟩⟩
    rw [bI_c eq] at h
    refine s_aload_n 1 dX11_isPlayer_0 rfl rfl ?_
    refine s_callV0 (M' := M_X11_noPiece) (as := []) 4 dX11_isPlayer_1 rfl cw_X11_151 rfl rfl sh_0 rfl (by decide) (Nat.le_of_ble_eq_true rfl) (Nat.le_of_ble_eq_true rfl) (Nat.le_of_ble_eq_true rfl) (Nat.le_of_ble_eq_true rfl) ⟨rfl, rfl, rfl⟩ ?_
    refine c_X11_noPiece hC ?_
    refine s_ifb_ne 21 7 dX11_isPlayer_4 rfl rfl (fun h_4 => by exfalso; exact h_4 hh) (fun h_4 => ?_)
    refine s_iload_n 8 dX11_isPlayer_7 rfl rfl ?_
    refine s_if_lt 21 11 dX11_isPlayer_8 rfl rfl (by first | omega | exact bI_r _ | exact iI_r _) (fun h_8 => ?_) (fun h_8 => ?_)
    · skip
      refine s_iconst 22 dX11_isPlayer_21 rfl ?_
      refine s_zret dX11_isPlayer_22 rfl (by first | omega | exact bI_b _) rfl ?_
      first | exact ret_t (by omega) h | exact ret_f (by omega) h
    refine s_iload_n 12 dX11_isPlayer_11 rfl rfl ?_
    refine s_bipush 14 dX11_isPlayer_12 rfl (by decide) ?_
    refine s_icmp_ge 21 17 dX11_isPlayer_14 rfl rfl (by first | omega | exact bI_r _ | exact iI_r _) (by first | omega | exact bI_r _ | exact iI_r _) (fun h_14 => ?_) (fun h_14 => ?_)
    · skip
      refine s_iconst 22 dX11_isPlayer_21 rfl ?_
      refine s_zret dX11_isPlayer_22 rfl (by first | omega | exact bI_b _) rfl ?_
      first | exact ret_t (by omega) h | exact ret_f (by omega) h
    refine s_iconst 18 dX11_isPlayer_17 rfl ?_
    refine s_goto 22 dX11_isPlayer_18 rfl ?_
    refine s_zret dX11_isPlayer_22 rfl (by first | omega | exact bI_b _) rfl ?_
    first | exact ret_t (by omega) h | exact ret_f (by omega) h
  · skip
    refine s_aload_n 1 dX11_isPlayer_0 rfl rfl ?_
    refine s_callV0 (M' := M_X11_noPiece) (as := []) 4 dX11_isPlayer_1 rfl cw_X11_151 rfl rfl sh_0 rfl (by decide) (Nat.le_of_ble_eq_true rfl) (Nat.le_of_ble_eq_true rfl) (Nat.le_of_ble_eq_true rfl) (Nat.le_of_ble_eq_true rfl) ⟨rfl, rfl, rfl⟩ ?_
    refine c_X11_noPiece hC ?_
    refine s_ifb_ne 21 7 dX11_isPlayer_4 rfl rfl (fun h_4 => ?_) (fun h_4 => by exfalso; exact h_4 hh)
    refine s_iconst 22 dX11_isPlayer_21 rfl ?_
    refine s_zret dX11_isPlayer_22 rfl (by first | omega | exact bI_b _) rfl ?_
    exact ret_f (fun z => hh z.1) h
-- the times of THE EVENING
set_option maxHeartbeats 4000000 in
theorem c_X11_tonight {E : ET} {I : MI} {L : ML} {R : MR} {Q : Option AV → MI → ML → MR → Prop} {m : Int} {bt : F1} {n ft pl w : Int} {HP : Prop} {r s : F1} {a : List Int} {U D K : List (List Int)} {P P' : Nat} (hT : Topo R) (hC : CV I L R m bt n ft pl w HP r s a U D K P P') (hh : HP) (hm : 0 ≤ m ∧ m ≤ 1000000) (h : ∀ I', NtF 85 I I' → SetN I' 85 r (-1) (I' 80 0) (r 2) s (s 12) → CV I' L R (m + 1) bt n ft pl w HP r s a U D K P P' → Q (some (vr 85)) I' L R) : CT E M_X11_tonight 161 yX11_tonight [(vr (0))] I L R Q := by
  refine CT_of rfl rfl (fun h => by cases h) (Nat.le_of_ble_eq_true rfl) (fun X => ?_)
  show V X _ z0 0 [some (vr (0))] [] I L R _
  have bd := hC.bd
  have hP := hC.1.1
  have hp : P = 3 ∨ P = 39 := hP
  have t2 := hC.1.2.2.2.1
  have h85 := hC.1.2.2.2.2.2.1
  obtain ⟨hs, hw, hN⟩ := hC.2.2.2.2.2.2.1 hh
  have hr := hs.1
  have e0 := hr.1
  have hR := hC.2.2.1
  have e2 := hR.1.2.1
  obtain ⟨e80, e81, e82⟩ := hC.2.2.2.1
  have hcut : 0 ≤ s 12 ∧ s 12 < 16384 := by
    have h1 := hs.2.2.2.2
    have hp2 : (2 : Nat) ^ (r 7).toNat ≤ 2 ^ 14 := Nat.pow_le_pow_right (by omega) (by omega)
    have hp3 : (2 : Int) ^ (r 7).toNat = ((2 ^ (r 7).toNat : Nat) : Int) := by simp
    omega
  have hst := hC.2.2.2.2.2.1
  refine s_aload_n 1 dX11_tonight_0 rfl rfl ?_
  refine s_getR 4 dX11_tonight_1 rfl fl_X11_54 (fun _ _ _ _ => rfl) (T_X11_night hT) sh_0 (Nat.le_of_ble_eq_true rfl) ?_
  refine s_aload_n 5 dX11_tonight_4 rfl rfl ?_
  refine s_getR 8 dX11_tonight_5 rfl fl_X11_38 (fun _ _ _ _ => rfl) (T_X11_evening hT) sh_0 (Nat.le_of_ble_eq_true rfl) ?_
  refine s_getI 11 dX11_tonight_8 rfl fl_X11_155 (fun _ _ _ _ => rfl) sh_80 (Nat.le_of_ble_eq_true rfl) (fun r_8 => ?_)
  refine s_aload_n 12 dX11_tonight_11 rfl rfl ?_
  refine s_getR 15 dX11_tonight_12 rfl fl_X11_19 (fun _ _ _ _ => rfl) (by assumption) sh_0 (Nat.le_of_ble_eq_true rfl) ?_
  refine s_getI 18 dX11_tonight_15 rfl fl_X11_158 (fun _ _ _ _ => rfl) (isP_sh (by assumption)) (isP_lt (by assumption)) (fun r_15 => ?_)
  rw [e2]
  refine s_aload_n 19 dX11_tonight_18 rfl rfl ?_
  refine s_getR 22 dX11_tonight_19 rfl fl_X11_38 (fun _ _ _ _ => rfl) (T_X11_evening hT) sh_0 (Nat.le_of_ble_eq_true rfl) ?_
  refine s_getI 25 dX11_tonight_22 rfl fl_X11_161 (fun _ _ _ _ => rfl) sh_80 (Nat.le_of_ble_eq_true rfl) (fun r_22 => ?_)
  rw [e82]
  refine s_callV0 (M' := M_X4_set) (as := [_, _, _]) 28 dX11_tonight_25 rfl cw_X11_164 rfl rfl (isN_sh isN_85) rfl (by decide) (isN_lt isN_85) (Nat.le_of_ble_eq_true rfl) (Nat.le_of_ble_eq_true rfl) (Nat.le_of_ble_eq_true rfl) ⟨rfl, rfl, rfl⟩ ?_
  refine c_X4_set hT isN_85 hP h85 hr hR hN.2.1 e80 hs.p (by omega) hcut (fun I2 g1 g2 g3 => ?_)
  refine s_aload_n 29 dX11_tonight_28 rfl rfl ?_
  refine s_getR 32 dX11_tonight_29 rfl fl_X11_54 (fun _ _ _ _ => rfl) (T_X11_night hT) sh_0 (Nat.le_of_ble_eq_true rfl) ?_
  refine s_aret dX11_tonight_32 rfl (Or.inl ⟨_, rfl⟩) rfl ?_
  have e8 : I2 80 = I 80 := g1 80 (by decide)
  have n85 := g2.nt e80 hs.p (by omega)
  have lo : ∀ c, c < 85 → I2 c = I c := fun c hc => g1 c (by omega)
  rcases g3 with g3 | g3
  · subst g3
    exact h I2 g1 g2 (hC.mo (by omega))
  · have sv : I2 85 12 = I 85 12 + 1 := by rw [g3]; unfold wI; exact iI_t (by unfold CvS at hst; omega)
    have e107 : I2 107 = I 107 := g1 107 (by decide)
    unfold CvS at hst
    refine h I2 g1 (by rw [e8]; exact g2) (hC.ng lo ?_ (fun _ => ⟨hN.1.nt isN_85 hP g1, n85, fun _ sc _ _ => ⟨fun z => ?_, fun z => ?_⟩, hN.2.2.2.1.eq (by omega) (fun c x y => g1 c (by omega)), ?_, fun i x y => by rw [g1 137 (by decide)]; exact hN.2.2.2.2.2.1 i x y, hN.2.2.2.2.2.2.c (g1 136 (by decide)) (fun _ _ _ => Iff.rfl)⟩))
    · unfold CvS; rw [e107, sv]; omega
    · rw [e107, sv] at z; omega
    · rw [e107, sv] at z; omega
    · have b5 := hN.2.2.2.2.1; unfold BaI at *; rw [g1 111 (by decide)]; exact b5
