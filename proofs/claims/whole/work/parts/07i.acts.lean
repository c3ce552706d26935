/-! what the class answers, 8: acts -/
def Pk2 (r : F1) (A : List Int64) (U : List (List Int)) : Prop := A.length = U.length ∧ ∀ j : Nat, j < U.length → PkR r (A.getD j 0) (U.getD j [])
theorem AcR.mk {L : ML} {c : Nat} {r : F1} {U : List (List Int)} (h : AcR L c r U) : ∃ A : List Int64, AcL L c A ∧ Pk2 r A U := by
  refine ⟨(List.range U.length).map (fun j : Nat => L c j), fun j hj => ?_, by simp, fun j hj => ?_⟩
  · rw [List.length_map, List.length_range] at hj
    rw [List.getD_eq_getElem?_getD, List.getElem?_map, List.getElem?_range hj]
    rfl
  · rw [List.getD_eq_getElem?_getD, List.getElem?_map, List.getElem?_range hj]
    exact h j hj
theorem Pk2.ac {L : ML} {c : Nat} {r : F1} {A : List Int64} {U : List (List Int)} (h : Pk2 r A U) (hA : AcL L c A) : AcR L c r U := fun j hj => by
  rw [hA j (by rw [h.1]; exact hj)]
  exact h.2 j hj
theorem Pk2.ap {r : F1} {A : List Int64} {U : List (List Int)} {e : Int64} {x : List Int} (h : Pk2 r A U) (hx : PkR r e x) : Pk2 r (A ++ [e]) (U ++ [x]) := by
  refine ⟨by rw [List.length_append, List.length_append, h.1]; rfl, fun j hj => ?_⟩
  rw [List.length_append, List.length_singleton] at hj
  by_cases ej : j = U.length
  · subst ej
    rw [List.getD_eq_getElem?_getD, List.getD_eq_getElem?_getD, List.getElem?_concat_length, ← h.1, List.getElem?_concat_length]
    exact hx
  · rw [List.getD_eq_getElem?_getD, List.getD_eq_getElem?_getD, List.getElem?_append_left (by rw [h.1]; omega), List.getElem?_append_left (by omega), ← List.getD_eq_getElem?_getD, ← List.getD_eq_getElem?_getD]
    exact h.2 j (by omega)
theorem Pk2.tl {r : F1} {A : List Int64} {U : List (List Int)} (h : Pk2 r A U) : Pk2 r A.tail U.tail := by
  refine ⟨by rw [List.length_tail, List.length_tail, h.1], fun j hj => ?_⟩
  rw [List.length_tail] at hj
  have := h.2 (j + 1) (by omega)
  rw [List.getD_eq_getElem?_getD, List.getD_eq_getElem?_getD] at this
  rw [List.getD_eq_getElem?_getD, List.getD_eq_getElem?_getD, List.getElem?_tail, List.getElem?_tail]
  exact this
theorem Pk2.dl {r : F1} {A : List Int64} {U : List (List Int)} (h : Pk2 r A U) : Pk2 r A.dropLast U.dropLast := by
  refine ⟨by rw [List.length_dropLast, List.length_dropLast, h.1], fun j hj => ?_⟩
  rw [List.length_dropLast] at hj
  have := h.2 j (by omega)
  rw [List.getD_eq_getElem?_getD, List.getD_eq_getElem?_getD] at this
  rw [List.getD_eq_getElem?_getD, List.getD_eq_getElem?_getD, List.getElem?_dropLast, List.getElem?_dropLast, h.1, if_pos hj, if_pos hj]
  exact this
theorem Pk2.nil {r : F1} : Pk2 r [] [] := ⟨rfl, fun j hj => absurd hj (by simp)⟩
theorem kp_df (l : List (List Int)) (x : List Int) : kp l x = (if l.length = 12 then l.tail else l) ++ [x] := rfl
theorem Pk2.kp {r : F1} {A : List Int64} {U : List (List Int)} {e : Int64} {x : List Int} (h : Pk2 r A U) (hx : PkR r e x) : Pk2 r (kpL A e) (kp U x) := by
  rw [kp_df]
  unfold kpL
  rw [h.1]
  by_cases z : U.length = 12
  · rw [if_pos z, if_pos z]; exact h.tl.ap hx
  · rw [if_neg z, if_neg z]; exact h.ap hx
theorem Pk2.la {r : F1} {A : List Int64} {U : List (List Int)} (h : Pk2 r A U) (hn : U ≠ []) : PkR r (A.getLastD 0) (lastR U) := by
  have hl : 0 < U.length := List.length_pos_iff.mpr hn
  have := h.2 (U.length - 1) (by omega)
  unfold lastR
  rw [List.getLastD_eq_getLast?, List.getLastD_eq_getLast?, List.getLast?_eq_getElem?, List.getLast?_eq_getElem?, h.1, ← List.getD_eq_getElem?_getD, ← List.getD_eq_getElem?_getD]
  exact this
theorem SOk.c {r s s' : F1} {a : List Int} (h : SOk r s a) (e : ∀ k, 0 ≤ k → k < 13 → s' k = s k) : SOk r s' a := by
  have e0 := h.1.1
  refine ⟨h.1, h.2.1, fun k a b => by rw [e k a (by omega)]; exact h.2.2.1 k a b, fun p a b => by rw [e (5 + p) (by omega) (by omega)]; exact h.2.2.2.1 p a b, ?_⟩
  rw [e 12 (by decide) (by decide)]
  exact h.2.2.2.2
theorem PkR.mk {I : MI} {r s : F1} {a : List Int} (hE : CvE I r s) (hs : SOk r s a) : PkR r (pkE (I 80 0) (I 80 1) (s 12)) (rowAt s 0) := by
  have e0 := hs.1.1
  have ev : ∀ k, 0 ≤ k → k < 13 → vL (rowAt s 0) k = s k := fun k a b => by rw [vL_row ⟨a, b⟩]; congr 1; omega
  refine ⟨I 80 0, I 80 1, a, hE.1.c (fun k a b => (ev k a (by omega)).symm), hE.2.1.c (fun p a b => (ev (5 + p) (by omega) (by omega)).symm), by rw [ev 12 (by decide) (by decide)], hs.c ev⟩
/-- an act -/
theorem CV.ac {I I' : MI} {L L' : ML} {R : MR} {m : Int} {bt : F1} {n ft pl w : Int} {HP : Prop} {r s s' : F1} {a a' : List Int} {U D K U' D' K' : List (List Int)} {P P' : Nat} (h : CV I L R m bt n ft pl w HP r s a U D K P P') (hh : HP) (e : ∀ c, c ≠ 80 → c ≠ 81 → I' c = I c) (hE : CvE I' r s') (hs : SOk r s' a') (hH : CvH I' L' r U' D' K') : CV I' L' R m bt n ft pl w HP r s' a' U' D' K' P P' := by
  have bd := h.bd
  obtain ⟨t, ⟨a1, a2, a3, a4, a5, a6⟩, p, _, _, c9, hh9, hz⟩ := h
  have hp : P = 3 ∨ P = 39 := t.1
  have ee : ∀ c, c < 80 ∨ 81 < c → I' c = I c := fun c hc => e c (by omega) (by omega)
  obtain ⟨h0, hw, h1, h2, h3, h4, h5, h6, h7⟩ := hh9 hh
  refine ⟨t, ⟨by rw [ee 1 (by decide)]; exact a1, a2, fun k k1 k2 => by rw [ee 2 (by decide)]; exact a3 k k1 k2, by rw [ee 0 (by decide)]; exact a4, by rw [ee 0 (by decide)]; exact a5, fun z => by rw [ee 0 (by decide)]; exact a6 z⟩, p.c (by omega) (fun c x y => ee c (by omega)), hE, hH, ?_, fun _ => ⟨hs, hw, h1.c (ee P (by omega)) (ee (P + 35) (by omega)), h2.eq (by omega) (fun c a b => ee c (by omega)), h3.eq (ee 85 (by decide)) (ee 107 (by decide)) (ee 109 (by decide)), h4.eq (by omega) (fun c a b => ee c (by omega)), ?_, fun i a b => by rw [ee 137 (by decide)]; exact h6 i a b, h7.c (ee 136 (by decide)) (fun _ _ _ => Iff.rfl)⟩, fun z => absurd hh z⟩
  · unfold CvS at *
    rw [ee 85 (by decide), ee 107 (by decide)]; exact c9
  · unfold BaI at *
    rw [ee 111 (by decide)]; exact h5
theorem CvH.keep {I I1 : MI} {L L1 : ML} {r : F1} {U D K : List (List Int)} {A : List Int64} {e : Int64} {x : List Int} (h : CvH I L r U D K) (hA : Pk2 r A U) (hx : PkR r e x) (g2 : I1 81 1 = ((kpL A e).length : Int)) (g3 : I1 81 3 = 0) (g4 : I1 81 5 = I 81 5) (g5 : ∀ c, c ≠ 82 → L1 c = L c) (g6 : AcL L1 82 (kpL A e)) : CvH I1 L1 r (kp U x) [] K := by
  have k := hA.kp hx
  obtain ⟨⟨b1, b2⟩, ⟨b3, b4⟩, ⟨b5, b6⟩, b7, b8⟩ := h
  refine ⟨⟨by rw [g2, k.1], k.ac g6⟩, ⟨by rw [g3]; rfl, fun j hj => absurd hj (by simp)⟩, ⟨by rw [g4]; exact b5, fun j hj => by rw [g5 84 (by decide)]; exact b6 j hj⟩, ?_, b8⟩
  have := kp_len (U := U) (x := x) (by omega)
  show (kp U x).length + 0 ≤ 12
  omega
theorem tn_P {v : F1} {n i j : Int} (hv : Perm n v) (hi : 0 ≤ i ∧ i < n) (hj : 0 ≤ j ∧ j < n) (hn : i ≠ j) : Perm n (tnF v i j) := by
  rcases Int.lt_trichotomy i j with z | z | z
  · exact tn_Perm hv ⟨hi.1, z⟩ hj.2
  · exact absurd z hn
  · have := tn_Perm hv ⟨hj.1, z⟩ hi.2
    have e : tnF v i j = tnF v j i := by
      funext k
      unfold tnF
      by_cases z1 : k = j
      · rw [if_pos z1, if_neg (by omega), if_pos z1]
      · rw [if_neg z1]
        by_cases z2 : k = i
        · rw [if_pos z2, if_pos z2]
        · rw [if_neg z2, if_neg z2, if_neg z1]
    rw [e]; exact this
theorem tn_ok {r s : F1} {a : List Int} {i j : Int} (hs : SOk r s a) (hi : 0 ≤ i ∧ i < r 5) (hj : 0 ≤ j ∧ j < r 5) (hn : i ≠ j) (ho : OrdP r (tnF s i j)) : ∃ a', SOk r (tnF s i j) a' := by
  have e0 := hs.1.1
  have hp : Perm (r 5) (tnF s i j) := tn_P hs.p hi hj hn
  have out : ∀ k, 5 ≤ k → tnF s i j k = s k := fun k hk => by unfold tnF; rw [if_neg (by omega), if_neg (by omega)]
  obtain ⟨l, l1, l2⟩ := ordL_all hs.1 hp ho
  refine ⟨l, hs.1, l1, fun k a b => (l2 k a b).symm, fun p a b => by rw [out (5 + p) (by omega)]; exact hs.2.2.2.1 p a b, ?_⟩
  rw [out 12 (by decide)]
  exact hs.2.2.2.2
set_option maxHeartbeats 4000000 in
theorem c_X11_swap {E : ET} {I : MI} {L : ML} {R : MR} {Q : Option AV → MI → ML → MR → Prop} {m : Int} {bt : F1} {n ft pl w : Int} {HP : Prop} {r s : F1} {a : List Int} {U D K : List (List Int)} {P P' : Nat} {i j : Int} (hT : Topo R) (hC : CV I L R m bt n ft pl w HP r s a U D K P P') (hm : 0 ≤ m ∧ m ≤ 900000) (hi : -2147483648 ≤ i ∧ i ≤ 2147483647) (hj : -2147483648 ≤ j ∧ j ≤ 2147483647) (h : ∀ C1 C2, C1 = ((HP ∧ 0 ≤ i ∧ i < r 5) ∧ (HP ∧ 0 ≤ j ∧ j < r 5) ∧ i ≠ j) → C2 = OrdP r (tnF s i j) → ∀ I' L' a', Hi I I' → CV I' L' R (m + 8) bt n ft pl (pick C1 (pick C2 0 5) 1) HP r (pick (C1 ∧ C2) (tnF s i j) s) a' (pick (C1 ∧ C2) (kp U (rowAt s 0)) U) (pick (C1 ∧ C2) [] D) K P P' → Q (some (vi (bI (C1 ∧ C2)))) I' L' R) : CT E M_X11_swap 161 yX11_swap [(vr (0)), (vi (i)), (vi (j))] I L R Q := by
  refine CT_of rfl rfl (fun h => by cases h) (Nat.le_of_ble_eq_true rfl) (fun X => ?_)
  show V X _ z0 0 [some (vr (0)), some (vi (i)), some (vi (j)), none] [] I L R _
  have h := h _ _ rfl rfl
  have bd := hC.bd
  have hP := hC.1.1
  have t2 := hC.1.2.2.2.1
  have hR := hC.2.2.1
  have hE := hC.2.2.2.1
  by_cases hc : (HP ∧ 0 ≤ i ∧ i < r 5) ∧ (HP ∧ 0 ≤ j ∧ j < r 5) ∧ i ≠ j
  · have hh := hc.1.1
    obtain ⟨hs, hw9, hN⟩ := hC.2.2.2.2.2.2.1 hh
    by_cases ho : OrdP r (tnF s i j)
    · rw [pick_t hc, pick_t ho, pick_t ⟨hc, ho⟩, pick_t ⟨hc, ho⟩, pick_t ⟨hc, ho⟩, bI_t ⟨hc, ho⟩] at h
      obtain ⟨a', ha'⟩ := tn_ok hs hc.1.2 hc.2.1.2 hc.2.2 ho
      obtain ⟨A, hA1, hA2⟩ := hC.2.2.2.2.1.1.2.mk
      have hH := hC.2.2.2.2.1
      have hct := hs.ct
      have hul := hH.2.2.2.1
      have hx := PkR.mk hE hs
      refine s_aload_n 1 dX11_swap_0 rfl rfl ?_
      refine s_iload_n 2 dX11_swap_1 rfl rfl ?_
      refine s_callV0 (M' := M_X11_isScene) (as := [_]) 5 dX11_swap_2 rfl cw_X11_178 rfl rfl sh_0 rfl (by decide) (Nat.le_of_ble_eq_true rfl) (Nat.le_of_ble_eq_true rfl) (Nat.le_of_ble_eq_true rfl) (Nat.le_of_ble_eq_true rfl) ⟨rfl, rfl, rfl⟩ ?_
      refine c_X11_isScene hC hi ?_
      refine s_ifb_eq 21 8 dX11_swap_5 rfl rfl (fun h_5 => by exfalso; exact h_5 hc.1) (fun h_5 => ?_)
      refine s_aload_n 9 dX11_swap_8 rfl rfl ?_
      refine s_iload_n 10 dX11_swap_9 rfl rfl ?_
      refine s_callV0 (M' := M_X11_isScene) (as := [_]) 13 dX11_swap_10 rfl cw_X11_178 rfl rfl sh_0 rfl (by decide) (Nat.le_of_ble_eq_true rfl) (Nat.le_of_ble_eq_true rfl) (Nat.le_of_ble_eq_true rfl) (Nat.le_of_ble_eq_true rfl) ⟨rfl, rfl, rfl⟩ ?_
      refine c_X11_isScene hC hj ?_
      refine s_ifb_eq 21 16 dX11_swap_13 rfl rfl (fun h_13 => by exfalso; exact h_13 hc.2.1) (fun h_13 => ?_)
      refine s_iload_n 17 dX11_swap_16 rfl rfl ?_
      refine s_iload_n 18 dX11_swap_17 rfl rfl ?_
      refine s_icmp_ne 27 21 dX11_swap_18 rfl rfl (by first | omega | exact bI_r _ | exact iI_r _) (by first | omega | exact bI_r _ | exact iI_r _) (fun h_18 => ?_) (fun h_18 => by exfalso; omega)
      refine s_aload_n 28 dX11_swap_27 rfl rfl ?_
      refine s_getR 31 dX11_swap_28 rfl fl_X11_38 (fun _ _ _ _ => rfl) (T_X11_evening hT) sh_0 (Nat.le_of_ble_eq_true rfl) ?_
      refine s_getI 34 dX11_swap_31 rfl fl_X11_155 (fun _ _ _ _ => rfl) sh_80 (Nat.le_of_ble_eq_true rfl) (fun r_31 => ?_)
      refine s_iload_n 35 dX11_swap_34 rfl rfl ?_
      refine s_iload_n 36 dX11_swap_35 rfl rfl ?_
      refine s_callS0 (M' := M_X11_swapped) (as := [_, _, _]) 39 dX11_swap_36 rfl cw_X11_313 rfl rfl (Nat.le_of_ble_eq_true rfl) (Nat.le_of_ble_eq_true rfl) (Nat.le_of_ble_eq_true rfl) ⟨rfl, rfl, rfl⟩ ?_
      refine c_X11_swapped hE.1 (by omega) hc.1.2 hc.2.1.2 (fun O hO => ?_)
      refine s_istore_n (ls' := [_, _, _, _]) 40 dX11_swap_39 rfl (Nat.le_of_ble_eq_true rfl) rfl rfl ?_
      refine s_aload_n 41 dX11_swap_40 rfl rfl ?_
      refine s_getR 44 dX11_swap_41 rfl fl_X11_19 (fun _ _ _ _ => rfl) (by assumption) sh_0 (Nat.le_of_ble_eq_true rfl) ?_
      refine s_iload_n 45 dX11_swap_44 rfl rfl ?_
      refine s_callV0 (M' := M_X5_isOrder) (as := [_]) 48 dX11_swap_45 rfl cw_X11_316 rfl rfl (isP_sh (by assumption)) rfl (by decide) (isP_lt (by assumption)) (Nat.le_of_ble_eq_true rfl) (Nat.le_of_ble_eq_true rfl) (Nat.le_of_ble_eq_true rfl) ⟨rfl, rfl, rfl⟩ ?_
      refine c_X5_isOrder hT hP hs.1 hR hO (tn_P hs.p hc.1.2 hc.2.1.2 hc.2.2) ?_
      refine s_ifb_ne 57 51 dX11_swap_48 rfl rfl (fun h_48 => ?_) (fun h_48 => by exfalso; exact h_48 ho)
      refine s_aload_n 58 dX11_swap_57 rfl rfl ?_
      refine s_getR 61 dX11_swap_58 rfl fl_X11_45 (fun _ _ _ _ => rfl) (T_X11_acts hT) sh_0 (Nat.le_of_ble_eq_true rfl) ?_
      refine s_aload_n 62 dX11_swap_61 rfl rfl ?_
      refine s_getR 65 dX11_swap_62 rfl fl_X11_38 (fun _ _ _ _ => rfl) (T_X11_evening hT) sh_0 (Nat.le_of_ble_eq_true rfl) ?_
      refine s_callV0 (M' := M_X2_packed) (as := []) 68 dX11_swap_65 rfl cw_X11_319 rfl rfl sh_80 rfl (by decide) (Nat.le_of_ble_eq_true rfl) (Nat.le_of_ble_eq_true rfl) (Nat.le_of_ble_eq_true rfl) (Nat.le_of_ble_eq_true rfl) ⟨rfl, rfl, rfl⟩ ?_
      refine c_X2_packed (g := I 80 1) rfl rfl hE.2.2 hE.1.n hE.2.1.1 hct ?_
      refine s_callV0 (M' := M_X0_keep) (as := [_]) 71 dX11_swap_68 rfl cw_X11_323 rfl rfl sh_81 rfl (by decide) (Nat.le_of_ble_eq_true rfl) (Nat.le_of_ble_eq_true rfl) (Nat.le_of_ble_eq_true rfl) (Nat.le_of_ble_eq_true rfl) ⟨rfl, rfl, rfl⟩ ?_
      have hOb := hO.1
      refine c_X0_keep hT (by rw [hA2.1]; exact hH.1.1) (by rw [hA2.1]; omega) hA1 (fun I1 L1 g1 g2 g3 g4 g5 g6 => ?_)
      refine s_aload_n 72 dX11_swap_71 rfl rfl ?_
      refine s_getR 75 dX11_swap_72 rfl fl_X11_38 (fun _ _ _ _ => rfl) (T_X11_evening hT) sh_0 (Nat.le_of_ble_eq_true rfl) ?_
      refine s_iload_n 76 dX11_swap_75 rfl rfl ?_
      refine s_putI 79 dX11_swap_76 rfl fl_X11_155 (fun _ => rfl) (fun _ => rfl) (fun _ _ _ _ => rfl) sh_80 (Nat.le_of_ble_eq_true rfl) (by first | omega | exact bI_r _ | exact iI_r _) ?_
      refine s_aload_n 80 dX11_swap_79 rfl rfl ?_
      refine s_callV0 (M' := M_X11_done) (as := []) 83 dX11_swap_80 rfl cw_X11_327 rfl rfl sh_0 rfl (by decide) (Nat.le_of_ble_eq_true rfl) (Nat.le_of_ble_eq_true rfl) (Nat.le_of_ble_eq_true rfl) (Nat.le_of_ble_eq_true rfl) ⟨rfl, rfl, rfl⟩ ?_
      refine c_X11_done ?_
      refine s_zret dX11_swap_83 rfl (by first | omega | exact bI_b _) rfl ?_
      have H2 := hH.keep hA2 hx g2 g3 g4 g5 g6
      have I80 : I1 80 = I 80 := g1 80 (by decide)
      refine h _ L1 a' ?_ ((CV.ac (hC.mo (by omega)) hh (fun c c1 c2 => ?_) ?_ ha' ?_).rf (by decide))
      · exact Hi.st (Hi.st (fun c hc => g1 c (by simp; omega)) (by decide)) (by decide)
      · rw [up_ne c1]; exact g1 c (by simpa using c2)
      · refine ⟨by rw [ups]; exact hO, ?_, by rw [upn (by decide), I80]; exact hE.2.2.trans (by unfold tnF; rw [if_neg (by omega), if_neg (by omega)])⟩
        rw [upn (by decide), I80]
        exact hE.2.1.c (fun p p1 p2 => by unfold tnF; rw [if_neg (by omega), if_neg (by omega)])
      · unfold CvH at *
        rw [up_ne (by decide)]; exact H2
    · rw [pick_t hc, pick_f ho, pick_f (fun z => ho z.2), pick_f (fun z => ho z.2), pick_f (fun z => ho z.2), bI_f (fun z => ho z.2)] at h
      skip
      refine s_aload_n 1 dX11_swap_0 rfl rfl ?_
      refine s_iload_n 2 dX11_swap_1 rfl rfl ?_
      refine s_callV0 (M' := M_X11_isScene) (as := [_]) 5 dX11_swap_2 rfl cw_X11_178 rfl rfl sh_0 rfl (by decide) (Nat.le_of_ble_eq_true rfl) (Nat.le_of_ble_eq_true rfl) (Nat.le_of_ble_eq_true rfl) (Nat.le_of_ble_eq_true rfl) ⟨rfl, rfl, rfl⟩ ?_
      refine c_X11_isScene hC hi ?_
      refine s_ifb_eq 21 8 dX11_swap_5 rfl rfl (fun h_5 => by exfalso; exact h_5 hc.1) (fun h_5 => ?_)
      refine s_aload_n 9 dX11_swap_8 rfl rfl ?_
      refine s_iload_n 10 dX11_swap_9 rfl rfl ?_
      refine s_callV0 (M' := M_X11_isScene) (as := [_]) 13 dX11_swap_10 rfl cw_X11_178 rfl rfl sh_0 rfl (by decide) (Nat.le_of_ble_eq_true rfl) (Nat.le_of_ble_eq_true rfl) (Nat.le_of_ble_eq_true rfl) (Nat.le_of_ble_eq_true rfl) ⟨rfl, rfl, rfl⟩ ?_
      refine c_X11_isScene hC hj ?_
      refine s_ifb_eq 21 16 dX11_swap_13 rfl rfl (fun h_13 => by exfalso; exact h_13 hc.2.1) (fun h_13 => ?_)
      refine s_iload_n 17 dX11_swap_16 rfl rfl ?_
      refine s_iload_n 18 dX11_swap_17 rfl rfl ?_
      refine s_icmp_ne 27 21 dX11_swap_18 rfl rfl (by first | omega | exact bI_r _ | exact iI_r _) (by first | omega | exact bI_r _ | exact iI_r _) (fun h_18 => ?_) (fun h_18 => by exfalso; omega)
      refine s_aload_n 28 dX11_swap_27 rfl rfl ?_
      refine s_getR 31 dX11_swap_28 rfl fl_X11_38 (fun _ _ _ _ => rfl) (T_X11_evening hT) sh_0 (Nat.le_of_ble_eq_true rfl) ?_
      refine s_getI 34 dX11_swap_31 rfl fl_X11_155 (fun _ _ _ _ => rfl) sh_80 (Nat.le_of_ble_eq_true rfl) (fun r_31 => ?_)
      refine s_iload_n 35 dX11_swap_34 rfl rfl ?_
      refine s_iload_n 36 dX11_swap_35 rfl rfl ?_
      refine s_callS0 (M' := M_X11_swapped) (as := [_, _, _]) 39 dX11_swap_36 rfl cw_X11_313 rfl rfl (Nat.le_of_ble_eq_true rfl) (Nat.le_of_ble_eq_true rfl) (Nat.le_of_ble_eq_true rfl) ⟨rfl, rfl, rfl⟩ ?_
      refine c_X11_swapped hE.1 (by omega) hc.1.2 hc.2.1.2 (fun O hO => ?_)
      refine s_istore_n (ls' := [_, _, _, _]) 40 dX11_swap_39 rfl (Nat.le_of_ble_eq_true rfl) rfl rfl ?_
      refine s_aload_n 41 dX11_swap_40 rfl rfl ?_
      refine s_getR 44 dX11_swap_41 rfl fl_X11_19 (fun _ _ _ _ => rfl) (by assumption) sh_0 (Nat.le_of_ble_eq_true rfl) ?_
      refine s_iload_n 45 dX11_swap_44 rfl rfl ?_
      refine s_callV0 (M' := M_X5_isOrder) (as := [_]) 48 dX11_swap_45 rfl cw_X11_316 rfl rfl (isP_sh (by assumption)) rfl (by decide) (isP_lt (by assumption)) (Nat.le_of_ble_eq_true rfl) (Nat.le_of_ble_eq_true rfl) (Nat.le_of_ble_eq_true rfl) ⟨rfl, rfl, rfl⟩ ?_
      refine c_X5_isOrder hT hP hs.1 hR hO (tn_P hs.p hc.1.2 hc.2.1.2 hc.2.2) ?_
      refine s_ifb_ne 57 51 dX11_swap_48 rfl rfl (fun h_48 => by exfalso; exact ho h_48) (fun h_48 => ?_)
      refine s_aload_n 52 dX11_swap_51 rfl rfl ?_
      refine s_iconst 53 dX11_swap_52 rfl ?_
      refine s_callV0 (M' := M_X11_denied) (as := [_]) 56 dX11_swap_53 rfl cw_X11_310 rfl rfl sh_0 rfl (by decide) (Nat.le_of_ble_eq_true rfl) (Nat.le_of_ble_eq_true rfl) (Nat.le_of_ble_eq_true rfl) (Nat.le_of_ble_eq_true rfl) ⟨rfl, rfl, rfl⟩ ?_
      refine c_X11_denied (by decide) ?_
      refine s_zret dX11_swap_56 rfl (by first | omega | exact bI_b _) rfl ?_
      rw [bI_f id]; exact h _ _ a (Hi.rf.st (by decide)) ((hC.mo (by omega)).rf (by decide))
  · rw [pick_f hc, pick_f (fun z => hc z.1), pick_f (fun z => hc z.1), pick_f (fun z => hc z.1), bI_f (fun z => hc z.1)] at h
    skip
    refine s_aload_n 1 dX11_swap_0 rfl rfl ?_
    refine s_iload_n 2 dX11_swap_1 rfl rfl ?_
    refine s_callV0 (M' := M_X11_isScene) (as := [_]) 5 dX11_swap_2 rfl cw_X11_178 rfl rfl sh_0 rfl (by decide) (Nat.le_of_ble_eq_true rfl) (Nat.le_of_ble_eq_true rfl) (Nat.le_of_ble_eq_true rfl) (Nat.le_of_ble_eq_true rfl) ⟨rfl, rfl, rfl⟩ ?_
    refine c_X11_isScene hC hi ?_
    refine s_ifb_eq 21 8 dX11_swap_5 rfl rfl (fun h_5 => ?_) (fun h_5 => ?_)
    · skip
      refine s_aload_n 22 dX11_swap_21 rfl rfl ?_
      refine s_iconst 23 dX11_swap_22 rfl ?_
      refine s_callV0 (M' := M_X11_denied) (as := [_]) 26 dX11_swap_23 rfl cw_X11_310 rfl rfl sh_0 rfl (by decide) (Nat.le_of_ble_eq_true rfl) (Nat.le_of_ble_eq_true rfl) (Nat.le_of_ble_eq_true rfl) (Nat.le_of_ble_eq_true rfl) ⟨rfl, rfl, rfl⟩ ?_
      refine c_X11_denied (by decide) ?_
      refine s_zret dX11_swap_26 rfl (by first | omega | exact bI_b _) rfl ?_
      rw [bI_f id]; exact h _ _ a (Hi.rf.st (by decide)) ((hC.mo (by omega)).rf (by decide))
    refine s_aload_n 9 dX11_swap_8 rfl rfl ?_
    refine s_iload_n 10 dX11_swap_9 rfl rfl ?_
    refine s_callV0 (M' := M_X11_isScene) (as := [_]) 13 dX11_swap_10 rfl cw_X11_178 rfl rfl sh_0 rfl (by decide) (Nat.le_of_ble_eq_true rfl) (Nat.le_of_ble_eq_true rfl) (Nat.le_of_ble_eq_true rfl) (Nat.le_of_ble_eq_true rfl) ⟨rfl, rfl, rfl⟩ ?_
    refine c_X11_isScene hC hj ?_
    refine s_ifb_eq 21 16 dX11_swap_13 rfl rfl (fun h_13 => ?_) (fun h_13 => ?_)
    · skip
      refine s_aload_n 22 dX11_swap_21 rfl rfl ?_
      refine s_iconst 23 dX11_swap_22 rfl ?_
      refine s_callV0 (M' := M_X11_denied) (as := [_]) 26 dX11_swap_23 rfl cw_X11_310 rfl rfl sh_0 rfl (by decide) (Nat.le_of_ble_eq_true rfl) (Nat.le_of_ble_eq_true rfl) (Nat.le_of_ble_eq_true rfl) (Nat.le_of_ble_eq_true rfl) ⟨rfl, rfl, rfl⟩ ?_
      refine c_X11_denied (by decide) ?_
      refine s_zret dX11_swap_26 rfl (by first | omega | exact bI_b _) rfl ?_
      rw [bI_f id]; exact h _ _ a (Hi.rf.st (by decide)) ((hC.mo (by omega)).rf (by decide))
    refine s_iload_n 17 dX11_swap_16 rfl rfl ?_
    refine s_iload_n 18 dX11_swap_17 rfl rfl ?_
    refine s_icmp_ne 27 21 dX11_swap_18 rfl rfl (by first | omega | exact bI_r _ | exact iI_r _) (by first | omega | exact bI_r _ | exact iI_r _) (fun h_18 => by exfalso; exact hc ⟨h_5, h_13, by omega⟩) (fun h_18 => ?_)
    refine s_aload_n 22 dX11_swap_21 rfl rfl ?_
    refine s_iconst 23 dX11_swap_22 rfl ?_
    refine s_callV0 (M' := M_X11_denied) (as := [_]) 26 dX11_swap_23 rfl cw_X11_310 rfl rfl sh_0 rfl (by decide) (Nat.le_of_ble_eq_true rfl) (Nat.le_of_ble_eq_true rfl) (Nat.le_of_ble_eq_true rfl) (Nat.le_of_ble_eq_true rfl) ⟨rfl, rfl, rfl⟩ ?_
    refine c_X11_denied (by decide) ?_
    refine s_zret dX11_swap_26 rfl (by first | omega | exact bI_b _) rfl ?_
    rw [bI_f id]; exact h _ _ a (Hi.rf.st (by decide)) ((hC.mo (by omega)).rf (by decide))
