/-! the reference's memory; what acts do to it -/
def MV (I : MI) (bt : F1) (n ft pl w : Int) (HP : Prop) (r s : F1) (U D K : List (List Int)) : Prop :=
  (I 138 2 = n ∧ (∀ k, 0 ≤ k → k < 900 → I 139 k = bt k) ∧ I 138 9 = ft ∧ I 138 10 = pl ∧ I 138 11 = w ∧ I 138 14 = bI HP) ∧ I 138 30 = -1 ∧ I 141 = r ∧ I 143 = s ∧
  (I 138 22 = U.length ∧ hist (I 145) U.length = U) ∧ (I 138 23 = D.length ∧ hist (I 146) D.length = D) ∧ I 138 24 = K.length ∧ hist (I 147) K.length = K
theorem MV.q {I I' : MI} {bt : F1} {n ft pl w w' : Int} {HP : Prop} {r s : F1} {U D K : List (List Int)} (h : MV I bt n ft pl w HP r s U D K) (h' : Eqo MS (gd I w') I') : MV I' bt n ft pl w' HP r s U D K := by
  obtain ⟨⟨a1, a2, a3, a4, a5, a6⟩, b, c, d, ⟨e1, e2⟩, ⟨f1, f2⟩, g1, g2⟩ := h
  have f : ∀ k, k ≠ 0 → k ≠ 11 → I' 138 k = I 138 k := fun k z1 z2 => (congrFun (h' 138 (by decide)) k).trans (gd_f ⟨z1, z2⟩)
  have o : ∀ c, c ∉ MS → c ≠ 138 → I' c = I c := fun c z1 z2 => (h' c z1).trans (gd_n z2)
  have w1 : I' 138 11 = w' := (congrFun (h' 138 (by decide)) 11).trans (by unfold gd; rw [upd9, if_pos rfl])
  refine ⟨⟨?_, fun k z1 z2 => ?_, ?_, ?_, w1, ?_⟩, ?_, ?_, ?_, ⟨?_, ?_⟩, ⟨?_, ?_⟩, ?_, ?_⟩
  · rw [f _ (by decide) (by decide)]; exact a1
  · rw [o _ (by decide) (by decide)]; exact a2 k z1 z2
  · rw [f _ (by decide) (by decide)]; exact a3
  · rw [f _ (by decide) (by decide)]; exact a4
  · rw [f _ (by decide) (by decide)]; exact a6
  · rw [f _ (by decide) (by decide)]; exact b
  · rw [o _ (by decide) (by decide)]; exact c
  · rw [o _ (by decide) (by decide)]; exact d
  · rw [f _ (by decide) (by decide)]; exact e1
  · rw [o _ (by decide) (by decide)]; exact e2
  · rw [f _ (by decide) (by decide)]; exact f1
  · rw [o _ (by decide) (by decide)]; exact f2
  · rw [f _ (by decide) (by decide)]; exact g1
  · rw [o _ (by decide) (by decide)]; exact g2
/-- the class's cells are as before -/
def Lo (I I' : MI) : Prop := ∀ c, c < 138 → I' c = I c
theorem Lo.gd {I I' : MI} {w : Int} (h : Eqo MS (gd I w) I') : Lo I I' := fun c hc => by
  rw [h c (fun z => by simp [MS] at z; omega), gd_n (by omega)]
theorem Lo.mk {I I' : MI} {cs : List Nat} (h : Eqo cs I I') (hc : ∀ c ∈ cs, 138 ≤ c) : Lo I I' := fun c z => h c (fun q => by have := hc c q; omega)
theorem Lo.tr {I I' I'' : MI} (h : Lo I I') (h' : Lo I' I'') : Lo I I'' := fun c hc => (h' c hc).trans (h c hc)
theorem vL_row {M : F1} {i k : Int} (h : 0 ≤ k ∧ k < 13) : vL (rowAt M i) k = M (13 * i + k) := by
  unfold rowAt
  exact vL_map (v := fun k => M (13 * i + k)) (n := 13) ⟨h.1, by omega⟩
def lastR (U : List (List Int)) : List Int := U.getLastD []
theorem hist_last {M : F1} {m : Nat} {U : List (List Int)} (h : hist M (m + 1) = U) : hist M m = U.dropLast ∧ lastR U = rowAt M m := by
  rw [hist_s] at h
  subst h
  constructor
  · rw [List.dropLast_concat]
  · unfold lastR; rw [List.getLastD_concat]
set_option maxHeartbeats 4000000 in
theorem c_X12_did {E : ET} {I : MI} {L : ML} {R : MR} {Q : Option AV → MI → ML → MR → Prop} {U : List (List Int)} (hT : Topo R) (hu : U.length ≤ 12) (e1 : I 138 22 = U.length) (e2 : hist (I 145) U.length = U) (h : ∀ I', Eqo [145, 138] I I' → I' 138 22 = (kp U (rowAt (I 144) 0)).length → I' 138 23 = 0 → (∀ k, k ≠ 22 → k ≠ 23 → I' 138 k = I 138 k) → hist (I' 145) (kp U (rowAt (I 144) 0)).length = kp U (rowAt (I 144) 0) → Q (some (vi 1)) I' L R) : CT E M_X12_did 161 yX12_did [(vr (138))] I L R Q := by
  refine CT_of rfl rfl (fun h => by cases h) (Nat.le_of_ble_eq_true rfl) (fun X => ?_)
  show V X _ z0 0 [some (vr (138))] [] I L R _
  have hk : (kp U (rowAt (I 144) 0)).length ≤ 13 := by
    unfold kp
    rw [List.length_append]
    split
    · simp; omega
    · simp; omega
  refine s_aload_n 1 dX12_did_0 rfl rfl ?_
  refine s_aload_n 2 dX12_did_1 rfl rfl ?_
  refine s_getR 5 dX12_did_2 rfl fl_X12_32 (fun _ _ _ _ => rfl) (T_X12_undone hT) sh_138 (Nat.le_of_ble_eq_true rfl) ?_
  refine s_aload_n 6 dX12_did_5 rfl rfl ?_
  refine s_getI 9 dX12_did_6 rfl fl_X12_206 (fun _ _ _ _ => rfl) sh_138 (Nat.le_of_ble_eq_true rfl) (fun r_6 => ?_)
  refine s_aload_n 10 dX12_did_9 rfl rfl ?_
  refine s_getR 13 dX12_did_10 rfl fl_X12_29 (fun _ _ _ _ => rfl) (T_X12_was hT) sh_138 (Nat.le_of_ble_eq_true rfl) ?_
  rw [e1]
  refine s_callS0 (M' := M_X12_keep) (as := [_, _, _]) 16 dX12_did_13 rfl cw_X12_420 rfl rfl (Nat.le_of_ble_eq_true rfl) (Nat.le_of_ble_eq_true rfl) (Nat.le_of_ble_eq_true rfl) ⟨rfl, rfl, rfl⟩ ?_
  refine c_X12_keep (U := U) sh_145 (by decide) sh_144 (by decide) (by decide) (by decide) rfl hu e2 (fun I2 k1 k2 => ?_)
  refine s_putI 19 dX12_did_16 rfl fl_X12_206 (fun _ => rfl) (fun _ => rfl) (fun _ _ _ _ => rfl) sh_138 (Nat.le_of_ble_eq_true rfl) (by first | omega | exact bI_r _ | exact iI_r _) ?_
  refine s_aload_n 20 dX12_did_19 rfl rfl ?_
  refine s_iconst 21 dX12_did_20 rfl ?_
  refine s_putI 24 dX12_did_21 rfl fl_X12_209 (fun _ => rfl) (fun _ => rfl) (fun _ _ _ _ => rfl) sh_138 (Nat.le_of_ble_eq_true rfl) (by first | omega | exact bI_r _ | exact iI_r _) ?_
  refine s_iconst 25 dX12_did_24 rfl ?_
  refine s_zret dX12_did_25 rfl (by first | omega | exact bI_b _) rfl ?_
  refine h _ (fun c hc => ?_) ?_ ?_ (fun k z1 z2 => ?_) ?_
  · simp at hc
    rw [up_ne hc.2, up_ne hc.2]
    exact k1 c (by simpa using hc.1)
  · rw [upn (by decide), ups]
  · rw [ups]
  · rw [upn z2, upn z1, k1 138 (by decide)]
  · rw [up_ne (by decide), up_ne (by decide)]; exact k2
theorem MV.act {I I2 I' : MI} {bt : F1} {n ft pl w : Int} {HP : Prop} {r s s' : F1} {U D K : List (List Int)} (h : MV I bt n ft pl w HP r s U D K) (k1 : Eqo (143 :: MS) (gd I 0) I2) (es : I2 143 = s') (ew : rowAt (I2 144) 0 = rowAt s 0)
    (j1 : Eqo [145, 138] I2 I') (j2 : I' 138 22 = (kp U (rowAt (I2 144) 0)).length) (j3 : I' 138 23 = 0) (j4 : ∀ k, k ≠ 22 → k ≠ 23 → I' 138 k = I2 138 k) (j5 : hist (I' 145) (kp U (rowAt (I2 144) 0)).length = kp U (rowAt (I2 144) 0)) : Lo I I' ∧ MV I' bt n ft pl 0 HP r s' (kp U (rowAt s 0)) [] K := by
  obtain ⟨⟨a1, a2, a3, a4, a5, a6⟩, b, c, d, ⟨e1, e2⟩, ⟨f1, f2⟩, g1, g2⟩ := h
  rw [ew] at j2 j5
  have f : ∀ k, k ≠ 0 → k ≠ 11 → k ≠ 22 → k ≠ 23 → I' 138 k = I 138 k := fun k z1 z2 z3 z4 => (j4 k z3 z4).trans ((congrFun (k1 138 (by decide)) k).trans (gd_f ⟨z1, z2⟩))
  have o : ∀ c, c ∉ 143 :: MS → c ≠ 138 → c ≠ 145 → I' c = I c := fun c z1 z2 z3 => (j1 c (by simp; omega)).trans ((k1 c z1).trans (gd_n z2))
  have w1 : I' 138 11 = 0 := (j4 11 (by decide) (by decide)).trans ((congrFun (k1 138 (by decide)) 11).trans (by unfold gd; rw [upd9, if_pos rfl]))
  refine ⟨fun c hc => o c (fun z => by simp [MS] at z; omega) (by omega) (by omega), ⟨?_, fun k z1 z2 => ?_, ?_, ?_, w1, ?_⟩, ?_, ?_, ?_, ⟨j2, j5⟩, ⟨j3, rfl⟩, ?_, ?_⟩
  · rw [f _ (by decide) (by decide) (by decide) (by decide)]; exact a1
  · rw [o _ (by decide) (by decide) (by decide)]; exact a2 k z1 z2
  · rw [f _ (by decide) (by decide) (by decide) (by decide)]; exact a3
  · rw [f _ (by decide) (by decide) (by decide) (by decide)]; exact a4
  · rw [f _ (by decide) (by decide) (by decide) (by decide)]; exact a6
  · rw [f _ (by decide) (by decide) (by decide) (by decide)]; exact b
  · rw [o _ (by decide) (by decide) (by decide)]; exact c
  · rw [j1 143 (by decide)]; exact es
  · rw [f _ (by decide) (by decide) (by decide) (by decide)]; exact g1
  · rw [o _ (by decide) (by decide) (by decide)]; exact g2
theorem tn_row {s : F1} {i j : Int} (hi : 0 ≤ i ∧ i < 5) (hj : 0 ≤ j ∧ j < 5) {v : F1} (h : ∀ k, 0 ≤ k → k < 5 → v k = s k) {k : Int} (hk : 0 ≤ k ∧ k < 5) : tnF v i j k = tnF s i j k := by
  unfold tnF
  rw [h i hi.1 hi.2, h j hj.1 hj.2, h k hk.1 hk.2]
set_option maxHeartbeats 4000000 in
theorem c_X12_swap {E : ET} {I : MI} {L : ML} {R : MR} {Q : Option AV → MI → ML → MR → Prop} {bt r s : F1} {n ft pl w i j : Int} {HP : Prop} {U D K : List (List Int)} (hT : Topo R) (hM : MV I bt n ft pl w HP r s U D K) (hr : HP → WFr r ∧ Perm (r 5) s) (hu : U.length ≤ 12) (hi : -2147483648 ≤ i ∧ i ≤ 2147483647) (hj : -2147483648 ≤ j ∧ j ≤ 2147483647) (h : ∀ C1 C2, C1 = ((HP ∧ 0 ≤ i ∧ i < r 5) ∧ (HP ∧ 0 ≤ j ∧ j < r 5) ∧ i ≠ j) → C2 = OrdP r (tnF s i j) → ∀ I', Lo I I' → MV I' bt n ft pl (pick C1 (pick C2 0 5) 1) HP r (pick (C1 ∧ C2) (tnF s i j) s) (pick (C1 ∧ C2) (kp U (rowAt s 0)) U) (pick (C1 ∧ C2) [] D) K → Q (some (vi (bI (C1 ∧ C2)))) I' L R) : CT E M_X12_swap 161 yX12_swap [(vr (138)), (vi (i)), (vi (j))] I L R Q := by
  refine CT_of rfl rfl (fun h => by cases h) (Nat.le_of_ble_eq_true rfl) (fun X => ?_)
  show V X _ z0 0 [some (vr (138)), some (vi (i)), some (vi (j))] [] I L R _
  have h := h _ _ rfl rfl
  have hM0 := hM
  obtain ⟨⟨a1, a2, a3, a4, a5, ehp⟩, erd, er, es, ⟨e1, e2⟩, ⟨f1, f2⟩, g1, g2⟩ := hM
  have er1 : up (up I 138 0 0) 138 11 0 141 = r := (gd_n (by decide)).trans er
  have es1 : up (up I 138 0 0) 138 11 0 143 = s := (gd_n (by decide)).trans es
  have ehp1 : up (up I 138 0 0) 138 11 0 138 14 = bI HP := (gd_f (by decide)).trans ehp
  have hr1 : HP → WFr r := fun z => (hr z).1
  by_cases hC : ((HP ∧ 0 ≤ i ∧ i < r 5) ∧ (HP ∧ 0 ≤ j ∧ j < r 5) ∧ i ≠ j)
  · obtain ⟨hr2, hp⟩ := hr hC.1.1
    have e0 := hr2.1
    have no2 : ∀ I2, Eqo MS (gd I 0) I2 → ¬ OrdP r (tnF s i j) → Q (some (vi (bI False))) (up I2 138 11 5) L R := fun I2 k1 z => by
      have k3 : Eqo MS (gd I 5) (up I2 138 11 5) := fun c hc => by
        by_cases ec : c = 138
        · subst ec
          rw [← gd_no (v := 0)]
          funext k
          rw [upd9, upd9, k1 138 (by decide)]
        · rw [up_ne ec, k1 c hc, gd_n ec, gd_n ec]
      have q := h (up I2 138 11 5) (Lo.gd k3) (by
        rw [pick_t hC, pick_f z, pick_f (fun y => z y.2), pick_f (fun y => z y.2), pick_f (fun y => z y.2)]
        exact hM0.q k3)
      rw [bI_f (fun y => z y.2), ← bI_f (b := False) id] at q
      exact q
    rw [bI_c (show (((HP ∧ 0 ≤ i ∧ i < r 5) ∧ (HP ∧ 0 ≤ j ∧ j < r 5) ∧ i ≠ j) ∧ OrdP r (tnF s i j)) ↔ OrdP r (tnF s i j) from ⟨fun z => z.2, fun z => ⟨hC, z⟩⟩)] at h
    have b60 : ∀ I2, Eqo MS (gd I 0) I2 → (∀ k, 0 ≤ k → k < 5 → I2 148 k = s k) → rowAt (I2 144) 0 = rowAt s 0 → V X M_X12_swap z0 60 [some (vr (138)), some (vi (i)), some (vi (j))] [] (I2) L R (RT X M_X12_swap Q) := by
      intro I2 k1 k2 k3
      have hpt : ∀ {k : Int}, 0 ≤ k ∧ k < 5 → tnF (I2 148) i j k = tnF s i j k := fun hk => tn_row (s := s) (i := i) (j := j) (by omega) (by omega) k2 hk
      have er2 : I2 141 = r := (k1 141 (by decide)).trans er1
      refine s_aload_n 61 dX12_swap_60 rfl rfl ?_
      refine s_iload_n 62 dX12_swap_61 rfl rfl ?_
      refine s_iload_n 63 dX12_swap_62 rfl rfl ?_
      refine s_callV0 (M' := M_X12_turn) (as := [_, _]) 66 dX12_swap_63 rfl cw_X12_296 rfl rfl sh_138 rfl (by decide) (Nat.le_of_ble_eq_true rfl) (Nat.le_of_ble_eq_true rfl) (Nat.le_of_ble_eq_true rfl) (Nat.le_of_ble_eq_true rfl) ⟨rfl, rfl, rfl⟩ ?_
      refine c_X12_turn (v := I2 148) hT rfl (by omega) (by omega) (fun I3 m1 m2 => ?_)
      have er3 : I3 141 = r := (m1 141 (by decide)).trans er2
      have m3 : ∀ k, 0 ≤ k → k < r 5 → tnF s i j k = I3 148 k := fun k z1 z2 => by rw [m2]; exact (hpt ⟨z1, by omega⟩).symm
      have hsb : ∀ k, 0 ≤ k → k < r 5 → 0 ≤ I3 148 k ∧ I3 148 k < 5 := fun k z1 z2 => by
        rw [← m3 k z1 z2]
        have q1 := hp.1 k z1 z2
        have q2 := hp.1 i (by omega) (by omega)
        have q3 := hp.1 j (by omega) (by omega)
        unfold tnF
        split
        · omega
        · split <;> omega
      refine s_aload_n 67 dX12_swap_66 rfl rfl ?_
      refine s_aload_n 68 dX12_swap_67 rfl rfl ?_
      refine s_getR 71 dX12_swap_68 rfl fl_X12_41 (fun _ _ _ _ => rfl) (T_X12_row hT) sh_138 (Nat.le_of_ble_eq_true rfl) ?_
      refine s_callV0 (M' := M_X12_isOrder) (as := [_]) 74 dX12_swap_71 rfl cw_X12_286 rfl rfl sh_138 rfl (by decide) (Nat.le_of_ble_eq_true rfl) (Nat.le_of_ble_eq_true rfl) (Nat.le_of_ble_eq_true rfl) (Nat.le_of_ble_eq_true rfl) ⟨rfl, rfl, rfl⟩ ?_
      refine c_X12_isOrder hT er3 hr2 sh_148 (by decide) (by decide) rfl hsb ?_
      rw [bI_c (OrdP_c (r := r) m3).symm]
      refine s_ifb_ne 83 77 dX12_swap_74 rfl rfl (fun h_74 => ?_) (fun h_74 => ?_)
      · skip
        refine s_aload_n 84 dX12_swap_83 rfl rfl ?_
        refine s_getR 87 dX12_swap_84 rfl fl_X12_41 (fun _ _ _ _ => rfl) (T_X12_row hT) sh_138 (Nat.le_of_ble_eq_true rfl) ?_
        refine s_iconst 88 dX12_swap_87 rfl ?_
        refine s_aload_n 89 dX12_swap_88 rfl rfl ?_
        refine s_getR 92 dX12_swap_89 rfl fl_X12_26 (fun _ _ _ _ => rfl) (T_X12_st hT) sh_138 (Nat.le_of_ble_eq_true rfl) ?_
        refine s_iconst 93 dX12_swap_92 rfl ?_
        refine s_iconst 94 dX12_swap_93 rfl ?_
        refine s_callS0 (M' := M_X12_copy) (as := [_, _, _, _, _]) 97 dX12_swap_94 rfl cw_X12_199 rfl rfl (Nat.le_of_ble_eq_true rfl) (Nat.le_of_ble_eq_true rfl) (Nat.le_of_ble_eq_true rfl) ⟨rfl, rfl, rfl⟩ ?_
        refine c_X12_copy sh_148 sh_143 (by decide) (by decide) (by decide) (by decide) (by omega) (by omega) (by omega) ?_
        refine s_aload_n 98 dX12_swap_97 rfl rfl ?_
        refine s_callV0 (M' := M_X12_did) (as := []) 101 dX12_swap_98 rfl cw_X12_427 rfl rfl sh_138 rfl (by decide) (Nat.le_of_ble_eq_true rfl) (Nat.le_of_ble_eq_true rfl) (Nat.le_of_ble_eq_true rfl) (Nat.le_of_ble_eq_true rfl) ⟨rfl, rfl, rfl⟩ ?_
        have n1 : Eqo (143 :: MS) (gd I 0) (cpI I3 148 0 143 0 5) := fun c hc => by rw [cpI_ne (fun e => hc (by rw [e]; decide)), m1 c (fun e => hc (by simp at e; rw [e]; decide)), k1 c (fun e => hc (List.mem_cons_of_mem _ e))]
        have n3 : cpI I3 148 0 143 0 5 143 = tnF s i j := by
          funext k
          rw [cpI_eq]
          simp only []
          by_cases hk : 0 ≤ k ∧ k < 0 + 5
          · rw [if_pos hk, show (0 : Int) + (k - 0) = k by omega, m2]; exact hpt (by omega)
          · rw [if_neg hk, m1 143 (by decide), k1 143 (by decide)]
            show gd I 0 143 k = _
            rw [gd_n (by decide), es]
            unfold tnF
            rw [if_neg (by omega), if_neg (by omega)]
        have n4 : rowAt (cpI I3 148 0 143 0 5 144) 0 = rowAt s 0 := by rw [cpI_ne (by decide), m1 144 (by decide)]; exact k3
        have n5 : ∀ k, k ≠ 0 → k ≠ 11 → cpI I3 148 0 143 0 5 138 k = I 138 k := fun k z1 z2 => (congrFun (n1 138 (by decide)) k).trans (gd_f ⟨z1, z2⟩)
        have n6 : cpI I3 148 0 143 0 5 145 = I 145 := (n1 145 (by decide)).trans (gd_n (by decide))
        refine c_X12_did (U := U) hT hu (by rw [n5 22 (by decide) (by decide)]; exact e1) (by rw [n6]; exact e2) (fun I5 j1 j2 j3 j4 j5 => ?_)
        refine s_zret dX12_swap_101 rfl (by first | omega | exact bI_b _) rfl ?_
        have hA := hM0.act n1 n3 n4 j1 j2 j3 j4 j5
        have hO : OrdP r (tnF s i j) := by assumption
        have q := h I5 hA.1 (by rw [pick_t hC, pick_t hO, pick_t ⟨hC, hO⟩, pick_t ⟨hC, hO⟩, pick_t ⟨hC, hO⟩]; exact hA.2)
        exact ret_t hO q
      refine s_aload_n 78 dX12_swap_77 rfl rfl ?_
      refine s_iconst 79 dX12_swap_78 rfl ?_
      refine s_callV0 (M' := M_X12_isNot) (as := [_]) 82 dX12_swap_79 rfl cw_X12_424 rfl rfl sh_138 rfl (by decide) (Nat.le_of_ble_eq_true rfl) (Nat.le_of_ble_eq_true rfl) (Nat.le_of_ble_eq_true rfl) (Nat.le_of_ble_eq_true rfl) ⟨rfl, rfl, rfl⟩ ?_
      refine c_X12_isNot (by decide) ?_
      refine s_zret dX12_swap_82 rfl (by first | omega | exact bI_b _) rfl ?_
      exact no2 I3 (k1.tr (m1.mo (by decide))) (by assumption)
    refine s_aload_n 1 dX12_swap_0 rfl rfl ?_
    refine s_callV0 (M' := M_X12_good) (as := []) 4 dX12_swap_1 rfl cw_X12_190 rfl rfl sh_138 rfl (by decide) (Nat.le_of_ble_eq_true rfl) (Nat.le_of_ble_eq_true rfl) (Nat.le_of_ble_eq_true rfl) (Nat.le_of_ble_eq_true rfl) ⟨rfl, rfl, rfl⟩ ?_
    refine c_X12_good ?_
    refine s_aload_n 5 dX12_swap_4 rfl rfl ?_
    refine s_iload_n 6 dX12_swap_5 rfl rfl ?_
    refine s_callV0 (M' := M_X12_isScene) (as := [_]) 9 dX12_swap_6 rfl cw_X12_299 rfl rfl sh_138 rfl (by decide) (Nat.le_of_ble_eq_true rfl) (Nat.le_of_ble_eq_true rfl) (Nat.le_of_ble_eq_true rfl) (Nat.le_of_ble_eq_true rfl) ⟨rfl, rfl, rfl⟩ ?_
    refine c_X12_isScene hT er1 ehp1 hr1 (by omega) ?_
    refine s_ifb_eq 25 12 dX12_swap_9 rfl rfl (fun h_9 => ?_) (fun h_9 => ?_)
    · skip
      first | exact absurd hC.1 (by assumption) | exact absurd hC.2.1 (by assumption) | exact absurd hC.2.2 (by omega)
    refine s_aload_n 13 dX12_swap_12 rfl rfl ?_
    refine s_iload_n 14 dX12_swap_13 rfl rfl ?_
    refine s_callV0 (M' := M_X12_isScene) (as := [_]) 17 dX12_swap_14 rfl cw_X12_299 rfl rfl sh_138 rfl (by decide) (Nat.le_of_ble_eq_true rfl) (Nat.le_of_ble_eq_true rfl) (Nat.le_of_ble_eq_true rfl) (Nat.le_of_ble_eq_true rfl) ⟨rfl, rfl, rfl⟩ ?_
    refine c_X12_isScene hT er1 ehp1 hr1 (by omega) ?_
    refine s_ifb_eq 25 20 dX12_swap_17 rfl rfl (fun h_17 => ?_) (fun h_17 => ?_)
    · skip
      first | exact absurd hC.1 (by assumption) | exact absurd hC.2.1 (by assumption) | exact absurd hC.2.2 (by omega)
    refine s_iload_n 21 dX12_swap_20 rfl rfl ?_
    refine s_iload_n 22 dX12_swap_21 rfl rfl ?_
    refine s_icmp_ne 31 25 dX12_swap_22 rfl rfl (by first | omega | exact bI_r _ | exact iI_r _) (by first | omega | exact bI_r _ | exact iI_r _) (fun h_22 => ?_) (fun h_22 => ?_)
    rotate_left
    · skip
      first | exact absurd hC.1 (by assumption) | exact absurd hC.2.1 (by assumption) | exact absurd hC.2.2 (by omega)
    refine s_aload_n 32 dX12_swap_31 rfl rfl ?_
    refine s_getR 35 dX12_swap_32 rfl fl_X12_26 (fun _ _ _ _ => rfl) (T_X12_st hT) sh_138 (Nat.le_of_ble_eq_true rfl) ?_
    refine s_iconst 36 dX12_swap_35 rfl ?_
    refine s_aload_n 37 dX12_swap_36 rfl rfl ?_
    refine s_getR 40 dX12_swap_37 rfl fl_X12_29 (fun _ _ _ _ => rfl) (T_X12_was hT) sh_138 (Nat.le_of_ble_eq_true rfl) ?_
    refine s_iconst 41 dX12_swap_40 rfl ?_
    refine s_bipush 43 dX12_swap_41 rfl (by decide) ?_
    refine s_callS0 (M' := M_X12_copy) (as := [_, _, _, _, _]) 46 dX12_swap_43 rfl cw_X12_199 rfl rfl (Nat.le_of_ble_eq_true rfl) (Nat.le_of_ble_eq_true rfl) (Nat.le_of_ble_eq_true rfl) ⟨rfl, rfl, rfl⟩ ?_
    first | refine c_X12_copy sh_143 sh_144 (by decide) (by decide) (by decide) (by decide) (by omega) (by omega) (by omega) ?_ | refine c_X12_copy sh_143 sh_148 (by decide) (by decide) (by decide) (by decide) (by omega) (by omega) (by omega) ?_ | refine c_X12_copy sh_148 sh_143 (by decide) (by decide) (by decide) (by decide) (by omega) (by omega) (by omega) ?_
    refine s_aload_n 47 dX12_swap_46 rfl rfl ?_
    refine s_getR 50 dX12_swap_47 rfl fl_X12_26 (fun _ _ _ _ => rfl) (T_X12_st hT) sh_138 (Nat.le_of_ble_eq_true rfl) ?_
    refine s_iconst 51 dX12_swap_50 rfl ?_
    refine s_aload_n 52 dX12_swap_51 rfl rfl ?_
    refine s_getR 55 dX12_swap_52 rfl fl_X12_41 (fun _ _ _ _ => rfl) (T_X12_row hT) sh_138 (Nat.le_of_ble_eq_true rfl) ?_
    refine s_iconst 56 dX12_swap_55 rfl ?_
    refine s_iconst 57 dX12_swap_56 rfl ?_
    refine s_callS0 (M' := M_X12_copy) (as := [_, _, _, _, _]) 60 dX12_swap_57 rfl cw_X12_199 rfl rfl (Nat.le_of_ble_eq_true rfl) (Nat.le_of_ble_eq_true rfl) (Nat.le_of_ble_eq_true rfl) ⟨rfl, rfl, rfl⟩ ?_
    first | refine c_X12_copy sh_143 sh_144 (by decide) (by decide) (by decide) (by decide) (by omega) (by omega) (by omega) ?_ | refine c_X12_copy sh_143 sh_148 (by decide) (by decide) (by decide) (by decide) (by omega) (by omega) (by omega) ?_ | refine c_X12_copy sh_148 sh_143 (by decide) (by decide) (by decide) (by decide) (by omega) (by omega) (by omega) ?_
    have k1 : Eqo MS (gd I 0) (cpI (cpI (gd I 0) 143 0 144 0 13) 143 0 148 0 5) := fun c hc => by rw [cpI_ne (fun e => hc (by rw [e]; decide)), cpI_ne (fun e => hc (by rw [e]; decide))]
    have k2 : ∀ k, 0 ≤ k → k < 5 → cpI (cpI (gd I 0) 143 0 144 0 13) 143 0 148 0 5 148 k = s k := fun k z1 z2 => by
      rw [cpI_eq]
      simp only []
      rw [if_pos (by omega), cpI_ne (by decide), gd_n (by decide), es]
      congr 1
      omega
    have k3 : rowAt (cpI (cpI (gd I 0) 143 0 144 0 13) 143 0 148 0 5 144) 0 = rowAt s 0 := rowAt_c (fun k z1 z2 => by
      rw [cpI_ne (by decide), cpI_eq]
      simp only []
      rw [if_pos (by omega), gd_n (by decide), es]
      congr 1
      omega)
    exact b60 _ k1 k2 k3
  · have no1 : Q (some (vi (bI False))) (gd I 1) L R := by
      have q := h (gd I 1) (Lo.gd Eqo.rf) (by rw [pick_f hC, pick_f (fun y => hC y.1), pick_f (fun y => hC y.1), pick_f (fun y => hC y.1)]; exact hM0.q Eqo.rf)
      rw [bI_f (fun y => hC y.1), ← bI_f (b := False) id] at q
      exact q
    refine s_aload_n 1 dX12_swap_0 rfl rfl ?_
    refine s_callV0 (M' := M_X12_good) (as := []) 4 dX12_swap_1 rfl cw_X12_190 rfl rfl sh_138 rfl (by decide) (Nat.le_of_ble_eq_true rfl) (Nat.le_of_ble_eq_true rfl) (Nat.le_of_ble_eq_true rfl) (Nat.le_of_ble_eq_true rfl) ⟨rfl, rfl, rfl⟩ ?_
    refine c_X12_good ?_
    refine s_aload_n 5 dX12_swap_4 rfl rfl ?_
    refine s_iload_n 6 dX12_swap_5 rfl rfl ?_
    refine s_callV0 (M' := M_X12_isScene) (as := [_]) 9 dX12_swap_6 rfl cw_X12_299 rfl rfl sh_138 rfl (by decide) (Nat.le_of_ble_eq_true rfl) (Nat.le_of_ble_eq_true rfl) (Nat.le_of_ble_eq_true rfl) (Nat.le_of_ble_eq_true rfl) ⟨rfl, rfl, rfl⟩ ?_
    refine c_X12_isScene hT er1 ehp1 hr1 (by omega) ?_
    refine s_ifb_eq 25 12 dX12_swap_9 rfl rfl (fun h_9 => ?_) (fun h_9 => ?_)
    · skip
      refine s_aload_n 26 dX12_swap_25 rfl rfl ?_
      refine s_iconst 27 dX12_swap_26 rfl ?_
      refine s_callV0 (M' := M_X12_isNot) (as := [_]) 30 dX12_swap_27 rfl cw_X12_424 rfl rfl sh_138 rfl (by decide) (Nat.le_of_ble_eq_true rfl) (Nat.le_of_ble_eq_true rfl) (Nat.le_of_ble_eq_true rfl) (Nat.le_of_ble_eq_true rfl) ⟨rfl, rfl, rfl⟩ ?_
      refine c_X12_isNot (by decide) ?_
      rw [show up (up (up I 138 0 0) 138 11 0) 138 11 1 = gd I 1 from gd_no]
      refine s_zret dX12_swap_30 rfl (by first | omega | exact bI_b _) rfl ?_
      exact no1
    refine s_aload_n 13 dX12_swap_12 rfl rfl ?_
    refine s_iload_n 14 dX12_swap_13 rfl rfl ?_
    refine s_callV0 (M' := M_X12_isScene) (as := [_]) 17 dX12_swap_14 rfl cw_X12_299 rfl rfl sh_138 rfl (by decide) (Nat.le_of_ble_eq_true rfl) (Nat.le_of_ble_eq_true rfl) (Nat.le_of_ble_eq_true rfl) (Nat.le_of_ble_eq_true rfl) ⟨rfl, rfl, rfl⟩ ?_
    refine c_X12_isScene hT er1 ehp1 hr1 (by omega) ?_
    refine s_ifb_eq 25 20 dX12_swap_17 rfl rfl (fun h_17 => ?_) (fun h_17 => ?_)
    · skip
      refine s_aload_n 26 dX12_swap_25 rfl rfl ?_
      refine s_iconst 27 dX12_swap_26 rfl ?_
      refine s_callV0 (M' := M_X12_isNot) (as := [_]) 30 dX12_swap_27 rfl cw_X12_424 rfl rfl sh_138 rfl (by decide) (Nat.le_of_ble_eq_true rfl) (Nat.le_of_ble_eq_true rfl) (Nat.le_of_ble_eq_true rfl) (Nat.le_of_ble_eq_true rfl) ⟨rfl, rfl, rfl⟩ ?_
      refine c_X12_isNot (by decide) ?_
      rw [show up (up (up I 138 0 0) 138 11 0) 138 11 1 = gd I 1 from gd_no]
      refine s_zret dX12_swap_30 rfl (by first | omega | exact bI_b _) rfl ?_
      exact no1
    refine s_iload_n 21 dX12_swap_20 rfl rfl ?_
    refine s_iload_n 22 dX12_swap_21 rfl rfl ?_
    refine s_icmp_ne 31 25 dX12_swap_22 rfl rfl (by first | omega | exact bI_r _ | exact iI_r _) (by first | omega | exact bI_r _ | exact iI_r _) (fun h_22 => ?_) (fun h_22 => ?_)
    · skip
      exact absurd ⟨by assumption, by assumption, by omega⟩ hC
    refine s_aload_n 26 dX12_swap_25 rfl rfl ?_
    refine s_iconst 27 dX12_swap_26 rfl ?_
    refine s_callV0 (M' := M_X12_isNot) (as := [_]) 30 dX12_swap_27 rfl cw_X12_424 rfl rfl sh_138 rfl (by decide) (Nat.le_of_ble_eq_true rfl) (Nat.le_of_ble_eq_true rfl) (Nat.le_of_ble_eq_true rfl) (Nat.le_of_ble_eq_true rfl) ⟨rfl, rfl, rfl⟩ ?_
    refine c_X12_isNot (by decide) ?_
    rw [show up (up (up I 138 0 0) 138 11 0) 138 11 1 = gd I 1 from gd_no]
    refine s_zret dX12_swap_30 rfl (by first | omega | exact bI_b _) rfl ?_
    exact no1
