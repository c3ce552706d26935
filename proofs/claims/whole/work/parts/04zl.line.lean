/-! the reference's LINES: what they tell -/
def sr (r : F1) (k v : Int) : F1 := fun j => if j = k then v else r j
theorem sr_n {r : F1} {k v j : Int} (h : j ≠ k) : sr r k v j = r j := if_neg h
theorem sr_e {r : F1} {k v : Int} : sr r k v k = v := if_pos rfl
def isE (o : PO) : Prop := match o with
  | .inl _ => True
  | .inr _ => False
theorem isE_f {o : PO} (h : ¬ isE o) : ∃ a, o = .inr a := by
  cases o with
  | inl q => exact absurd trivial h
  | inr a => exact ⟨a, rfl⟩
theorem isE_t {o : PO} (h : isE o) : ∃ q, o = .inl q := by
  cases o with
  | inl q => exact ⟨q, rfl⟩
  | inr a => exact absurd h id
theorem RSt.fl {I : MI} {bt r : F1} {n : Int} {o : PO} (h : RSt I bt n r o) : I 138 13 = bI (isE o) := by
  cases o with
  | inl q => rw [bI_t (b := isE (.inl q)) trivial]; exact h.no
  | inr a => rw [bI_f (b := isE (.inr a)) id]; exact h.ok
theorem c_X12_told2 {E : ET} {I : MI} {L : ML} {R : MR} {Q : QT} {bt r : F1} {n lo hi v : Int} {o o1 o2 : PO} {k : Nat} {q9 : ST0} (hT : Topo R) (hn : 0 ≤ n ∧ n ≤ 900) (hb : ∀ k, 0 ≤ k → k < n → 0 ≤ bt k ∧ bt k ≤ 255) (hk : STRS[k]? = some q9) (hlo : -1000 ≤ lo ∧ lo ≤ 1000) (hhi : -1000 ≤ hi ∧ hi ≤ 1000) (hS : RSt I bt n r o) (e1 : muW bt n (wS k) o = o1) (e2 : nuO bt n lo hi o1 = o2) (ev : nuV bt n lo hi o1 = v)
    (h : ∀ I', RFr I I' → RSt I' bt n r o2 → Q (some (vi v)) I' L R) : CT E M_X12_told 161 yX12_told [vr 138, vq 0 k, vi lo, vi hi] I L R Q := by
  subst e1; subst e2; subst ev
  exact c_X12_told hT hn hb hk hlo hhi hS h
theorem c_X12_number2 {E : ET} {I : MI} {L : ML} {R : MR} {Q : QT} {bt r : F1} {n lo hi v : Int} {o o2 : PO} (hT : Topo R) (hn : 0 ≤ n ∧ n ≤ 900) (hb : ∀ k, 0 ≤ k → k < n → 0 ≤ bt k ∧ bt k ≤ 255) (hlo : -1000 ≤ lo ∧ lo ≤ 1000) (hhi : -1000 ≤ hi ∧ hi ≤ 1000) (hS : RSt I bt n r o) (e2 : nuO bt n lo hi o = o2) (ev : nuV bt n lo hi o = v)
    (h : ∀ I', RFr I I' → RSt I' bt n r o2 → Q (some (vi v)) I' L R) : CT E M_X12_number 161 yX12_number [vr 138, vi lo, vi hi] I L R Q := by
  subst e2; subst ev
  exact c_X12_number hT hn hb hlo hhi hS h
theorem c_X12_must2 {E : ET} {I : MI} {L : ML} {R : MR} {Q : QT} {bt r : F1} {n : Int} {o o1 : PO} {k : Nat} {q9 : ST0} (hT : Topo R) (hn : 0 ≤ n ∧ n ≤ 900) (hb : ∀ k, 0 ≤ k → k < n → 0 ≤ bt k ∧ bt k ≤ 255) (hk : STRS[k]? = some q9) (hS : RSt I bt n r o) (e1 : muW bt n (wS k) o = o1)
    (h : ∀ I', RFr I I' → RSt I' bt n r o1 → Q none I' L R) : CT E M_X12_must 161 yX12_must [vr 138, vq 0 k] I L R Q := by
  subst e1
  exact c_X12_mustW hT hn hb hk hS h
theorem c_X12_takes2 {E : ET} {I : MI} {L : ML} {R : MR} {Q : QT} {bt r : F1} {n : Int} {o o1 : PO} {k : Nat} {q9 : ST0} (hT : Topo R) (hn : 0 ≤ n ∧ n ≤ 900) (hb : ∀ k, 0 ≤ k → k < n → 0 ≤ bt k ∧ bt k ≤ 255) (hk : STRS[k]? = some q9) (hS : RSt I bt n r o) (e1 : tkW bt n (wS k) o = o1)
    (h : ∀ I', RFr I I' → RSt I' bt n r o1 → Q (some (vi (bI (isW bt n (wS k) o)))) I' L R) : CT E M_X12_takes 161 yX12_takes [vr 138, vq 0 k] I L R Q := by
  subst e1
  exact c_X12_takes hT hn hb hk hS h
theorem c_X12_passed2 {E : ET} {I : MI} {L : ML} {R : MR} {Q : QT} {bt r : F1} {n v : Int} {o o1 : PO} {B : Prop} (hT : Topo R) (hn : 0 ≤ n ∧ n ≤ 900) (hb : ∀ k, 0 ≤ k → k < n → 0 ≤ bt k ∧ bt k ≤ 255) (hS : RSt I bt n r o) (e1 : paO bt n r B o = o1) (ev : naV bt n r B o = v) {b : Int} (eb : bI B = b)
    (h : ∀ I', RFr I I' → RSt I' bt n r o1 → Q (some (vi v)) I' L R) : CT E M_X12_passed 161 yX12_passed [vr 138, vi b] I L R Q := by
  subst e1; subst ev; subst eb
  exact c_X12_passed hT hn hb hS h
theorem c_X12_named2 {E : ET} {I : MI} {L : ML} {R : MR} {Q : QT} {bt r : F1} {n v : Int} {o o1 : PO} {B : Prop} (hT : Topo R) (hS : RSt I bt n r o) (e1 : naO bt n r B o = o1) (ev : naV bt n r B o = v) {b : Int} (eb : bI B = b)
    (h : ∀ I', RFr I I' → RSt I' bt n r o1 → Q (some (vi v)) I' L R) : CT E M_X12_named 161 yX12_named [vr 138, vi b] I L R Q := by
  subst e1; subst ev; subst eb
  exact c_X12_named hT hS h
theorem c_X12_side2 {E : ET} {I : MI} {L : ML} {R : MR} {Q : QT} {bt r : F1} {n v : Int} {o o1 : PO} (hT : Topo R) (hn : 0 ≤ n ∧ n ≤ 900) (hb : ∀ k, 0 ≤ k → k < n → 0 ≤ bt k ∧ bt k ≤ 255) (hS : RSt I bt n r o) (e1 : siO bt n o = o1) (ev : siV bt n o = v)
    (h : ∀ I', RFr I I' → RSt I' bt n r o1 → Q (some (vi v)) I' L R) : CT E M_X12_side 161 yX12_side [vr 138] I L R Q := by
  subst e1; subst ev
  exact c_X12_side hT hn hb hS h
/-- the start of a LINE -/
noncomputable def bgO (bt : F1) (n : Int) (C : Prop) (num a : Int) : PO := pick C (.inr (nxE bt n a)) (.inl (num, a))
set_option maxHeartbeats 4000000 in
theorem c_X12_begins {E : ET} {I : MI} {L : ML} {R : MR} {Q : Option AV → MI → ML → MR → Prop} {bt r : F1} {n a num : Int} {C : Prop} {k : Nat} {q9 : ST0} (hT : Topo R) (hn : 0 ≤ n ∧ n ≤ 900) (hb : ∀ k, 0 ≤ k → k < n → 0 ≤ bt k ∧ bt k ≤ 255) (hk : STRS[k]? = some q9) (hm : 0 ≤ num ∧ num ≤ 9) (hS : RSt I bt n r (.inr a)) (h : (isW bt n (wS k) (.inr a) → ∀ I', RFr I I' → RSt I' bt n r (bgO bt n C num a) → Q (some (vi 1)) I' L R) ∧ (¬ isW bt n (wS k) (.inr a) → Q (some (vi 0)) I L R)) : CT E M_X12_begins 161 yX12_begins [(vr (138)), (vq 0 (k)), (vi (bI C)), (vi (num))] I L R Q := by
  refine CT_of rfl rfl (fun h => by cases h) (Nat.le_of_ble_eq_true rfl) (fun X => ?_)
  show V X _ z0 0 [some (vr (138)), some (vq 0 (k)), some (vi (bI C)), some (vi (num))] [] I L R _
  by_cases hC : C
  · have e : bgO bt n C num a = .inr (nxE bt n a) := pick_t hC
    rw [e] at h
    rw [bI_t hC]
    refine s_aload_n 1 dX12_begins_0 rfl rfl ?_
    refine s_aloadq_n 2 dX12_begins_1 rfl rfl ?_
    refine s_callV0 (M' := M_X12_isWord) (as := [_]) 5 dX12_begins_2 rfl cw_X12_136 rfl rfl sh_138 rfl (by decide) (Nat.le_of_ble_eq_true rfl) (Nat.le_of_ble_eq_true rfl) (Nat.le_of_ble_eq_true rfl) (Nat.le_of_ble_eq_true rfl) ⟨rfl, rfl, rfl⟩ ?_
    refine c_X12_isWord hT hk hS ?_
    refine s_ifb_ne 10 8 dX12_begins_5 rfl rfl (fun h_5 => ?_) (fun h_5 => ?_)
    · skip
      refine s_iload_n 11 dX12_begins_10 rfl rfl ?_
      refine s_if_ne 23 14 dX12_begins_11 rfl rfl (by first | omega | exact bI_r _ | exact iI_r _) (fun h_11 => ?_) (fun h_11 => by exfalso; omega)
      refine s_aload_n 24 dX12_begins_23 rfl rfl ?_
      refine s_getI 27 dX12_begins_24 rfl fl_X12_119 (fun _ _ _ _ => rfl) sh_138 (Nat.le_of_ble_eq_true rfl) (fun r_24 => ?_)
      rw [hS.ok]
      refine s_if_ne 34 30 dX12_begins_27 rfl rfl (by first | omega | exact bI_r _ | exact iI_r _) (fun h_27 => by exfalso; omega) (fun h_27 => ?_)
      refine s_aload_n 31 dX12_begins_30 rfl rfl ?_
      refine s_callV0 (M' := M_X12_next) (as := []) 34 dX12_begins_31 rfl cw_X12_140 rfl rfl sh_138 rfl (by decide) (Nat.le_of_ble_eq_true rfl) (Nat.le_of_ble_eq_true rfl) (Nat.le_of_ble_eq_true rfl) (Nat.le_of_ble_eq_true rfl) ⟨rfl, rfl, rfl⟩ ?_
      refine c_X12_next2 hT hn hb hS (fun I2 q1 q2 => ?_)
      refine s_iconst 35 dX12_begins_34 rfl ?_
      refine s_zret dX12_begins_35 rfl (by first | omega | exact bI_b _) rfl ?_
      exact h.1 h_5 I2 q1 q2
    refine s_iconst 9 dX12_begins_8 rfl ?_
    refine s_zret dX12_begins_9 rfl (by first | omega | exact bI_b _) rfl ?_
    exact h.2 h_5
  · have e : bgO bt n C num a = .inl (num, a) := pick_f hC
    rw [e] at h
    rw [bI_f hC]
    refine s_aload_n 1 dX12_begins_0 rfl rfl ?_
    refine s_aloadq_n 2 dX12_begins_1 rfl rfl ?_
    refine s_callV0 (M' := M_X12_isWord) (as := [_]) 5 dX12_begins_2 rfl cw_X12_136 rfl rfl sh_138 rfl (by decide) (Nat.le_of_ble_eq_true rfl) (Nat.le_of_ble_eq_true rfl) (Nat.le_of_ble_eq_true rfl) (Nat.le_of_ble_eq_true rfl) ⟨rfl, rfl, rfl⟩ ?_
    refine c_X12_isWord hT hk hS ?_
    refine s_ifb_ne 10 8 dX12_begins_5 rfl rfl (fun h_5 => ?_) (fun h_5 => ?_)
    · skip
      refine s_iload_n 11 dX12_begins_10 rfl rfl ?_
      refine s_if_ne 23 14 dX12_begins_11 rfl rfl (by first | omega | exact bI_r _ | exact iI_r _) (fun h_11 => by exfalso; omega) (fun h_11 => ?_)
      refine s_aload_n 15 dX12_begins_14 rfl rfl ?_
      refine s_iload_n 16 dX12_begins_15 rfl rfl ?_
      refine s_aload_n 17 dX12_begins_16 rfl rfl ?_
      refine s_getI 20 dX12_begins_17 rfl fl_X12_100 (fun _ _ _ _ => rfl) sh_138 (Nat.le_of_ble_eq_true rfl) (fun r_17 => ?_)
      refine s_callV0 (M' := M_X12_wrong) (as := [_, _]) 23 dX12_begins_20 rfl cw_X12_146 rfl rfl sh_138 rfl (by decide) (Nat.le_of_ble_eq_true rfl) (Nat.le_of_ble_eq_true rfl) (Nat.le_of_ble_eq_true rfl) (Nat.le_of_ble_eq_true rfl) ⟨rfl, rfl, rfl⟩ ?_
      refine c_X12_wrong hS hS.at2 hm (by omega) (fun I2 q1 q2 => ?_)
      have q2 : RSt I2 bt n r (.inl (num, a)) := q2
      refine s_aload_n 24 dX12_begins_23 rfl rfl ?_
      refine s_getI 27 dX12_begins_24 rfl fl_X12_119 (fun _ _ _ _ => rfl) sh_138 (Nat.le_of_ble_eq_true rfl) (fun r_24 => ?_)
      rw [q2.no]
      refine s_if_ne 34 30 dX12_begins_27 rfl rfl (by first | omega | exact bI_r _ | exact iI_r _) (fun h_27 => ?_) (fun h_27 => by exfalso; omega)
      refine s_iconst 35 dX12_begins_34 rfl ?_
      refine s_zret dX12_begins_35 rfl (by first | omega | exact bI_b _) rfl ?_
      exact h.1 h_5 I2 q1 q2
    refine s_iconst 9 dX12_begins_8 rfl ?_
    refine s_zret dX12_begins_9 rfl (by first | omega | exact bI_b _) rfl ?_
    exact h.2 h_5
noncomputable def plA (bt : F1) (n : Int) (o : PO) : PO := muW bt n (wS 29) o
noncomputable def plB (bt : F1) (n : Int) (o : PO) : PO := muW bt n (wS 30) (nuO bt n 0 99 (plA bt n o))
noncomputable def plC (bt : F1) (n : Int) (o : PO) : PO := muW bt n (wS 31) (nuO bt n 0 99 (plB bt n o))
noncomputable def plO (bt : F1) (n : Int) (o : PO) : PO := nuO bt n 1 3 (plC bt n o)
noncomputable def plR (bt : F1) (n : Int) (r : F1) (o : PO) : F1 := sr (sr (sr (sr r 1 (nuV bt n 0 99 (plA bt n o))) 2 (nuV bt n 0 99 (plB bt n o))) 3 (nuV bt n 1 3 (plC bt n o))) 0 1
set_option maxHeartbeats 4000000 in
theorem c_X12_pieceLine {E : ET} {I : MI} {L : ML} {R : MR} {Q : Option AV → MI → ML → MR → Prop} {bt r : F1} {n : Int} {o : PO} (hT : Topo R) (hn : 0 ≤ n ∧ n ≤ 900) (hb : ∀ k, 0 ≤ k → k < n → 0 ≤ bt k ∧ bt k ≤ 255) (hS : RSt I bt n r o) (h : ∀ I' r', RFr I I' → RSt I' bt n r' (plO bt n o) → (¬ isE (plO bt n o) → r' = plR bt n r o) → Q none I' L R) : CT E M_X12_pieceLine 161 yX12_pieceLine [(vr (138))] I L R Q := by
  refine CT_of rfl rfl (fun h => by cases h) (Nat.le_of_ble_eq_true rfl) (fun X => ?_)
  show V X _ z0 0 [some (vr (138))] [] I L R _
  have b1 := nuV_b bt n (lo := 0) (hi := 99) (by decide) (plA bt n o)
  have b2 := nuV_b bt n (lo := 0) (hi := 99) (by decide) (plB bt n o)
  have b3 := nuV_b bt n (lo := 1) (hi := 3) (by decide) (plC bt n o)
  refine s_aload_n 1 dX12_pieceLine_0 rfl rfl ?_
  refine s_getR 4 dX12_pieceLine_1 rfl fl_X12_23 (fun _ _ _ _ => rfl) (T_X12_fresh hT) sh_138 (Nat.le_of_ble_eq_true rfl) ?_
  refine s_iconst 5 dX12_pieceLine_4 rfl ?_
  refine s_aload_n 6 dX12_pieceLine_5 rfl rfl ?_
  refine s_ldcS 8 dX12_pieceLine_6 rfl (ks_X12_241) ?_
  refine s_iconst 9 dX12_pieceLine_8 rfl ?_
  refine s_bipush 11 dX12_pieceLine_9 rfl (by decide) ?_
  refine s_callV0 (M' := M_X12_told) (as := [_, _, _]) 14 dX12_pieceLine_11 rfl cw_X12_243 rfl rfl sh_138 rfl (by decide) (Nat.le_of_ble_eq_true rfl) (Nat.le_of_ble_eq_true rfl) (Nat.le_of_ble_eq_true rfl) (Nat.le_of_ble_eq_true rfl) ⟨rfl, rfl, rfl⟩ ?_
  refine c_X12_told2 (k := 29) (o1 := plA bt n o) hT hn hb rfl (by decide) (by decide) hS rfl rfl rfl (fun I1 q1 q2 => ?_)
  refine s_iast 15 dX12_pieceLine_14 rfl sh_142 (Nat.le_of_ble_eq_true rfl) (by omega) (by omega) (by first | omega | exact bI_r _ | exact iI_r _) ?_
  refine s_aload_n 16 dX12_pieceLine_15 rfl rfl ?_
  refine s_getR 19 dX12_pieceLine_16 rfl fl_X12_23 (fun _ _ _ _ => rfl) (T_X12_fresh hT) sh_138 (Nat.le_of_ble_eq_true rfl) ?_
  refine s_iconst 20 dX12_pieceLine_19 rfl ?_
  refine s_aload_n 21 dX12_pieceLine_20 rfl rfl ?_
  refine s_ldcS 23 dX12_pieceLine_21 rfl (ks_X12_247) ?_
  refine s_iconst 24 dX12_pieceLine_23 rfl ?_
  refine s_bipush 26 dX12_pieceLine_24 rfl (by decide) ?_
  refine s_callV0 (M' := M_X12_told) (as := [_, _, _]) 29 dX12_pieceLine_26 rfl cw_X12_243 rfl rfl sh_138 rfl (by decide) (Nat.le_of_ble_eq_true rfl) (Nat.le_of_ble_eq_true rfl) (Nat.le_of_ble_eq_true rfl) (Nat.le_of_ble_eq_true rfl) ⟨rfl, rfl, rfl⟩ ?_
  have q2 := q2.put (k := 1) (v := nuV bt n 0 99 (plA bt n o))
  refine c_X12_told2 (k := 30) (o1 := plB bt n o) hT hn hb rfl (by decide) (by decide) q2 rfl rfl rfl (fun I2 q3 q4 => ?_)
  refine s_iast 30 dX12_pieceLine_29 rfl sh_142 (Nat.le_of_ble_eq_true rfl) (by omega) (by omega) (by first | omega | exact bI_r _ | exact iI_r _) ?_
  refine s_aload_n 31 dX12_pieceLine_30 rfl rfl ?_
  refine s_getR 34 dX12_pieceLine_31 rfl fl_X12_23 (fun _ _ _ _ => rfl) (T_X12_fresh hT) sh_138 (Nat.le_of_ble_eq_true rfl) ?_
  refine s_iconst 35 dX12_pieceLine_34 rfl ?_
  refine s_aload_n 36 dX12_pieceLine_35 rfl rfl ?_
  refine s_ldcS 38 dX12_pieceLine_36 rfl (ks_X12_249) ?_
  refine s_iconst 39 dX12_pieceLine_38 rfl ?_
  refine s_iconst 40 dX12_pieceLine_39 rfl ?_
  refine s_callV0 (M' := M_X12_told) (as := [_, _, _]) 43 dX12_pieceLine_40 rfl cw_X12_243 rfl rfl sh_138 rfl (by decide) (Nat.le_of_ble_eq_true rfl) (Nat.le_of_ble_eq_true rfl) (Nat.le_of_ble_eq_true rfl) (Nat.le_of_ble_eq_true rfl) ⟨rfl, rfl, rfl⟩ ?_
  have q4 := q4.put (k := 2) (v := nuV bt n 0 99 (plB bt n o))
  refine c_X12_told2 (k := 31) (o1 := plC bt n o) (o2 := plO bt n o) hT hn hb rfl (by decide) (by decide) q4 rfl rfl rfl (fun I3 q5 q6 => ?_)
  refine s_iast 44 dX12_pieceLine_43 rfl sh_142 (Nat.le_of_ble_eq_true rfl) (by omega) (by omega) (by first | omega | exact bI_r _ | exact iI_r _) ?_
  have q6 := q6.put (k := 3) (v := nuV bt n 1 3 (plC bt n o))
  have q7 := ((q1.ar (k := 1) (v := nuV bt n 0 99 (plA bt n o))).tr q3).ar (k := 2) (v := nuV bt n 0 99 (plB bt n o)) |>.tr q5 |>.ar (k := 3) (v := nuV bt n 1 3 (plC bt n o))
  refine s_aload_n 45 dX12_pieceLine_44 rfl rfl ?_
  refine s_getI 48 dX12_pieceLine_45 rfl fl_X12_119 (fun _ _ _ _ => rfl) sh_138 (Nat.le_of_ble_eq_true rfl) (fun r_45 => ?_)
  rw [q6.fl]
  refine s_ifb_ne 58 51 dX12_pieceLine_48 rfl rfl (fun h_48 => ?_) (fun h_48 => ?_)
  · skip
    refine s_vret dX12_pieceLine_58 rfl rfl ?_
    first | exact h _ _ q7 q6 (fun z => absurd (by assumption) z) | exact h _ _ q7.ar (q6.put (k := 0) (v := 1)) (fun _ => rfl)
  refine s_aload_n 52 dX12_pieceLine_51 rfl rfl ?_
  refine s_getR 55 dX12_pieceLine_52 rfl fl_X12_23 (fun _ _ _ _ => rfl) (T_X12_fresh hT) sh_138 (Nat.le_of_ble_eq_true rfl) ?_
  refine s_iconst 56 dX12_pieceLine_55 rfl ?_
  refine s_iconst 57 dX12_pieceLine_56 rfl ?_
  refine s_iast 58 dX12_pieceLine_57 rfl sh_142 (Nat.le_of_ble_eq_true rfl) (by omega) (by omega) (by first | omega | exact bI_r _ | exact iI_r _) ?_
  refine s_vret dX12_pieceLine_58 rfl rfl ?_
  first | exact h _ _ q7 q6 (fun z => absurd (by assumption) z) | exact h _ _ q7.ar (q6.put (k := 0) (v := 1)) (fun _ => rfl)
noncomputable def kiO (bt : F1) (n : Int) (o : PO) : PO := match o with
  | .inl q => .inl q
  | .inr a => pick (isW bt n (wS 38) (.inr a)) (nuO bt n 0 99 (.inr (nxE bt n a))) (pick (isW bt n (wS 39) (.inr a)) (.inr (nxE bt n a)) (pick (isW bt n (wS 40) (.inr a)) (.inr (nxE bt n a)) (muW bt n (wS 41) (.inr a))))
noncomputable def kiK (bt : F1) (n : Int) (o : PO) : Int := pick (isW bt n (wS 38) o) 1 (pick (isW bt n (wS 39) o) 2 (pick (isW bt n (wS 40) o) 3 0))
noncomputable def kiH (bt : F1) (n : Int) (o : PO) : Int := match o with
  | .inl _ => 0
  | .inr a => pick (isW bt n (wS 38) (.inr a)) (nuV bt n 0 99 (.inr (nxE bt n a))) 0
noncomputable def ptA (bt : F1) (n : Int) (r : F1) (o : PO) : PO := nnO bt n r o
noncomputable def ptB (bt : F1) (n : Int) (r : F1) (o : PO) : PO := muW bt n (wS 42) (kiO bt n (ptA bt n r o))
noncomputable def ptC (bt : F1) (n : Int) (r : F1) (o : PO) : PO := muW bt n (wS 43) (nuO bt n 0 9 (ptB bt n r o))
noncomputable def ptD (bt : F1) (n : Int) (r : F1) (o : PO) : PO := muW bt n (wS 44) (nuO bt n 0 99 (ptC bt n r o))
noncomputable def ptO (bt : F1) (n : Int) (r : F1) (o : PO) : PO := nuO bt n 0 99 (ptD bt n r o)
noncomputable def ptR (bt : F1) (n : Int) (r : F1) (o : PO) : F1 :=
  sr (sr (sr (sr (sr (sr (nnR bt n r (r 4) o) (9 + r 4) (kiK bt n (ptA bt n r o))) (37 + r 4) (kiH bt n (ptA bt n r o))) (16 + r 4) (nuV bt n 0 9 (ptB bt n r o))) (23 + r 4) (nuV bt n 0 99 (ptC bt n r o))) (30 + r 4) (nuV bt n 0 99 (ptD bt n r o))) 4 (r 4 + 1)
noncomputable def scA (bt : F1) (n : Int) (r : F1) (o : PO) : PO := muW bt n (wS 45) (nnO bt n r o)
noncomputable def scO (bt : F1) (n : Int) (r : F1) (o : PO) : PO := nuO bt n 1 500 (scA bt n r o)
noncomputable def scR (bt : F1) (n : Int) (r : F1) (o : PO) : F1 := sr (sr (nnR bt n r (7 + r 5) o) (44 + r 5) (nuV bt n 1 500 (scA bt n r o))) 5 (r 5 + 1)
noncomputable def afA (bt : F1) (n : Int) (r : F1) (o : PO) : PO := paO bt n r False o
noncomputable def afB (bt : F1) (n : Int) (r : F1) (o : PO) : PO := naO bt n r False (afA bt n r o)
noncomputable def afV (bt : F1) (n : Int) (r : F1) (o : PO) : Int := naV bt n r False o
noncomputable def afW (bt : F1) (n : Int) (r : F1) (o : PO) : Int := naV bt n r False (afA bt n r o)
noncomputable def afO (bt : F1) (n : Int) (r : F1) (o : PO) : PO := match afB bt n r o with
  | .inl q => .inl q
  | .inr a => pick (afV bt n r o = afW bt n r o) (.inl (3, a)) (pick (AncP r (afV bt n r o) (afW bt n r o)) (.inl (7, a)) (.inr (nxE bt n a)))
noncomputable def afR (bt : F1) (n : Int) (r : F1) (o : PO) : F1 := sr (sr r (49 + afW bt n r o) (ior (r (49 + afW bt n r o)) (ishl 1 (afV bt n r o)))) 6 (r 6 + 1)
noncomputable def onA (bt : F1) (n : Int) (r : F1) (o : PO) : PO := paO bt n r True o
noncomputable def onB (bt : F1) (n : Int) (r : F1) (o : PO) : PO := paO bt n r False (onA bt n r o)
noncomputable def onS (bt : F1) (n : Int) (r : F1) (o : PO) : Int := naV bt n r False (onA bt n r o)
noncomputable def onL (bt : F1) (n : Int) (r : F1) (o : PO) : Int := pick (isE (onB bt n r o)) 1 (r (44 + onS bt n r o))
noncomputable def onF9 (bt : F1) (n : Int) (r : F1) (o : PO) : Int := nuV bt n 0 (onL bt n r o - 1) (onB bt n r o)
noncomputable def onD (bt : F1) (n : Int) (r : F1) (o : PO) : PO := muW bt n (wS 46) (nuO bt n 0 (onL bt n r o - 1) (onB bt n r o))
noncomputable def onT (bt : F1) (n : Int) (r : F1) (o : PO) : Int := nuV bt n (onF9 bt n r o + 1) (onL bt n r o) (onD bt n r o)
noncomputable def onE (bt : F1) (n : Int) (r : F1) (o : PO) : PO := nuO bt n (onF9 bt n r o + 1) (onL bt n r o) (onD bt n r o)
noncomputable def onG (bt : F1) (n : Int) (r : F1) (o : PO) : PO := siO bt n (onE bt n r o)
noncomputable def onH (bt : F1) (n : Int) (r : F1) (o : PO) : PO := siO bt n (onG bt n r o)
noncomputable def onO (bt : F1) (n : Int) (r : F1) (o : PO) : PO := tkW bt n (wS 37) (onH bt n r o)
noncomputable def onQ (bt : F1) (n : Int) (r : F1) (o : PO) : Int := bI (isW bt n (wS 37) (onH bt n r o))
noncomputable def onR (bt : F1) (n : Int) (r : F1) (o : PO) : F1 :=
  sr (sr (sr (sr (sr (sr (sr (sr r (54 + 7 * r 7 + 0) (naV bt n r True o)) (54 + 7 * r 7 + 1) (onS bt n r o)) (54 + 7 * r 7 + 2) (onF9 bt n r o)) (54 + 7 * r 7 + 3) (onT bt n r o)) (54 + 7 * r 7 + 4) (siV bt n (onE bt n r o))) (54 + 7 * r 7 + 5) (siV bt n (onG bt n r o))) (54 + 7 * r 7 + 6) (onQ bt n r o)) 7 (r 7 + 1)
noncomputable def swA (bt : F1) (n : Int) (r : F1) (o : PO) : PO := paO bt n r True o
noncomputable def swB (bt : F1) (n : Int) (r : F1) (o : PO) : PO := nuO bt n 0 999 (swA bt n r o)
noncomputable def swO (bt : F1) (n : Int) (r : F1) (o : PO) : PO := siO bt n (swB bt n r o)
noncomputable def swR (bt : F1) (n : Int) (r : F1) (o : PO) : F1 := sr (sr (sr (sr r (152 + 3 * r 8) (naV bt n r True o)) (152 + 3 * r 8 + 1) (nuV bt n 0 999 (swA bt n r o))) (152 + 3 * r 8 + 2) (siV bt n (swB bt n r o))) 8 (r 8 + 1)
