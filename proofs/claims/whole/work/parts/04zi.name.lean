/-! the reference's names and numbers -/
noncomputable def tkW (bt : F1) (n : Int) (w : List Int) (o : PO) : PO := match o with
  | .inl q => .inl q
  | .inr a => pick (tkE bt n a = 2 ∧ wdE bt n a = w) (.inr (nxE bt n a)) (.inr a)
noncomputable def muW (bt : F1) (n : Int) (w : List Int) (o : PO) : PO := match o with
  | .inl q => .inl q
  | .inr a => pick (tkE bt n a = 2 ∧ wdE bt n a = w) (.inr (nxE bt n a)) (.inl (1, a))
theorem tkW_t {bt : F1} {n a : Int} {w : List Int} (h : isW bt n w (.inr a)) : tkW bt n w (.inr a) = .inr (nxE bt n a) := pick_t h
theorem tkW_f {bt : F1} {n : Int} {w : List Int} {o : PO} (h : ¬ isW bt n w o) : tkW bt n w o = o := by
  cases o with
  | inl q => rfl
  | inr a => exact pick_f h
theorem muW_t {bt : F1} {n a : Int} {w : List Int} (h : isW bt n w (.inr a)) : muW bt n w (.inr a) = .inr (nxE bt n a) := pick_t h
theorem muW_f {bt : F1} {n a : Int} {w : List Int} (h : ¬ isW bt n w (.inr a)) : muW bt n w (.inr a) = .inl (1, a) := pick_f h
set_option maxHeartbeats 4000000 in
theorem c_X12_takes {E : ET} {I : MI} {L : ML} {R : MR} {Q : Option AV → MI → ML → MR → Prop} {bt r : F1} {n : Int} {o : PO} {k : Nat} {q9 : ST0} (hT : Topo R) (hn : 0 ≤ n ∧ n ≤ 900) (hb : ∀ k, 0 ≤ k → k < n → 0 ≤ bt k ∧ bt k ≤ 255) (hk : STRS[k]? = some q9) (hS : RSt I bt n r o) (h : ∀ I', RFr I I' → RSt I' bt n r (tkW bt n (wS k) o) → Q (some (vi (bI (isW bt n (wS k) o)))) I' L R) : CT E M_X12_takes 161 yX12_takes [(vr (138)), (vq 0 (k))] I L R Q := by
  refine CT_of rfl rfl (fun h => by cases h) (Nat.le_of_ble_eq_true rfl) (fun X => ?_)
  show V X _ z0 0 [some (vr (138)), some (vq 0 (k))] [] I L R _
  cases o with
  | inl q =>
    refine s_aload_n 1 dX12_takes_0 rfl rfl ?_
    refine s_aloadq_n 2 dX12_takes_1 rfl rfl ?_
    refine s_callV0 (M' := M_X12_isWord) (as := [_]) 5 dX12_takes_2 rfl cw_X12_136 rfl rfl sh_138 rfl (by decide) (Nat.le_of_ble_eq_true rfl) (Nat.le_of_ble_eq_true rfl) (Nat.le_of_ble_eq_true rfl) (Nat.le_of_ble_eq_true rfl) ⟨rfl, rfl, rfl⟩ ?_
    refine c_X12_isWord hT hk hS ?_
    refine s_ifb_ne 10 8 dX12_takes_5 rfl rfl (fun h_5 => by exfalso; exact h_5) (fun h_5 => ?_)
    refine s_iconst 9 dX12_takes_8 rfl ?_
    refine s_zret dX12_takes_9 rfl (by first | omega | exact bI_b _) rfl ?_
    exact ret_f (b := isW bt n (wS k) (.inl q)) (fun z => z) (h I RFr.rf hS)
  | inr a =>
    refine s_aload_n 1 dX12_takes_0 rfl rfl ?_
    refine s_aloadq_n 2 dX12_takes_1 rfl rfl ?_
    refine s_callV0 (M' := M_X12_isWord) (as := [_]) 5 dX12_takes_2 rfl cw_X12_136 rfl rfl sh_138 rfl (by decide) (Nat.le_of_ble_eq_true rfl) (Nat.le_of_ble_eq_true rfl) (Nat.le_of_ble_eq_true rfl) (Nat.le_of_ble_eq_true rfl) ⟨rfl, rfl, rfl⟩ ?_
    refine c_X12_isWord hT hk hS ?_
    refine s_ifb_ne 10 8 dX12_takes_5 rfl rfl (fun h_5 => ?_) (fun h_5 => ?_)
    · skip
      refine s_aload_n 11 dX12_takes_10 rfl rfl ?_
      refine s_callV0 (M' := M_X12_next) (as := []) 14 dX12_takes_11 rfl cw_X12_140 rfl rfl sh_138 rfl (by decide) (Nat.le_of_ble_eq_true rfl) (Nat.le_of_ble_eq_true rfl) (Nat.le_of_ble_eq_true rfl) (Nat.le_of_ble_eq_true rfl) ⟨rfl, rfl, rfl⟩ ?_
      refine c_X12_next2 hT hn hb hS (fun I' q1 q2 => ?_)
      refine s_iconst 15 dX12_takes_14 rfl ?_
      refine s_zret dX12_takes_15 rfl (by first | omega | exact bI_b _) rfl ?_
      rw [tkW_t h_5] at h; exact ret_t h_5 (h I' q1 q2)
    refine s_iconst 9 dX12_takes_8 rfl ?_
    refine s_zret dX12_takes_9 rfl (by first | omega | exact bI_b _) rfl ?_
    rw [tkW_f h_5] at h; exact ret_f h_5 (h I RFr.rf hS)
set_option maxHeartbeats 4000000 in
theorem c_X12_mustW {E : ET} {I : MI} {L : ML} {R : MR} {Q : Option AV → MI → ML → MR → Prop} {bt r : F1} {n : Int} {o : PO} {k : Nat} {q9 : ST0} (hT : Topo R) (hn : 0 ≤ n ∧ n ≤ 900) (hb : ∀ k, 0 ≤ k → k < n → 0 ≤ bt k ∧ bt k ≤ 255) (hk : STRS[k]? = some q9) (hS : RSt I bt n r o) (h : ∀ I', RFr I I' → RSt I' bt n r (muW bt n (wS k) o) → Q none I' L R) : CT E M_X12_must 161 yX12_must [(vr (138)), (vq 0 (k))] I L R Q := by
  refine CT_of rfl rfl (fun h => by cases h) (Nat.le_of_ble_eq_true rfl) (fun X => ?_)
  show V X _ z0 0 [some (vr (138)), some (vq 0 (k))] [] I L R _
  have hS0 := hS
  obtain ⟨h1, h2, h3, h4⟩ := hS0
  cases o with
  | inl q =>
    refine s_aload_n 1 dX12_must_0 rfl rfl ?_
    refine s_getI 4 dX12_must_1 rfl fl_X12_119 (fun _ _ _ _ => rfl) sh_138 (Nat.le_of_ble_eq_true rfl) (fun r_1 => ?_)
    refine s_if_ne 24 7 dX12_must_4 rfl rfl (by first | omega | exact bI_r _ | exact iI_r _) (fun h_4 => ?_) (fun h_4 => by exfalso; (have := h4.1; omega))
    refine s_vret dX12_must_24 rfl rfl ?_
    exact h I RFr.rf hS
  | inr a =>
    refine s_aload_n 1 dX12_must_0 rfl rfl ?_
    refine s_getI 4 dX12_must_1 rfl fl_X12_119 (fun _ _ _ _ => rfl) sh_138 (Nat.le_of_ble_eq_true rfl) (fun r_1 => ?_)
    refine s_if_ne 24 7 dX12_must_4 rfl rfl (by first | omega | exact bI_r _ | exact iI_r _) (fun h_4 => by exfalso; (have := h4.1; omega)) (fun h_4 => ?_)
    refine s_aload_n 8 dX12_must_7 rfl rfl ?_
    refine s_aloadq_n 9 dX12_must_8 rfl rfl ?_
    refine s_callV0 (M' := M_X12_takes) (as := [_]) 12 dX12_must_9 rfl cw_X12_143 rfl rfl sh_138 rfl (by decide) (Nat.le_of_ble_eq_true rfl) (Nat.le_of_ble_eq_true rfl) (Nat.le_of_ble_eq_true rfl) (Nat.le_of_ble_eq_true rfl) ⟨rfl, rfl, rfl⟩ ?_
    refine c_X12_takes hT hn hb hk hS (fun I1 q1 q2 => ?_)
    refine s_ifb_ne 24 15 dX12_must_12 rfl rfl (fun h_12 => ?_) (fun h_12 => ?_)
    · skip
      refine s_vret dX12_must_24 rfl rfl ?_
      first | (rw [muW_t h_12] at h; rw [tkW_t h_12] at q2; exact h I1 q1 q2) | (rw [muW_f h_12] at h; exact h I2 (q1.tr p1) p2)
    refine s_aload_n 16 dX12_must_15 rfl rfl ?_
    refine s_iconst 17 dX12_must_16 rfl ?_
    refine s_aload_n 18 dX12_must_17 rfl rfl ?_
    refine s_getI 21 dX12_must_18 rfl fl_X12_100 (fun _ _ _ _ => rfl) sh_138 (Nat.le_of_ble_eq_true rfl) (fun r_18 => ?_)
    refine s_callV0 (M' := M_X12_wrong) (as := [_, _]) 24 dX12_must_21 rfl cw_X12_146 rfl rfl sh_138 rfl (by decide) (Nat.le_of_ble_eq_true rfl) (Nat.le_of_ble_eq_true rfl) (Nat.le_of_ble_eq_true rfl) (Nat.le_of_ble_eq_true rfl) ⟨rfl, rfl, rfl⟩ ?_
    rw [tkW_f h_12] at q2
    refine c_X12_wrong q2 (fun b z => by cases z; exact q2.2.2.2.2.2.1) (by decide) (by omega) (fun I2 p1 p2 => ?_)
    refine s_vret dX12_must_24 rfl rfl ?_
    first | (rw [muW_t h_12] at h; rw [tkW_t h_12] at q2; exact h I1 q1 q2) | (rw [muW_f h_12] at h; exact h I2 (q1.tr p1) p2)
def nmP (bt : F1) (n a : Int) : Prop := tkE bt n a = 2 ∧ ¬ isW bt n (wS 28) (.inr a) ∧ ¬ isW bt n (wS 32) (.inr a) ∧ ¬ isW bt n (wS 33) (.inr a) ∧ ¬ isW bt n (wS 34) (.inr a) ∧ ¬ isW bt n (wS 35) (.inr a) ∧ ¬ isW bt n (wS 36) (.inr a) ∧ ¬ isW bt n (wS 37) (.inr a)
noncomputable def mnW (bt : F1) (n a : Int) : PO := pick (nmP bt n a) (.inr a) (.inl (1, a))
set_option maxHeartbeats 4000000 in
theorem c_X12_mustName {E : ET} {I : MI} {L : ML} {R : MR} {Q : Option AV → MI → ML → MR → Prop} {bt r : F1} {n a : Int} (hT : Topo R) (hS : RSt I bt n r (.inr a)) (h : ∀ I', RFr I I' → RSt I' bt n r (mnW bt n a) → Q none I' L R) : CT E M_X12_mustName 161 yX12_mustName [(vr (138))] I L R Q := by
  refine CT_of rfl rfl (fun h => by cases h) (Nat.le_of_ble_eq_true rfl) (fun X => ?_)
  show V X _ z0 0 [some (vr (138)), none] [] I L R _
  have h6 := hS.2.2.2.2.2.2.2.2.1
  refine s_aload_n 1 dX12_mustName_0 rfl rfl ?_
  refine s_ldcS 3 dX12_mustName_1 rfl (ks_X12_150) ?_
  refine s_callV0 (M' := M_X12_isWord) (as := [_]) 6 dX12_mustName_3 rfl cw_X12_136 rfl rfl sh_138 rfl (by decide) (Nat.le_of_ble_eq_true rfl) (Nat.le_of_ble_eq_true rfl) (Nat.le_of_ble_eq_true rfl) (Nat.le_of_ble_eq_true rfl) ⟨rfl, rfl, rfl⟩ ?_
  refine c_X12_isWord hT rfl hS ?_
  refine s_ifb_ne 63 9 dX12_mustName_6 rfl rfl (fun h_6 => ?_) (fun h_6 => ?_)
  · skip
    refine s_iconst 64 dX12_mustName_63 rfl ?_
    refine s_goto 68 dX12_mustName_64 rfl ?_
    refine s_istore_n (ls' := [_, _]) 69 dX12_mustName_68 rfl (Nat.le_of_ble_eq_true rfl) rfl rfl ?_
    refine s_aload_n 70 dX12_mustName_69 rfl rfl ?_
    refine s_getI 73 dX12_mustName_70 rfl fl_X12_109 (fun _ _ _ _ => rfl) sh_138 (Nat.le_of_ble_eq_true rfl) (fun r_70 => ?_)
    rw [h6]
    refine s_iconst 74 dX12_mustName_73 rfl ?_
    refine s_icmp_ne 81 77 dX12_mustName_74 rfl rfl (by first | omega | exact bI_r _ | exact iI_r _) (by first | omega | exact bI_r _ | exact iI_r _) (fun h_74 => ?_) (fun h_74 => ?_)
    · skip
      refine s_aload_n 82 dX12_mustName_81 rfl rfl ?_
      refine s_iconst 83 dX12_mustName_82 rfl ?_
      refine s_aload_n 84 dX12_mustName_83 rfl rfl ?_
      refine s_getI 87 dX12_mustName_84 rfl fl_X12_100 (fun _ _ _ _ => rfl) sh_138 (Nat.le_of_ble_eq_true rfl) (fun r_84 => ?_)
      refine s_callV0 (M' := M_X12_wrong) (as := [_, _]) 90 dX12_mustName_87 rfl cw_X12_146 rfl rfl sh_138 rfl (by decide) (Nat.le_of_ble_eq_true rfl) (Nat.le_of_ble_eq_true rfl) (Nat.le_of_ble_eq_true rfl) (Nat.le_of_ble_eq_true rfl) ⟨rfl, rfl, rfl⟩ ?_
      refine c_X12_wrong hS (fun b z => by cases z; exact hS.2.2.2.2.2.1) (by decide) (by omega) (fun I2 p1 p2 => ?_)
      refine s_vret dX12_mustName_90 rfl rfl ?_
      first | exact absurd rfl h_78 | exact absurd h_78 (by decide) | (have e : mnW bt n a = .inr a := pick_t ⟨by omega, by assumption, by assumption, by assumption, by assumption, by assumption, by assumption, by assumption⟩; rw [e] at h; exact h I RFr.rf hS) | (have e : mnW bt n a = .inl (1, a) := pick_f (fun z => by obtain ⟨z0, z1, z2, z3, z4, z5, z6, z7⟩ := z; first | contradiction | omega); rw [e] at h; exact h _ p1 p2)
    refine s_iload_n 78 dX12_mustName_77 rfl rfl ?_
    refine s_if_eq 90 81 dX12_mustName_78 rfl rfl (by first | omega | exact bI_r _ | exact iI_r _) (fun h_78 => ?_) (fun h_78 => ?_)
    · skip
      refine s_vret dX12_mustName_90 rfl rfl ?_
      first | exact absurd rfl h_78 | exact absurd h_78 (by decide) | (have e : mnW bt n a = .inr a := pick_t ⟨by omega, by assumption, by assumption, by assumption, by assumption, by assumption, by assumption, by assumption⟩; rw [e] at h; exact h I RFr.rf hS) | (have e : mnW bt n a = .inl (1, a) := pick_f (fun z => by obtain ⟨z0, z1, z2, z3, z4, z5, z6, z7⟩ := z; first | contradiction | omega); rw [e] at h; exact h _ p1 p2)
    refine s_aload_n 82 dX12_mustName_81 rfl rfl ?_
    refine s_iconst 83 dX12_mustName_82 rfl ?_
    refine s_aload_n 84 dX12_mustName_83 rfl rfl ?_
    refine s_getI 87 dX12_mustName_84 rfl fl_X12_100 (fun _ _ _ _ => rfl) sh_138 (Nat.le_of_ble_eq_true rfl) (fun r_84 => ?_)
    refine s_callV0 (M' := M_X12_wrong) (as := [_, _]) 90 dX12_mustName_87 rfl cw_X12_146 rfl rfl sh_138 rfl (by decide) (Nat.le_of_ble_eq_true rfl) (Nat.le_of_ble_eq_true rfl) (Nat.le_of_ble_eq_true rfl) (Nat.le_of_ble_eq_true rfl) ⟨rfl, rfl, rfl⟩ ?_
    refine c_X12_wrong hS (fun b z => by cases z; exact hS.2.2.2.2.2.1) (by decide) (by omega) (fun I2 p1 p2 => ?_)
    refine s_vret dX12_mustName_90 rfl rfl ?_
    first | exact absurd rfl h_78 | exact absurd h_78 (by decide) | (have e : mnW bt n a = .inr a := pick_t ⟨by omega, by assumption, by assumption, by assumption, by assumption, by assumption, by assumption, by assumption⟩; rw [e] at h; exact h I RFr.rf hS) | (have e : mnW bt n a = .inl (1, a) := pick_f (fun z => by obtain ⟨z0, z1, z2, z3, z4, z5, z6, z7⟩ := z; first | contradiction | omega); rw [e] at h; exact h _ p1 p2)
  refine s_aload_n 10 dX12_mustName_9 rfl rfl ?_
  refine s_ldcS 12 dX12_mustName_10 rfl (ks_X12_152) ?_
  refine s_callV0 (M' := M_X12_isWord) (as := [_]) 15 dX12_mustName_12 rfl cw_X12_136 rfl rfl sh_138 rfl (by decide) (Nat.le_of_ble_eq_true rfl) (Nat.le_of_ble_eq_true rfl) (Nat.le_of_ble_eq_true rfl) (Nat.le_of_ble_eq_true rfl) ⟨rfl, rfl, rfl⟩ ?_
  refine c_X12_isWord hT rfl hS ?_
  refine s_ifb_ne 63 18 dX12_mustName_15 rfl rfl (fun h_15 => ?_) (fun h_15 => ?_)
  · skip
    refine s_iconst 64 dX12_mustName_63 rfl ?_
    refine s_goto 68 dX12_mustName_64 rfl ?_
    refine s_istore_n (ls' := [_, _]) 69 dX12_mustName_68 rfl (Nat.le_of_ble_eq_true rfl) rfl rfl ?_
    refine s_aload_n 70 dX12_mustName_69 rfl rfl ?_
    refine s_getI 73 dX12_mustName_70 rfl fl_X12_109 (fun _ _ _ _ => rfl) sh_138 (Nat.le_of_ble_eq_true rfl) (fun r_70 => ?_)
    rw [h6]
    refine s_iconst 74 dX12_mustName_73 rfl ?_
    refine s_icmp_ne 81 77 dX12_mustName_74 rfl rfl (by first | omega | exact bI_r _ | exact iI_r _) (by first | omega | exact bI_r _ | exact iI_r _) (fun h_74 => ?_) (fun h_74 => ?_)
    · skip
      refine s_aload_n 82 dX12_mustName_81 rfl rfl ?_
      refine s_iconst 83 dX12_mustName_82 rfl ?_
      refine s_aload_n 84 dX12_mustName_83 rfl rfl ?_
      refine s_getI 87 dX12_mustName_84 rfl fl_X12_100 (fun _ _ _ _ => rfl) sh_138 (Nat.le_of_ble_eq_true rfl) (fun r_84 => ?_)
      refine s_callV0 (M' := M_X12_wrong) (as := [_, _]) 90 dX12_mustName_87 rfl cw_X12_146 rfl rfl sh_138 rfl (by decide) (Nat.le_of_ble_eq_true rfl) (Nat.le_of_ble_eq_true rfl) (Nat.le_of_ble_eq_true rfl) (Nat.le_of_ble_eq_true rfl) ⟨rfl, rfl, rfl⟩ ?_
      refine c_X12_wrong hS (fun b z => by cases z; exact hS.2.2.2.2.2.1) (by decide) (by omega) (fun I2 p1 p2 => ?_)
      refine s_vret dX12_mustName_90 rfl rfl ?_
      first | exact absurd rfl h_78 | exact absurd h_78 (by decide) | (have e : mnW bt n a = .inr a := pick_t ⟨by omega, by assumption, by assumption, by assumption, by assumption, by assumption, by assumption, by assumption⟩; rw [e] at h; exact h I RFr.rf hS) | (have e : mnW bt n a = .inl (1, a) := pick_f (fun z => by obtain ⟨z0, z1, z2, z3, z4, z5, z6, z7⟩ := z; first | contradiction | omega); rw [e] at h; exact h _ p1 p2)
    refine s_iload_n 78 dX12_mustName_77 rfl rfl ?_
    refine s_if_eq 90 81 dX12_mustName_78 rfl rfl (by first | omega | exact bI_r _ | exact iI_r _) (fun h_78 => ?_) (fun h_78 => ?_)
    · skip
      refine s_vret dX12_mustName_90 rfl rfl ?_
      first | exact absurd rfl h_78 | exact absurd h_78 (by decide) | (have e : mnW bt n a = .inr a := pick_t ⟨by omega, by assumption, by assumption, by assumption, by assumption, by assumption, by assumption, by assumption⟩; rw [e] at h; exact h I RFr.rf hS) | (have e : mnW bt n a = .inl (1, a) := pick_f (fun z => by obtain ⟨z0, z1, z2, z3, z4, z5, z6, z7⟩ := z; first | contradiction | omega); rw [e] at h; exact h _ p1 p2)
    refine s_aload_n 82 dX12_mustName_81 rfl rfl ?_
    refine s_iconst 83 dX12_mustName_82 rfl ?_
    refine s_aload_n 84 dX12_mustName_83 rfl rfl ?_
    refine s_getI 87 dX12_mustName_84 rfl fl_X12_100 (fun _ _ _ _ => rfl) sh_138 (Nat.le_of_ble_eq_true rfl) (fun r_84 => ?_)
    refine s_callV0 (M' := M_X12_wrong) (as := [_, _]) 90 dX12_mustName_87 rfl cw_X12_146 rfl rfl sh_138 rfl (by decide) (Nat.le_of_ble_eq_true rfl) (Nat.le_of_ble_eq_true rfl) (Nat.le_of_ble_eq_true rfl) (Nat.le_of_ble_eq_true rfl) ⟨rfl, rfl, rfl⟩ ?_
    refine c_X12_wrong hS (fun b z => by cases z; exact hS.2.2.2.2.2.1) (by decide) (by omega) (fun I2 p1 p2 => ?_)
    refine s_vret dX12_mustName_90 rfl rfl ?_
    first | exact absurd rfl h_78 | exact absurd h_78 (by decide) | (have e : mnW bt n a = .inr a := pick_t ⟨by omega, by assumption, by assumption, by assumption, by assumption, by assumption, by assumption, by assumption⟩; rw [e] at h; exact h I RFr.rf hS) | (have e : mnW bt n a = .inl (1, a) := pick_f (fun z => by obtain ⟨z0, z1, z2, z3, z4, z5, z6, z7⟩ := z; first | contradiction | omega); rw [e] at h; exact h _ p1 p2)
  refine s_aload_n 19 dX12_mustName_18 rfl rfl ?_
  refine s_ldcS 21 dX12_mustName_19 rfl (ks_X12_154) ?_
  refine s_callV0 (M' := M_X12_isWord) (as := [_]) 24 dX12_mustName_21 rfl cw_X12_136 rfl rfl sh_138 rfl (by decide) (Nat.le_of_ble_eq_true rfl) (Nat.le_of_ble_eq_true rfl) (Nat.le_of_ble_eq_true rfl) (Nat.le_of_ble_eq_true rfl) ⟨rfl, rfl, rfl⟩ ?_
  refine c_X12_isWord hT rfl hS ?_
  refine s_ifb_ne 63 27 dX12_mustName_24 rfl rfl (fun h_24 => ?_) (fun h_24 => ?_)
  · skip
    refine s_iconst 64 dX12_mustName_63 rfl ?_
    refine s_goto 68 dX12_mustName_64 rfl ?_
    refine s_istore_n (ls' := [_, _]) 69 dX12_mustName_68 rfl (Nat.le_of_ble_eq_true rfl) rfl rfl ?_
    refine s_aload_n 70 dX12_mustName_69 rfl rfl ?_
    refine s_getI 73 dX12_mustName_70 rfl fl_X12_109 (fun _ _ _ _ => rfl) sh_138 (Nat.le_of_ble_eq_true rfl) (fun r_70 => ?_)
    rw [h6]
    refine s_iconst 74 dX12_mustName_73 rfl ?_
    refine s_icmp_ne 81 77 dX12_mustName_74 rfl rfl (by first | omega | exact bI_r _ | exact iI_r _) (by first | omega | exact bI_r _ | exact iI_r _) (fun h_74 => ?_) (fun h_74 => ?_)
    · skip
      refine s_aload_n 82 dX12_mustName_81 rfl rfl ?_
      refine s_iconst 83 dX12_mustName_82 rfl ?_
      refine s_aload_n 84 dX12_mustName_83 rfl rfl ?_
      refine s_getI 87 dX12_mustName_84 rfl fl_X12_100 (fun _ _ _ _ => rfl) sh_138 (Nat.le_of_ble_eq_true rfl) (fun r_84 => ?_)
      refine s_callV0 (M' := M_X12_wrong) (as := [_, _]) 90 dX12_mustName_87 rfl cw_X12_146 rfl rfl sh_138 rfl (by decide) (Nat.le_of_ble_eq_true rfl) (Nat.le_of_ble_eq_true rfl) (Nat.le_of_ble_eq_true rfl) (Nat.le_of_ble_eq_true rfl) ⟨rfl, rfl, rfl⟩ ?_
      refine c_X12_wrong hS (fun b z => by cases z; exact hS.2.2.2.2.2.1) (by decide) (by omega) (fun I2 p1 p2 => ?_)
      refine s_vret dX12_mustName_90 rfl rfl ?_
      first | exact absurd rfl h_78 | exact absurd h_78 (by decide) | (have e : mnW bt n a = .inr a := pick_t ⟨by omega, by assumption, by assumption, by assumption, by assumption, by assumption, by assumption, by assumption⟩; rw [e] at h; exact h I RFr.rf hS) | (have e : mnW bt n a = .inl (1, a) := pick_f (fun z => by obtain ⟨z0, z1, z2, z3, z4, z5, z6, z7⟩ := z; first | contradiction | omega); rw [e] at h; exact h _ p1 p2)
    refine s_iload_n 78 dX12_mustName_77 rfl rfl ?_
    refine s_if_eq 90 81 dX12_mustName_78 rfl rfl (by first | omega | exact bI_r _ | exact iI_r _) (fun h_78 => ?_) (fun h_78 => ?_)
    · skip
      refine s_vret dX12_mustName_90 rfl rfl ?_
      first | exact absurd rfl h_78 | exact absurd h_78 (by decide) | (have e : mnW bt n a = .inr a := pick_t ⟨by omega, by assumption, by assumption, by assumption, by assumption, by assumption, by assumption, by assumption⟩; rw [e] at h; exact h I RFr.rf hS) | (have e : mnW bt n a = .inl (1, a) := pick_f (fun z => by obtain ⟨z0, z1, z2, z3, z4, z5, z6, z7⟩ := z; first | contradiction | omega); rw [e] at h; exact h _ p1 p2)
    refine s_aload_n 82 dX12_mustName_81 rfl rfl ?_
    refine s_iconst 83 dX12_mustName_82 rfl ?_
    refine s_aload_n 84 dX12_mustName_83 rfl rfl ?_
    refine s_getI 87 dX12_mustName_84 rfl fl_X12_100 (fun _ _ _ _ => rfl) sh_138 (Nat.le_of_ble_eq_true rfl) (fun r_84 => ?_)
    refine s_callV0 (M' := M_X12_wrong) (as := [_, _]) 90 dX12_mustName_87 rfl cw_X12_146 rfl rfl sh_138 rfl (by decide) (Nat.le_of_ble_eq_true rfl) (Nat.le_of_ble_eq_true rfl) (Nat.le_of_ble_eq_true rfl) (Nat.le_of_ble_eq_true rfl) ⟨rfl, rfl, rfl⟩ ?_
    refine c_X12_wrong hS (fun b z => by cases z; exact hS.2.2.2.2.2.1) (by decide) (by omega) (fun I2 p1 p2 => ?_)
    refine s_vret dX12_mustName_90 rfl rfl ?_
    first | exact absurd rfl h_78 | exact absurd h_78 (by decide) | (have e : mnW bt n a = .inr a := pick_t ⟨by omega, by assumption, by assumption, by assumption, by assumption, by assumption, by assumption, by assumption⟩; rw [e] at h; exact h I RFr.rf hS) | (have e : mnW bt n a = .inl (1, a) := pick_f (fun z => by obtain ⟨z0, z1, z2, z3, z4, z5, z6, z7⟩ := z; first | contradiction | omega); rw [e] at h; exact h _ p1 p2)
  refine s_aload_n 28 dX12_mustName_27 rfl rfl ?_
  refine s_ldcS 30 dX12_mustName_28 rfl (ks_X12_156) ?_
  refine s_callV0 (M' := M_X12_isWord) (as := [_]) 33 dX12_mustName_30 rfl cw_X12_136 rfl rfl sh_138 rfl (by decide) (Nat.le_of_ble_eq_true rfl) (Nat.le_of_ble_eq_true rfl) (Nat.le_of_ble_eq_true rfl) (Nat.le_of_ble_eq_true rfl) ⟨rfl, rfl, rfl⟩ ?_
  refine c_X12_isWord hT rfl hS ?_
  refine s_ifb_ne 63 36 dX12_mustName_33 rfl rfl (fun h_33 => ?_) (fun h_33 => ?_)
  · skip
    refine s_iconst 64 dX12_mustName_63 rfl ?_
    refine s_goto 68 dX12_mustName_64 rfl ?_
    refine s_istore_n (ls' := [_, _]) 69 dX12_mustName_68 rfl (Nat.le_of_ble_eq_true rfl) rfl rfl ?_
    refine s_aload_n 70 dX12_mustName_69 rfl rfl ?_
    refine s_getI 73 dX12_mustName_70 rfl fl_X12_109 (fun _ _ _ _ => rfl) sh_138 (Nat.le_of_ble_eq_true rfl) (fun r_70 => ?_)
    rw [h6]
    refine s_iconst 74 dX12_mustName_73 rfl ?_
    refine s_icmp_ne 81 77 dX12_mustName_74 rfl rfl (by first | omega | exact bI_r _ | exact iI_r _) (by first | omega | exact bI_r _ | exact iI_r _) (fun h_74 => ?_) (fun h_74 => ?_)
    · skip
      refine s_aload_n 82 dX12_mustName_81 rfl rfl ?_
      refine s_iconst 83 dX12_mustName_82 rfl ?_
      refine s_aload_n 84 dX12_mustName_83 rfl rfl ?_
      refine s_getI 87 dX12_mustName_84 rfl fl_X12_100 (fun _ _ _ _ => rfl) sh_138 (Nat.le_of_ble_eq_true rfl) (fun r_84 => ?_)
      refine s_callV0 (M' := M_X12_wrong) (as := [_, _]) 90 dX12_mustName_87 rfl cw_X12_146 rfl rfl sh_138 rfl (by decide) (Nat.le_of_ble_eq_true rfl) (Nat.le_of_ble_eq_true rfl) (Nat.le_of_ble_eq_true rfl) (Nat.le_of_ble_eq_true rfl) ⟨rfl, rfl, rfl⟩ ?_
      refine c_X12_wrong hS (fun b z => by cases z; exact hS.2.2.2.2.2.1) (by decide) (by omega) (fun I2 p1 p2 => ?_)
      refine s_vret dX12_mustName_90 rfl rfl ?_
      first | exact absurd rfl h_78 | exact absurd h_78 (by decide) | (have e : mnW bt n a = .inr a := pick_t ⟨by omega, by assumption, by assumption, by assumption, by assumption, by assumption, by assumption, by assumption⟩; rw [e] at h; exact h I RFr.rf hS) | (have e : mnW bt n a = .inl (1, a) := pick_f (fun z => by obtain ⟨z0, z1, z2, z3, z4, z5, z6, z7⟩ := z; first | contradiction | omega); rw [e] at h; exact h _ p1 p2)
    refine s_iload_n 78 dX12_mustName_77 rfl rfl ?_
    refine s_if_eq 90 81 dX12_mustName_78 rfl rfl (by first | omega | exact bI_r _ | exact iI_r _) (fun h_78 => ?_) (fun h_78 => ?_)
    · skip
      refine s_vret dX12_mustName_90 rfl rfl ?_
      first | exact absurd rfl h_78 | exact absurd h_78 (by decide) | (have e : mnW bt n a = .inr a := pick_t ⟨by omega, by assumption, by assumption, by assumption, by assumption, by assumption, by assumption, by assumption⟩; rw [e] at h; exact h I RFr.rf hS) | (have e : mnW bt n a = .inl (1, a) := pick_f (fun z => by obtain ⟨z0, z1, z2, z3, z4, z5, z6, z7⟩ := z; first | contradiction | omega); rw [e] at h; exact h _ p1 p2)
    refine s_aload_n 82 dX12_mustName_81 rfl rfl ?_
    refine s_iconst 83 dX12_mustName_82 rfl ?_
    refine s_aload_n 84 dX12_mustName_83 rfl rfl ?_
    refine s_getI 87 dX12_mustName_84 rfl fl_X12_100 (fun _ _ _ _ => rfl) sh_138 (Nat.le_of_ble_eq_true rfl) (fun r_84 => ?_)
    refine s_callV0 (M' := M_X12_wrong) (as := [_, _]) 90 dX12_mustName_87 rfl cw_X12_146 rfl rfl sh_138 rfl (by decide) (Nat.le_of_ble_eq_true rfl) (Nat.le_of_ble_eq_true rfl) (Nat.le_of_ble_eq_true rfl) (Nat.le_of_ble_eq_true rfl) ⟨rfl, rfl, rfl⟩ ?_
    refine c_X12_wrong hS (fun b z => by cases z; exact hS.2.2.2.2.2.1) (by decide) (by omega) (fun I2 p1 p2 => ?_)
    refine s_vret dX12_mustName_90 rfl rfl ?_
    first | exact absurd rfl h_78 | exact absurd h_78 (by decide) | (have e : mnW bt n a = .inr a := pick_t ⟨by omega, by assumption, by assumption, by assumption, by assumption, by assumption, by assumption, by assumption⟩; rw [e] at h; exact h I RFr.rf hS) | (have e : mnW bt n a = .inl (1, a) := pick_f (fun z => by obtain ⟨z0, z1, z2, z3, z4, z5, z6, z7⟩ := z; first | contradiction | omega); rw [e] at h; exact h _ p1 p2)
  refine s_aload_n 37 dX12_mustName_36 rfl rfl ?_
  refine s_ldcS 39 dX12_mustName_37 rfl (ks_X12_158) ?_
  refine s_callV0 (M' := M_X12_isWord) (as := [_]) 42 dX12_mustName_39 rfl cw_X12_136 rfl rfl sh_138 rfl (by decide) (Nat.le_of_ble_eq_true rfl) (Nat.le_of_ble_eq_true rfl) (Nat.le_of_ble_eq_true rfl) (Nat.le_of_ble_eq_true rfl) ⟨rfl, rfl, rfl⟩ ?_
  refine c_X12_isWord hT rfl hS ?_
  refine s_ifb_ne 63 45 dX12_mustName_42 rfl rfl (fun h_42 => ?_) (fun h_42 => ?_)
  · skip
    refine s_iconst 64 dX12_mustName_63 rfl ?_
    refine s_goto 68 dX12_mustName_64 rfl ?_
    refine s_istore_n (ls' := [_, _]) 69 dX12_mustName_68 rfl (Nat.le_of_ble_eq_true rfl) rfl rfl ?_
    refine s_aload_n 70 dX12_mustName_69 rfl rfl ?_
    refine s_getI 73 dX12_mustName_70 rfl fl_X12_109 (fun _ _ _ _ => rfl) sh_138 (Nat.le_of_ble_eq_true rfl) (fun r_70 => ?_)
    rw [h6]
    refine s_iconst 74 dX12_mustName_73 rfl ?_
    refine s_icmp_ne 81 77 dX12_mustName_74 rfl rfl (by first | omega | exact bI_r _ | exact iI_r _) (by first | omega | exact bI_r _ | exact iI_r _) (fun h_74 => ?_) (fun h_74 => ?_)
    · skip
      refine s_aload_n 82 dX12_mustName_81 rfl rfl ?_
      refine s_iconst 83 dX12_mustName_82 rfl ?_
      refine s_aload_n 84 dX12_mustName_83 rfl rfl ?_
      refine s_getI 87 dX12_mustName_84 rfl fl_X12_100 (fun _ _ _ _ => rfl) sh_138 (Nat.le_of_ble_eq_true rfl) (fun r_84 => ?_)
      refine s_callV0 (M' := M_X12_wrong) (as := [_, _]) 90 dX12_mustName_87 rfl cw_X12_146 rfl rfl sh_138 rfl (by decide) (Nat.le_of_ble_eq_true rfl) (Nat.le_of_ble_eq_true rfl) (Nat.le_of_ble_eq_true rfl) (Nat.le_of_ble_eq_true rfl) ⟨rfl, rfl, rfl⟩ ?_
      refine c_X12_wrong hS (fun b z => by cases z; exact hS.2.2.2.2.2.1) (by decide) (by omega) (fun I2 p1 p2 => ?_)
      refine s_vret dX12_mustName_90 rfl rfl ?_
      first | exact absurd rfl h_78 | exact absurd h_78 (by decide) | (have e : mnW bt n a = .inr a := pick_t ⟨by omega, by assumption, by assumption, by assumption, by assumption, by assumption, by assumption, by assumption⟩; rw [e] at h; exact h I RFr.rf hS) | (have e : mnW bt n a = .inl (1, a) := pick_f (fun z => by obtain ⟨z0, z1, z2, z3, z4, z5, z6, z7⟩ := z; first | contradiction | omega); rw [e] at h; exact h _ p1 p2)
    refine s_iload_n 78 dX12_mustName_77 rfl rfl ?_
    refine s_if_eq 90 81 dX12_mustName_78 rfl rfl (by first | omega | exact bI_r _ | exact iI_r _) (fun h_78 => ?_) (fun h_78 => ?_)
    · skip
      refine s_vret dX12_mustName_90 rfl rfl ?_
      first | exact absurd rfl h_78 | exact absurd h_78 (by decide) | (have e : mnW bt n a = .inr a := pick_t ⟨by omega, by assumption, by assumption, by assumption, by assumption, by assumption, by assumption, by assumption⟩; rw [e] at h; exact h I RFr.rf hS) | (have e : mnW bt n a = .inl (1, a) := pick_f (fun z => by obtain ⟨z0, z1, z2, z3, z4, z5, z6, z7⟩ := z; first | contradiction | omega); rw [e] at h; exact h _ p1 p2)
    refine s_aload_n 82 dX12_mustName_81 rfl rfl ?_
    refine s_iconst 83 dX12_mustName_82 rfl ?_
    refine s_aload_n 84 dX12_mustName_83 rfl rfl ?_
    refine s_getI 87 dX12_mustName_84 rfl fl_X12_100 (fun _ _ _ _ => rfl) sh_138 (Nat.le_of_ble_eq_true rfl) (fun r_84 => ?_)
    refine s_callV0 (M' := M_X12_wrong) (as := [_, _]) 90 dX12_mustName_87 rfl cw_X12_146 rfl rfl sh_138 rfl (by decide) (Nat.le_of_ble_eq_true rfl) (Nat.le_of_ble_eq_true rfl) (Nat.le_of_ble_eq_true rfl) (Nat.le_of_ble_eq_true rfl) ⟨rfl, rfl, rfl⟩ ?_
    refine c_X12_wrong hS (fun b z => by cases z; exact hS.2.2.2.2.2.1) (by decide) (by omega) (fun I2 p1 p2 => ?_)
    refine s_vret dX12_mustName_90 rfl rfl ?_
    first | exact absurd rfl h_78 | exact absurd h_78 (by decide) | (have e : mnW bt n a = .inr a := pick_t ⟨by omega, by assumption, by assumption, by assumption, by assumption, by assumption, by assumption, by assumption⟩; rw [e] at h; exact h I RFr.rf hS) | (have e : mnW bt n a = .inl (1, a) := pick_f (fun z => by obtain ⟨z0, z1, z2, z3, z4, z5, z6, z7⟩ := z; first | contradiction | omega); rw [e] at h; exact h _ p1 p2)
  refine s_aload_n 46 dX12_mustName_45 rfl rfl ?_
  refine s_ldcS 48 dX12_mustName_46 rfl (ks_X12_160) ?_
  refine s_callV0 (M' := M_X12_isWord) (as := [_]) 51 dX12_mustName_48 rfl cw_X12_136 rfl rfl sh_138 rfl (by decide) (Nat.le_of_ble_eq_true rfl) (Nat.le_of_ble_eq_true rfl) (Nat.le_of_ble_eq_true rfl) (Nat.le_of_ble_eq_true rfl) ⟨rfl, rfl, rfl⟩ ?_
  refine c_X12_isWord hT rfl hS ?_
  refine s_ifb_ne 63 54 dX12_mustName_51 rfl rfl (fun h_51 => ?_) (fun h_51 => ?_)
  · skip
    refine s_iconst 64 dX12_mustName_63 rfl ?_
    refine s_goto 68 dX12_mustName_64 rfl ?_
    refine s_istore_n (ls' := [_, _]) 69 dX12_mustName_68 rfl (Nat.le_of_ble_eq_true rfl) rfl rfl ?_
    refine s_aload_n 70 dX12_mustName_69 rfl rfl ?_
    refine s_getI 73 dX12_mustName_70 rfl fl_X12_109 (fun _ _ _ _ => rfl) sh_138 (Nat.le_of_ble_eq_true rfl) (fun r_70 => ?_)
    rw [h6]
    refine s_iconst 74 dX12_mustName_73 rfl ?_
    refine s_icmp_ne 81 77 dX12_mustName_74 rfl rfl (by first | omega | exact bI_r _ | exact iI_r _) (by first | omega | exact bI_r _ | exact iI_r _) (fun h_74 => ?_) (fun h_74 => ?_)
    · skip
      refine s_aload_n 82 dX12_mustName_81 rfl rfl ?_
      refine s_iconst 83 dX12_mustName_82 rfl ?_
      refine s_aload_n 84 dX12_mustName_83 rfl rfl ?_
      refine s_getI 87 dX12_mustName_84 rfl fl_X12_100 (fun _ _ _ _ => rfl) sh_138 (Nat.le_of_ble_eq_true rfl) (fun r_84 => ?_)
      refine s_callV0 (M' := M_X12_wrong) (as := [_, _]) 90 dX12_mustName_87 rfl cw_X12_146 rfl rfl sh_138 rfl (by decide) (Nat.le_of_ble_eq_true rfl) (Nat.le_of_ble_eq_true rfl) (Nat.le_of_ble_eq_true rfl) (Nat.le_of_ble_eq_true rfl) ⟨rfl, rfl, rfl⟩ ?_
      refine c_X12_wrong hS (fun b z => by cases z; exact hS.2.2.2.2.2.1) (by decide) (by omega) (fun I2 p1 p2 => ?_)
      refine s_vret dX12_mustName_90 rfl rfl ?_
      first | exact absurd rfl h_78 | exact absurd h_78 (by decide) | (have e : mnW bt n a = .inr a := pick_t ⟨by omega, by assumption, by assumption, by assumption, by assumption, by assumption, by assumption, by assumption⟩; rw [e] at h; exact h I RFr.rf hS) | (have e : mnW bt n a = .inl (1, a) := pick_f (fun z => by obtain ⟨z0, z1, z2, z3, z4, z5, z6, z7⟩ := z; first | contradiction | omega); rw [e] at h; exact h _ p1 p2)
    refine s_iload_n 78 dX12_mustName_77 rfl rfl ?_
    refine s_if_eq 90 81 dX12_mustName_78 rfl rfl (by first | omega | exact bI_r _ | exact iI_r _) (fun h_78 => ?_) (fun h_78 => ?_)
    · skip
      refine s_vret dX12_mustName_90 rfl rfl ?_
      first | exact absurd rfl h_78 | exact absurd h_78 (by decide) | (have e : mnW bt n a = .inr a := pick_t ⟨by omega, by assumption, by assumption, by assumption, by assumption, by assumption, by assumption, by assumption⟩; rw [e] at h; exact h I RFr.rf hS) | (have e : mnW bt n a = .inl (1, a) := pick_f (fun z => by obtain ⟨z0, z1, z2, z3, z4, z5, z6, z7⟩ := z; first | contradiction | omega); rw [e] at h; exact h _ p1 p2)
    refine s_aload_n 82 dX12_mustName_81 rfl rfl ?_
    refine s_iconst 83 dX12_mustName_82 rfl ?_
    refine s_aload_n 84 dX12_mustName_83 rfl rfl ?_
    refine s_getI 87 dX12_mustName_84 rfl fl_X12_100 (fun _ _ _ _ => rfl) sh_138 (Nat.le_of_ble_eq_true rfl) (fun r_84 => ?_)
    refine s_callV0 (M' := M_X12_wrong) (as := [_, _]) 90 dX12_mustName_87 rfl cw_X12_146 rfl rfl sh_138 rfl (by decide) (Nat.le_of_ble_eq_true rfl) (Nat.le_of_ble_eq_true rfl) (Nat.le_of_ble_eq_true rfl) (Nat.le_of_ble_eq_true rfl) ⟨rfl, rfl, rfl⟩ ?_
    refine c_X12_wrong hS (fun b z => by cases z; exact hS.2.2.2.2.2.1) (by decide) (by omega) (fun I2 p1 p2 => ?_)
    refine s_vret dX12_mustName_90 rfl rfl ?_
    first | exact absurd rfl h_78 | exact absurd h_78 (by decide) | (have e : mnW bt n a = .inr a := pick_t ⟨by omega, by assumption, by assumption, by assumption, by assumption, by assumption, by assumption, by assumption⟩; rw [e] at h; exact h I RFr.rf hS) | (have e : mnW bt n a = .inl (1, a) := pick_f (fun z => by obtain ⟨z0, z1, z2, z3, z4, z5, z6, z7⟩ := z; first | contradiction | omega); rw [e] at h; exact h _ p1 p2)
  refine s_aload_n 55 dX12_mustName_54 rfl rfl ?_
  refine s_ldcS 57 dX12_mustName_55 rfl (ks_X12_162) ?_
  refine s_callV0 (M' := M_X12_isWord) (as := [_]) 60 dX12_mustName_57 rfl cw_X12_136 rfl rfl sh_138 rfl (by decide) (Nat.le_of_ble_eq_true rfl) (Nat.le_of_ble_eq_true rfl) (Nat.le_of_ble_eq_true rfl) (Nat.le_of_ble_eq_true rfl) ⟨rfl, rfl, rfl⟩ ?_
  refine c_X12_isWord hT rfl hS ?_
  refine s_ifb_eq 67 63 dX12_mustName_60 rfl rfl (fun h_60 => ?_) (fun h_60 => ?_)
  · skip
    refine s_iconst 68 dX12_mustName_67 rfl ?_
    refine s_istore_n (ls' := [_, _]) 69 dX12_mustName_68 rfl (Nat.le_of_ble_eq_true rfl) rfl rfl ?_
    refine s_aload_n 70 dX12_mustName_69 rfl rfl ?_
    refine s_getI 73 dX12_mustName_70 rfl fl_X12_109 (fun _ _ _ _ => rfl) sh_138 (Nat.le_of_ble_eq_true rfl) (fun r_70 => ?_)
    rw [h6]
    refine s_iconst 74 dX12_mustName_73 rfl ?_
    refine s_icmp_ne 81 77 dX12_mustName_74 rfl rfl (by first | omega | exact bI_r _ | exact iI_r _) (by first | omega | exact bI_r _ | exact iI_r _) (fun h_74 => ?_) (fun h_74 => ?_)
    · skip
      refine s_aload_n 82 dX12_mustName_81 rfl rfl ?_
      refine s_iconst 83 dX12_mustName_82 rfl ?_
      refine s_aload_n 84 dX12_mustName_83 rfl rfl ?_
      refine s_getI 87 dX12_mustName_84 rfl fl_X12_100 (fun _ _ _ _ => rfl) sh_138 (Nat.le_of_ble_eq_true rfl) (fun r_84 => ?_)
      refine s_callV0 (M' := M_X12_wrong) (as := [_, _]) 90 dX12_mustName_87 rfl cw_X12_146 rfl rfl sh_138 rfl (by decide) (Nat.le_of_ble_eq_true rfl) (Nat.le_of_ble_eq_true rfl) (Nat.le_of_ble_eq_true rfl) (Nat.le_of_ble_eq_true rfl) ⟨rfl, rfl, rfl⟩ ?_
      refine c_X12_wrong hS (fun b z => by cases z; exact hS.2.2.2.2.2.1) (by decide) (by omega) (fun I2 p1 p2 => ?_)
      refine s_vret dX12_mustName_90 rfl rfl ?_
      first | exact absurd rfl h_78 | exact absurd h_78 (by decide) | (have e : mnW bt n a = .inr a := pick_t ⟨by omega, by assumption, by assumption, by assumption, by assumption, by assumption, by assumption, by assumption⟩; rw [e] at h; exact h I RFr.rf hS) | (have e : mnW bt n a = .inl (1, a) := pick_f (fun z => by obtain ⟨z0, z1, z2, z3, z4, z5, z6, z7⟩ := z; first | contradiction | omega); rw [e] at h; exact h _ p1 p2)
    refine s_iload_n 78 dX12_mustName_77 rfl rfl ?_
    refine s_if_eq 90 81 dX12_mustName_78 rfl rfl (by first | omega | exact bI_r _ | exact iI_r _) (fun h_78 => ?_) (fun h_78 => ?_)
    · skip
      refine s_vret dX12_mustName_90 rfl rfl ?_
      first | exact absurd rfl h_78 | exact absurd h_78 (by decide) | (have e : mnW bt n a = .inr a := pick_t ⟨by omega, by assumption, by assumption, by assumption, by assumption, by assumption, by assumption, by assumption⟩; rw [e] at h; exact h I RFr.rf hS) | (have e : mnW bt n a = .inl (1, a) := pick_f (fun z => by obtain ⟨z0, z1, z2, z3, z4, z5, z6, z7⟩ := z; first | contradiction | omega); rw [e] at h; exact h _ p1 p2)
    refine s_aload_n 82 dX12_mustName_81 rfl rfl ?_
    refine s_iconst 83 dX12_mustName_82 rfl ?_
    refine s_aload_n 84 dX12_mustName_83 rfl rfl ?_
    refine s_getI 87 dX12_mustName_84 rfl fl_X12_100 (fun _ _ _ _ => rfl) sh_138 (Nat.le_of_ble_eq_true rfl) (fun r_84 => ?_)
    refine s_callV0 (M' := M_X12_wrong) (as := [_, _]) 90 dX12_mustName_87 rfl cw_X12_146 rfl rfl sh_138 rfl (by decide) (Nat.le_of_ble_eq_true rfl) (Nat.le_of_ble_eq_true rfl) (Nat.le_of_ble_eq_true rfl) (Nat.le_of_ble_eq_true rfl) ⟨rfl, rfl, rfl⟩ ?_
    refine c_X12_wrong hS (fun b z => by cases z; exact hS.2.2.2.2.2.1) (by decide) (by omega) (fun I2 p1 p2 => ?_)
    refine s_vret dX12_mustName_90 rfl rfl ?_
    first | exact absurd rfl h_78 | exact absurd h_78 (by decide) | (have e : mnW bt n a = .inr a := pick_t ⟨by omega, by assumption, by assumption, by assumption, by assumption, by assumption, by assumption, by assumption⟩; rw [e] at h; exact h I RFr.rf hS) | (have e : mnW bt n a = .inl (1, a) := pick_f (fun z => by obtain ⟨z0, z1, z2, z3, z4, z5, z6, z7⟩ := z; first | contradiction | omega); rw [e] at h; exact h _ p1 p2)
  refine s_iconst 64 dX12_mustName_63 rfl ?_
  refine s_goto 68 dX12_mustName_64 rfl ?_
  refine s_istore_n (ls' := [_, _]) 69 dX12_mustName_68 rfl (Nat.le_of_ble_eq_true rfl) rfl rfl ?_
  refine s_aload_n 70 dX12_mustName_69 rfl rfl ?_
  refine s_getI 73 dX12_mustName_70 rfl fl_X12_109 (fun _ _ _ _ => rfl) sh_138 (Nat.le_of_ble_eq_true rfl) (fun r_70 => ?_)
  rw [h6]
  refine s_iconst 74 dX12_mustName_73 rfl ?_
  refine s_icmp_ne 81 77 dX12_mustName_74 rfl rfl (by first | omega | exact bI_r _ | exact iI_r _) (by first | omega | exact bI_r _ | exact iI_r _) (fun h_74 => ?_) (fun h_74 => ?_)
  · skip
    refine s_aload_n 82 dX12_mustName_81 rfl rfl ?_
    refine s_iconst 83 dX12_mustName_82 rfl ?_
    refine s_aload_n 84 dX12_mustName_83 rfl rfl ?_
    refine s_getI 87 dX12_mustName_84 rfl fl_X12_100 (fun _ _ _ _ => rfl) sh_138 (Nat.le_of_ble_eq_true rfl) (fun r_84 => ?_)
    refine s_callV0 (M' := M_X12_wrong) (as := [_, _]) 90 dX12_mustName_87 rfl cw_X12_146 rfl rfl sh_138 rfl (by decide) (Nat.le_of_ble_eq_true rfl) (Nat.le_of_ble_eq_true rfl) (Nat.le_of_ble_eq_true rfl) (Nat.le_of_ble_eq_true rfl) ⟨rfl, rfl, rfl⟩ ?_
    refine c_X12_wrong hS (fun b z => by cases z; exact hS.2.2.2.2.2.1) (by decide) (by omega) (fun I2 p1 p2 => ?_)
    refine s_vret dX12_mustName_90 rfl rfl ?_
    first | exact absurd rfl h_78 | exact absurd h_78 (by decide) | (have e : mnW bt n a = .inr a := pick_t ⟨by omega, by assumption, by assumption, by assumption, by assumption, by assumption, by assumption, by assumption⟩; rw [e] at h; exact h I RFr.rf hS) | (have e : mnW bt n a = .inl (1, a) := pick_f (fun z => by obtain ⟨z0, z1, z2, z3, z4, z5, z6, z7⟩ := z; first | contradiction | omega); rw [e] at h; exact h _ p1 p2)
  refine s_iload_n 78 dX12_mustName_77 rfl rfl ?_
  refine s_if_eq 90 81 dX12_mustName_78 rfl rfl (by first | omega | exact bI_r _ | exact iI_r _) (fun h_78 => ?_) (fun h_78 => ?_)
  · skip
    refine s_vret dX12_mustName_90 rfl rfl ?_
    first | exact absurd rfl h_78 | exact absurd h_78 (by decide) | (have e : mnW bt n a = .inr a := pick_t ⟨by omega, by assumption, by assumption, by assumption, by assumption, by assumption, by assumption, by assumption⟩; rw [e] at h; exact h I RFr.rf hS) | (have e : mnW bt n a = .inl (1, a) := pick_f (fun z => by obtain ⟨z0, z1, z2, z3, z4, z5, z6, z7⟩ := z; first | contradiction | omega); rw [e] at h; exact h _ p1 p2)
  refine s_aload_n 82 dX12_mustName_81 rfl rfl ?_
  refine s_iconst 83 dX12_mustName_82 rfl ?_
  refine s_aload_n 84 dX12_mustName_83 rfl rfl ?_
  refine s_getI 87 dX12_mustName_84 rfl fl_X12_100 (fun _ _ _ _ => rfl) sh_138 (Nat.le_of_ble_eq_true rfl) (fun r_84 => ?_)
  refine s_callV0 (M' := M_X12_wrong) (as := [_, _]) 90 dX12_mustName_87 rfl cw_X12_146 rfl rfl sh_138 rfl (by decide) (Nat.le_of_ble_eq_true rfl) (Nat.le_of_ble_eq_true rfl) (Nat.le_of_ble_eq_true rfl) (Nat.le_of_ble_eq_true rfl) ⟨rfl, rfl, rfl⟩ ?_
  refine c_X12_wrong hS (fun b z => by cases z; exact hS.2.2.2.2.2.1) (by decide) (by omega) (fun I2 p1 p2 => ?_)
  refine s_vret dX12_mustName_90 rfl rfl ?_
  first | exact absurd rfl h_78 | exact absurd h_78 (by decide) | (have e : mnW bt n a = .inr a := pick_t ⟨by omega, by assumption, by assumption, by assumption, by assumption, by assumption, by assumption, by assumption⟩; rw [e] at h; exact h I RFr.rf hS) | (have e : mnW bt n a = .inl (1, a) := pick_f (fun z => by obtain ⟨z0, z1, z2, z3, z4, z5, z6, z7⟩ := z; first | contradiction | omega); rw [e] at h; exact h _ p1 p2)
/-- the name of this number is this -/
def hasN (r : F1) (w : List Int) (j : Int) : Prop := 0 < r (173 + j) ∧ r (173 + j) = w.length ∧ ∀ k, 0 ≤ k → k < (w.length : Int) → r (185 + 8 * j + k) = vL w k
def FindV (r : F1) (w : List Int) (v : Int) : Prop := (v = -1 ∧ ∀ j, 0 ≤ j → j < 12 → ¬ hasN r w j) ∨ (0 ≤ v ∧ v < 12 ∧ hasN r w v ∧ ∀ j, 0 ≤ j → j < v → ¬ hasN r w j)
theorem FindV.uq {r : F1} {w : List Int} {v v' : Int} (h : FindV r w v) (h' : FindV r w v') : v = v' := by
  rcases h with ⟨a, b⟩ | ⟨a, b, c, d⟩ <;> rcases h' with ⟨a', b'⟩ | ⟨a', b', c', d'⟩
  · omega
  · exact absurd c' (b v' a' b')
  · exact absurd c (b' v a b)
  · rcases Int.lt_trichotomy v v' with z | z | z
    · exact absurd c (d' v a z)
    · exact z
    · exact absurd c' (d v' a' z)
noncomputable def fiF (r : F1) (w : List Int) : Int := Classical.epsilon (FindV r w)
theorem FindV.v {r : F1} {w : List Int} {v : Int} (h : FindV r w v) : fiF r w = v := FindV.uq (Classical.epsilon_spec (p := FindV r w) ⟨v, h⟩) h
theorem FindV.ex (r : F1) (w : List Int) : ∀ m : Nat, m ≤ 12 → (∃ v : Int, 0 ≤ v ∧ v < m ∧ hasN r w v ∧ ∀ j, 0 ≤ j → j < v → ¬ hasN r w j) ∨ ∀ j : Int, 0 ≤ j → j < m → ¬ hasN r w j
  | 0, _ => Or.inr (fun j a b => by omega)
  | m + 1, hm => by
    rcases FindV.ex r w m (by omega) with ⟨v, a, b, c⟩ | h
    · exact Or.inl ⟨v, a, by omega, c⟩
    · by_cases z : hasN r w m
      · exact Or.inl ⟨m, by omega, by omega, z, h⟩
      · exact Or.inr (fun j a b => if e : j = m then (by rw [e]; exact z) else h j a (by omega))
theorem fiF_v (r : F1) (w : List Int) : FindV r w (fiF r w) := by
  have : ∃ v, FindV r w v := by
    rcases FindV.ex r w 12 (Nat.le_refl _) with ⟨v, a, b, c, d⟩ | h
    · exact ⟨v, Or.inr ⟨a, by omega, c, d⟩⟩
    · exact ⟨-1, Or.inl ⟨rfl, fun j a b => h j a (by omega)⟩⟩
  exact Classical.epsilon_spec (p := FindV r w) this
theorem fiF_b (r : F1) (w : List Int) : -1 ≤ fiF r w ∧ fiF r w < 12 := by
  rcases fiF_v r w with ⟨a, b⟩ | ⟨a, b, c, d⟩ <;> omega
set_option maxHeartbeats 4000000 in
theorem c_X12_find {E : ET} {I : MI} {L : ML} {R : MR} {Q : Option AV → MI → ML → MR → Prop} {r : F1} {m : Int} {w : List Int} (hT : Topo R) (er : I 142 = r) (em : I 138 8 = m) (hm : 1 ≤ m ∧ m ≤ 8) (ew : (w.length : Int) = m) (hl : ∀ j, 0 ≤ j → j < m → I 140 j = vL w j) (h : Q (some (vi (fiF r w))) I L R) : CT E M_X12_find 161 yX12_find [(vr (138))] I L R Q := by
  refine CT_of rfl rfl (fun h => by cases h) (Nat.le_of_ble_eq_true rfl) (fun X => ?_)
  show V X _ z0 0 [some (vr (138)), none, none, none] [] I L R _
  have loop : ∀ (f : Nat) (j : Int), 12 - j < (f : Int) → 0 ≤ j → j ≤ 12 → (∀ i, 0 ≤ i → i < j → ¬ hasN r w i) → ∀ w2 w3 : Option AV, V X M_X12_find z0 2 [some (vr 138), some (vi j), w2, w3] [] I L R (RT X M_X12_find Q) := by
    intro f
    induction f with
    | zero => intro j h1 h2; omega
    | succ f ih =>
      intro j h1 h2 h3 h4 w2 w3
      by_cases hj : j < 12
      · have more : ¬ hasN r w j → ∀ w2 w3, V X M_X12_find z0 100 [some (vr 138), some (vi j), w2, w3] [] I L R (RT X M_X12_find Q) := by
          intro z w2 w3
          refine s_iinc (ls' := [_, _, _, _]) 103 dX12_find_100 rfl rfl (Nat.le_of_ble_eq_true rfl) rfl rfl ?_
          refine s_goto 2 dX12_find_103 rfl ?_
          exact ih (j + 1) (by omega) (by omega) (by omega) (fun i i1 i2 => if ei : i = j then (by rw [ei]; exact z) else h4 i i1 (by omega)) _ _
        have inner : ∀ (g : Nat) (k : Int), m - k < (g : Int) → 0 ≤ k → k ≤ m → ∀ C : Prop, (C → 0 < r (173 + j) ∧ r (173 + j) = m ∧ ∀ i, 0 ≤ i → i < k → r (185 + 8 * j + i) = vL w i) → (¬ C → ¬ hasN r w j) → V X M_X12_find z0 46 [some (vr (138)), some (vi (j)), some (vi (bI C)), some (vi (k))] [] (I) L R (RT X M_X12_find Q) := by
          intro g
          induction g with
          | zero => intro k k1 k2 k3; omega
          | succ g ihg =>
            intro k k1 k2 k3 C hC hN
            have fin : (k = m ∨ ¬ C) → V X M_X12_find z0 94 [some (vr (138)), some (vi (j)), some (vi (bI C)), some (vi (k))] [] (I) L R (RT X M_X12_find Q) := by
              intro hk
              by_cases c : C
              · have hv : fiF r w = j := by
                  have hc := hC c
                  have hkm : k = m := hk.elim id (fun z => absurd c z)
                  exact FindV.v (Or.inr ⟨h2, hj, ⟨hc.1, by omega, fun i i1 i2 => hc.2.2 i i1 (by omega)⟩, h4⟩)
                rw [bI_t c]
                rw [hv] at h
                refine s_iload_n 95 dX12_find_94 rfl rfl ?_
                refine s_if_eq 100 98 dX12_find_95 rfl rfl (by first | omega | exact bI_r _ | exact iI_r _) (fun h_95 => by exfalso; omega) (fun h_95 => ?_)
                refine s_iload_n 99 dX12_find_98 rfl rfl ?_
                refine s_iret dX12_find_99 rfl rfl ?_
                exact h
              · rw [bI_f c]
                refine s_iload_n 95 dX12_find_94 rfl rfl ?_
                refine s_if_eq 100 98 dX12_find_95 rfl rfl (by first | omega | exact bI_r _ | exact iI_r _) (fun h_95 => ?_) (fun h_95 => by exfalso; omega)
                exact more (hN c) _ _
            by_cases c : C
            · rw [bI_t c] at fin ⊢
              have hc := hC c
              refine s_iload_n 47 dX12_find_46 rfl rfl ?_
              refine s_aload_n 48 dX12_find_47 rfl rfl ?_
              refine s_getI 51 dX12_find_48 rfl fl_X12_103 (fun _ _ _ _ => rfl) sh_138 (Nat.le_of_ble_eq_true rfl) (fun r_48 => ?_)
              rw [em]
              refine s_icmp_ge 94 54 dX12_find_51 rfl rfl (by first | omega | exact bI_r _ | exact iI_r _) (by first | omega | exact bI_r _ | exact iI_r _) (fun h_51 => ?_) (fun h_51 => ?_)
              · skip
                exact fin (Or.inl (by omega))
              refine s_iload_n 55 dX12_find_54 rfl rfl ?_
              refine s_if_eq 94 58 dX12_find_55 rfl rfl (by first | omega | exact bI_r _ | exact iI_r _) (fun h_55 => by exfalso; omega) (fun h_55 => ?_)
              refine s_aload_n 59 dX12_find_58 rfl rfl ?_
              refine s_getR 62 dX12_find_59 rfl fl_X12_23 (fun _ _ _ _ => rfl) (T_X12_fresh hT) sh_138 (Nat.le_of_ble_eq_true rfl) ?_
              refine s_sipush 65 dX12_find_62 rfl (by decide) ?_
              refine s_bipush 67 dX12_find_65 rfl (by decide) ?_
              refine s_iload_n 68 dX12_find_67 rfl rfl ?_
              refine s_imul 69 dX12_find_68 rfl ?_
              refine s_iadd 70 dX12_find_69 rfl ?_
              refine s_iload_n 71 dX12_find_70 rfl rfl ?_
              refine s_iadd 72 dX12_find_71 rfl ?_
              refine s_iald 73 dX12_find_72 rfl sh_142 (Nat.le_of_ble_eq_true rfl) (by omega) (by omega) (fun r_72 => ?_)
              rw [er] at r_72 ⊢
              refine s_aload_n 74 dX12_find_73 rfl rfl ?_
              refine s_getR 77 dX12_find_74 rfl fl_X12_17 (fun _ _ _ _ => rfl) (T_X12_letters hT) sh_138 (Nat.le_of_ble_eq_true rfl) ?_
              refine s_iload_n 78 dX12_find_77 rfl rfl ?_
              refine s_iald 79 dX12_find_78 rfl sh_140 (Nat.le_of_ble_eq_true rfl) (by omega) (by omega) (fun r_78 => ?_)
              skip
              have hkm : k < m := by omega
              have hlk := hl k k2 hkm
              rw [hlk]
              refine s_icmp_ne 86 82 dX12_find_79 rfl rfl (by first | (rw [← hlk]; exact r_78) | exact r_72) (by first | (rw [← hlk]; exact r_78) | exact r_72) (fun h_79 => ?_) (fun h_79 => ?_)
              · skip
                refine s_iconst 87 dX12_find_86 rfl ?_
                refine s_istore_n (ls' := [_, _, _, _]) 88 dX12_find_87 rfl (Nat.le_of_ble_eq_true rfl) rfl rfl ?_
                refine s_iinc (ls' := [_, _, _, _]) 91 dX12_find_88 rfl rfl (Nat.le_of_ble_eq_true rfl) rfl rfl ?_
                refine s_goto 46 dX12_find_91 rfl ?_
                first | (have := ihg (k + 1) (by omega) (by omega) (by omega) True (fun _ => ⟨hc.1, hc.2.1, fun i i1 i2 => if ei : i = k then (by rw [ei]; exact h_79) else hc.2.2 i i1 (by omega)⟩) (fun z => absurd trivial z); rw [bI_t trivial] at this; exact this) | (have := ihg (k + 1) (by omega) (by omega) (by omega) False (fun z => absurd z id) (fun _ z => absurd (z.2.2 k k2 (by omega)) h_79); rw [bI_f id] at this; exact this)
              refine s_iconst 83 dX12_find_82 rfl ?_
              refine s_goto 87 dX12_find_83 rfl ?_
              refine s_istore_n (ls' := [_, _, _, _]) 88 dX12_find_87 rfl (Nat.le_of_ble_eq_true rfl) rfl rfl ?_
              refine s_iinc (ls' := [_, _, _, _]) 91 dX12_find_88 rfl rfl (Nat.le_of_ble_eq_true rfl) rfl rfl ?_
              refine s_goto 46 dX12_find_91 rfl ?_
              first | (have := ihg (k + 1) (by omega) (by omega) (by omega) True (fun _ => ⟨hc.1, hc.2.1, fun i i1 i2 => if ei : i = k then (by rw [ei]; exact h_79) else hc.2.2 i i1 (by omega)⟩) (fun z => absurd trivial z); rw [bI_t trivial] at this; exact this) | (have := ihg (k + 1) (by omega) (by omega) (by omega) False (fun z => absurd z id) (fun _ z => absurd (z.2.2 k k2 (by omega)) h_79); rw [bI_f id] at this; exact this)
            · rw [bI_f c] at fin ⊢
              refine s_iload_n 47 dX12_find_46 rfl rfl ?_
              refine s_aload_n 48 dX12_find_47 rfl rfl ?_
              refine s_getI 51 dX12_find_48 rfl fl_X12_103 (fun _ _ _ _ => rfl) sh_138 (Nat.le_of_ble_eq_true rfl) (fun r_48 => ?_)
              rw [em]
              refine s_icmp_ge 94 54 dX12_find_51 rfl rfl (by first | omega | exact bI_r _ | exact iI_r _) (by first | omega | exact bI_r _ | exact iI_r _) (fun h_51 => ?_) (fun h_51 => ?_)
              · skip
                exact fin (Or.inr c)
              refine s_iload_n 55 dX12_find_54 rfl rfl ?_
              refine s_if_eq 94 58 dX12_find_55 rfl rfl (by first | omega | exact bI_r _ | exact iI_r _) (fun h_55 => ?_) (fun h_55 => by exfalso; omega)
              exact fin (Or.inr c)
        by_cases sz : 0 < r (173 + j) ∧ r (173 + j) = m
        · have := inner (m + 1).toNat 0 (by omega) (by omega) (by omega) True (fun _ => ⟨sz.1, sz.2, fun i i1 i2 => by omega⟩) (fun z => absurd trivial z)
          rw [bI_t trivial] at this
          refine s_iload_n 3 dX12_find_2 rfl rfl ?_
          refine s_bipush 5 dX12_find_3 rfl (by decide) ?_
          refine s_icmp_ge 106 8 dX12_find_5 rfl rfl (by first | omega | exact bI_r _ | exact iI_r _) (by first | omega | exact bI_r _ | exact iI_r _) (fun h_5 => by exfalso; omega) (fun h_5 => ?_)
          refine s_aload_n 9 dX12_find_8 rfl rfl ?_
          refine s_getR 12 dX12_find_9 rfl fl_X12_23 (fun _ _ _ _ => rfl) (T_X12_fresh hT) sh_138 (Nat.le_of_ble_eq_true rfl) ?_
          refine s_sipush 15 dX12_find_12 rfl (by decide) ?_
          refine s_iload_n 16 dX12_find_15 rfl rfl ?_
          refine s_iadd 17 dX12_find_16 rfl ?_
          refine s_iald 18 dX12_find_17 rfl sh_142 (Nat.le_of_ble_eq_true rfl) (by omega) (by omega) (fun r_17 => ?_)
          rw [er] at r_17 ⊢
          refine s_if_le 42 21 dX12_find_18 rfl rfl (by first | omega | exact bI_r _ | exact iI_r _) (fun h_18 => by exfalso; omega) (fun h_18 => ?_)
          refine s_aload_n 22 dX12_find_21 rfl rfl ?_
          refine s_getR 25 dX12_find_22 rfl fl_X12_23 (fun _ _ _ _ => rfl) (T_X12_fresh hT) sh_138 (Nat.le_of_ble_eq_true rfl) ?_
          refine s_sipush 28 dX12_find_25 rfl (by decide) ?_
          refine s_iload_n 29 dX12_find_28 rfl rfl ?_
          refine s_iadd 30 dX12_find_29 rfl ?_
          refine s_iald 31 dX12_find_30 rfl sh_142 (Nat.le_of_ble_eq_true rfl) (by omega) (by omega) (fun r_30 => ?_)
          rw [er] at r_30 ⊢
          refine s_aload_n 32 dX12_find_31 rfl rfl ?_
          refine s_getI 35 dX12_find_32 rfl fl_X12_103 (fun _ _ _ _ => rfl) sh_138 (Nat.le_of_ble_eq_true rfl) (fun r_32 => ?_)
          rw [em]
          refine s_icmp_ne 42 38 dX12_find_35 rfl rfl (by first | omega | exact bI_r _ | exact iI_r _) (by first | omega | exact bI_r _ | exact iI_r _) (fun h_35 => by exfalso; omega) (fun h_35 => ?_)
          refine s_iconst 39 dX12_find_38 rfl ?_
          refine s_goto 43 dX12_find_39 rfl ?_
          refine s_istore_n (ls' := [_, _, _, _]) 44 dX12_find_43 rfl (Nat.le_of_ble_eq_true rfl) rfl rfl ?_
          refine s_iconst 45 dX12_find_44 rfl ?_
          refine s_istore_n (ls' := [_, _, _, _]) 46 dX12_find_45 rfl (Nat.le_of_ble_eq_true rfl) rfl rfl ?_
          exact this
        · have := inner (m + 1).toNat 0 (by omega) (by omega) (by omega) False (fun z => absurd z id) (fun _ z => sz ⟨z.1, by rw [z.2.1]; exact ew⟩)
          rw [bI_f id] at this
          refine s_iload_n 3 dX12_find_2 rfl rfl ?_
          refine s_bipush 5 dX12_find_3 rfl (by decide) ?_
          refine s_icmp_ge 106 8 dX12_find_5 rfl rfl (by first | omega | exact bI_r _ | exact iI_r _) (by first | omega | exact bI_r _ | exact iI_r _) (fun h_5 => by exfalso; omega) (fun h_5 => ?_)
          refine s_aload_n 9 dX12_find_8 rfl rfl ?_
          refine s_getR 12 dX12_find_9 rfl fl_X12_23 (fun _ _ _ _ => rfl) (T_X12_fresh hT) sh_138 (Nat.le_of_ble_eq_true rfl) ?_
          refine s_sipush 15 dX12_find_12 rfl (by decide) ?_
          refine s_iload_n 16 dX12_find_15 rfl rfl ?_
          refine s_iadd 17 dX12_find_16 rfl ?_
          refine s_iald 18 dX12_find_17 rfl sh_142 (Nat.le_of_ble_eq_true rfl) (by omega) (by omega) (fun r_17 => ?_)
          rw [er] at r_17 ⊢
          refine s_if_le 42 21 dX12_find_18 rfl rfl (by first | omega | exact bI_r _ | exact iI_r _) (fun h_18 => ?_) (fun h_18 => ?_)
          · skip
            refine s_iconst 43 dX12_find_42 rfl ?_
            refine s_istore_n (ls' := [_, _, _, _]) 44 dX12_find_43 rfl (Nat.le_of_ble_eq_true rfl) rfl rfl ?_
            refine s_iconst 45 dX12_find_44 rfl ?_
            refine s_istore_n (ls' := [_, _, _, _]) 46 dX12_find_45 rfl (Nat.le_of_ble_eq_true rfl) rfl rfl ?_
            first | exact this | (exfalso; omega)
          refine s_aload_n 22 dX12_find_21 rfl rfl ?_
          refine s_getR 25 dX12_find_22 rfl fl_X12_23 (fun _ _ _ _ => rfl) (T_X12_fresh hT) sh_138 (Nat.le_of_ble_eq_true rfl) ?_
          refine s_sipush 28 dX12_find_25 rfl (by decide) ?_
          refine s_iload_n 29 dX12_find_28 rfl rfl ?_
          refine s_iadd 30 dX12_find_29 rfl ?_
          refine s_iald 31 dX12_find_30 rfl sh_142 (Nat.le_of_ble_eq_true rfl) (by omega) (by omega) (fun r_30 => ?_)
          rw [er] at r_30 ⊢
          refine s_aload_n 32 dX12_find_31 rfl rfl ?_
          refine s_getI 35 dX12_find_32 rfl fl_X12_103 (fun _ _ _ _ => rfl) sh_138 (Nat.le_of_ble_eq_true rfl) (fun r_32 => ?_)
          rw [em]
          refine s_icmp_ne 42 38 dX12_find_35 rfl rfl (by first | omega | exact bI_r _ | exact iI_r _) (by first | omega | exact bI_r _ | exact iI_r _) (fun h_35 => ?_) (fun h_35 => ?_)
          · skip
            refine s_iconst 43 dX12_find_42 rfl ?_
            refine s_istore_n (ls' := [_, _, _, _]) 44 dX12_find_43 rfl (Nat.le_of_ble_eq_true rfl) rfl rfl ?_
            refine s_iconst 45 dX12_find_44 rfl ?_
            refine s_istore_n (ls' := [_, _, _, _]) 46 dX12_find_45 rfl (Nat.le_of_ble_eq_true rfl) rfl rfl ?_
            first | exact this | (exfalso; omega)
          refine s_iconst 39 dX12_find_38 rfl ?_
          refine s_goto 43 dX12_find_39 rfl ?_
          refine s_istore_n (ls' := [_, _, _, _]) 44 dX12_find_43 rfl (Nat.le_of_ble_eq_true rfl) rfl rfl ?_
          refine s_iconst 45 dX12_find_44 rfl ?_
          refine s_istore_n (ls' := [_, _, _, _]) 46 dX12_find_45 rfl (Nat.le_of_ble_eq_true rfl) rfl rfl ?_
          first | exact this | (exfalso; omega)
      · have hv : fiF r w = -1 := FindV.v (Or.inl ⟨rfl, fun i i1 i2 => h4 i i1 (by omega)⟩)
        rw [hv] at h
        refine s_iload_n 3 dX12_find_2 rfl rfl ?_
        refine s_bipush 5 dX12_find_3 rfl (by decide) ?_
        refine s_icmp_ge 106 8 dX12_find_5 rfl rfl (by first | omega | exact bI_r _ | exact iI_r _) (by first | omega | exact bI_r _ | exact iI_r _) (fun h_5 => ?_) (fun h_5 => by exfalso; omega)
        refine s_iconst 107 dX12_find_106 rfl ?_
        refine s_iret dX12_find_107 rfl rfl ?_
        exact h
  refine s_iconst 1 dX12_find_0 rfl ?_
  refine s_istore_n (ls' := [_, _, _, _]) 2 dX12_find_1 rfl (Nat.le_of_ble_eq_true rfl) rfl rfl ?_
  exact loop 13 0 (by omega) (by omega) (by omega) (fun i i1 i2 => by omega) _ _
