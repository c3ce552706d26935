/-! the reference's LINES, walked -/
theorem RSt.ps {I : MI} {bt r : F1} {n : Int} {o : PO} (h : RSt I bt n r o) {k v : Int} : RSt (up I 142 k v) bt n (sr r k v) o := h.put
set_option maxHeartbeats 4000000 in
theorem c_X12_newName9 {E : ET} {I : MI} {L : ML} {R : MR} {Q : Option AV → MI → ML → MR → Prop} {bt r : F1} {n p : Int} {q : Int × Int} (hT : Topo R) (hS : RSt I bt n r (.inl q)) (h : Q none I L R) : CT E M_X12_newName 161 yX12_newName [(vr (138)), (vi (p))] I L R Q := by
  refine CT_of rfl rfl (fun h => by cases h) (Nat.le_of_ble_eq_true rfl) (fun X => ?_)
  show V X _ z0 0 [some (vr (138)), some (vi (p)), none] [] I L R _
  refine s_aload_n 1 dX12_newName_0 rfl rfl ?_
  refine s_getI 4 dX12_newName_1 rfl fl_X12_119 (fun _ _ _ _ => rfl) sh_138 (Nat.le_of_ble_eq_true rfl) (fun r_1 => ?_)
  rw [hS.no]
  refine s_if_eq 8 7 dX12_newName_4 rfl rfl (by first | omega | exact bI_r _ | exact iI_r _) (fun h_4 => by exfalso; omega) (fun h_4 => ?_)
  refine s_vret dX12_newName_7 rfl rfl ?_
  exact h
theorem c_X12_newName2 {E : ET} {I : MI} {L : ML} {R : MR} {Q : QT} {bt r r1 : F1} {n p : Int} {o o1 : PO} (hT : Topo R) (hn : 0 ≤ n ∧ n ≤ 900) (hb : ∀ k, 0 ≤ k → k < n → 0 ≤ bt k ∧ bt k ≤ 255) (hp : ¬ isE o → 0 ≤ p ∧ p < 12) (hS : RSt I bt n r o) (e1 : nnO bt n r o = o1) (e2 : nnR bt n r p o = r1)
    (h : ∀ I', RFr I I' → RSt I' bt n r1 o1 → Q none I' L R) : CT E M_X12_newName 161 yX12_newName [vr 138, vi p] I L R Q := by
  subst e1; subst e2
  cases o with
  | inl q => exact c_X12_newName9 hT hS (h I RFr.rf hS)
  | inr a => exact c_X12_newName hT hn hb (hp id) hS h
theorem nnR_o {bt : F1} {n : Int} {r : F1} {p : Int} {o : PO} {j : Int} (h : ∀ w : List Int, w.length ≤ 8 → setN r p w j = r j) : nnR bt n r p o j = r j := by
  cases o with
  | inl q => rfl
  | inr a =>
    by_cases z : nmP bt n a ∧ fiF r (wdE bt n a) < 0
    · have e : nnR bt n r p (.inr a) = setN r p (wdE bt n a) := pick_t z
      rw [e]
      refine h _ ?_
      have ht := z.1.1
      unfold tkE at ht
      rw [wdE_len]
      by_cases y : a < n
      · rw [pick_t y] at ht
        by_cases s : smB (bt a)
        · rw [pick_t s] at ht
          by_cases u : enE bt n a - a > 8
          · rw [pick_t u] at ht; omega
          · omega
        · rw [pick_f s] at ht
          by_cases d : dgB (bt a)
          · rw [pick_t d] at ht
            by_cases u : enE bt n a - a > 3
            · rw [pick_t u] at ht; omega
            · rw [pick_f u] at ht; omega
          · rw [pick_f d] at ht
            by_cases u : bt a = 59 ∨ bt a = 44
            · rw [pick_t u] at ht; omega
            · rw [pick_f u] at ht; omega
      · rw [pick_f y] at ht; omega
    · have e : nnR bt n r p (.inr a) = r := pick_f z
      rw [e]
/-- below the names nothing changes -/
theorem nnR_l {bt : F1} {n : Int} {r : F1} {p : Int} {o : PO} {j : Int} (hj : j < 173) (hp : 0 ≤ p) : nnR bt n r p o j = r j := nnR_o (fun w _ => by
  unfold setN
  rw [if_neg (by omega), if_neg (by omega)])
set_option maxHeartbeats 4000000 in
theorem c_X12_partLine {E : ET} {I : MI} {L : ML} {R : MR} {Q : Option AV → MI → ML → MR → Prop} {bt r : F1} {n : Int} {o : PO} (hT : Topo R) (hn : 0 ≤ n ∧ n ≤ 900) (hb : ∀ k, 0 ≤ k → k < n → 0 ≤ bt k ∧ bt k ≤ 255) (h4 : 0 ≤ r 4 ∧ r 4 ≤ 7) (h5 : ¬ isE o → r 4 ≤ 6) (hz : ∀ p, r 4 ≤ p → p < 7 → r (9 + p) = 0 ∧ r (37 + p) = 0) (hS : RSt I bt n r o) (h : ∀ I' r', RFr I I' → RSt I' bt n r' (ptO bt n r o) → (¬ isE (ptO bt n r o) → r' = ptR bt n r o) → Q none I' L R) : CT E M_X12_partLine 161 yX12_partLine [(vr (138))] I L R Q := by
  refine CT_of rfl rfl (fun h => by cases h) (Nat.le_of_ble_eq_true rfl) (fun X => ?_)
  show V X _ z0 0 [some (vr (138)), none] [] I L R _
  have er := hS.2.2.1
  have b1 := nuV_b bt n (lo := 0) (hi := 9) (by decide) (ptB bt n r o)
  have b2 := nuV_b bt n (lo := 0) (hi := 99) (by decide) (ptC bt n r o)
  have b3 := nuV_b bt n (lo := 0) (hi := 99) (by decide) (ptD bt n r o)
  cases hA : ptA bt n r o with
  | inl q =>
    have eO : ptO bt n r o = .inl q := by unfold ptO ptD ptC ptB; rw [hA]; rfl
    rw [eO] at h
    refine s_aload_n 1 dX12_partLine_0 rfl rfl ?_
    refine s_getR 4 dX12_partLine_1 rfl fl_X12_23 (fun _ _ _ _ => rfl) (T_X12_fresh hT) sh_138 (Nat.le_of_ble_eq_true rfl) ?_
    refine s_iconst 5 dX12_partLine_4 rfl ?_
    refine s_iald 6 dX12_partLine_5 rfl sh_142 (Nat.le_of_ble_eq_true rfl) (by omega) (by omega) (fun r_5 => ?_)
    rw [er] at r_5 ⊢
    refine s_istore_n (ls' := [_, _]) 7 dX12_partLine_6 rfl (Nat.le_of_ble_eq_true rfl) rfl rfl ?_
    refine s_aload_n 8 dX12_partLine_7 rfl rfl ?_
    refine s_iload_n 9 dX12_partLine_8 rfl rfl ?_
    refine s_callV0 (M' := M_X12_newName) (as := [_]) 12 dX12_partLine_9 rfl cw_X12_251 rfl rfl sh_138 rfl (by decide) (Nat.le_of_ble_eq_true rfl) (Nat.le_of_ble_eq_true rfl) (Nat.le_of_ble_eq_true rfl) (Nat.le_of_ble_eq_true rfl) ⟨rfl, rfl, rfl⟩ ?_
    refine c_X12_newName2 (r1 := nnR bt n r (r 4) o) hT hn hb (fun z => by have := h5 z; omega) hS hA rfl (fun I1 q1 q2 => ?_)
    refine s_aload_n 13 dX12_partLine_12 rfl rfl ?_
    refine s_getI 16 dX12_partLine_13 rfl fl_X12_119 (fun _ _ _ _ => rfl) sh_138 (Nat.le_of_ble_eq_true rfl) (fun r_13 => ?_)
    rw [q2.no]
    refine s_if_eq 20 19 dX12_partLine_16 rfl rfl (by first | omega | exact bI_r _ | exact iI_r _) (fun h_16 => by exfalso; omega) (fun h_16 => ?_)
    refine s_vret dX12_partLine_19 rfl rfl ?_
    exact h I1 _ q1 q2 (fun z => absurd trivial z)
  | inr a =>
    have hE : ¬ isE o := fun z => by
      obtain ⟨q, hq⟩ := isE_t z
      rw [hq] at hA
      cases hA
    have h5 := h5 hE
    obtain ⟨r1, e1⟩ : ∃ r1, nnR bt n r (r 4) o = r1 := ⟨_, rfl⟩
    have z1 : r1 (9 + r 4) = 0 := by rw [← e1, nnR_l (by omega) h4.1]; exact (hz _ (Int.le_refl _) (by omega)).1
    have z2 : r1 (37 + r 4) = 0 := by rw [← e1, nnR_l (by omega) h4.1]; exact (hz _ (Int.le_refl _) (by omega)).2
    have z4 : r1 4 = r 4 := by rw [← e1, nnR_l (by omega) h4.1]
    have tail : ∀ (I2 : MI) (r2 : F1), RFr I I2 → RSt I2 bt n r2 (kiO bt n (.inr a)) → r2 = sr (sr r1 (9 + r 4) (kiK bt n (.inr a))) (37 + r 4) (kiH bt n (.inr a)) → V X M_X12_partLine z0 111 [some (vr (138)), some (vi (r 4))] [] (I2) L R (RT X M_X12_partLine Q) := by
      intro I2 r2 q1 q2 q3
      have e4 : ∀ v1 v2 v3, sr (sr (sr r2 (16 + r 4) v1) (23 + r 4) v2) (30 + r 4) v3 4 = r 4 := by
        intro v1 v2 v3
        rw [sr_n (by omega), sr_n (by omega), sr_n (by omega), q3, sr_n (by omega), sr_n (by omega), z4]
      have eB : muW bt n (wS 42) (kiO bt n (.inr a)) = ptB bt n r o := by unfold ptB; rw [hA]
      refine s_aload_n 112 dX12_partLine_111 rfl rfl ?_
      refine s_getR 115 dX12_partLine_112 rfl fl_X12_23 (fun _ _ _ _ => rfl) (T_X12_fresh hT) sh_138 (Nat.le_of_ble_eq_true rfl) ?_
      refine s_bipush 117 dX12_partLine_115 rfl (by decide) ?_
      refine s_iload_n 118 dX12_partLine_117 rfl rfl ?_
      refine s_iadd 119 dX12_partLine_118 rfl ?_
      refine s_aload_n 120 dX12_partLine_119 rfl rfl ?_
      refine s_ldcSw 123 dX12_partLine_120 rfl (ks_X12_263) ?_
      refine s_iconst 124 dX12_partLine_123 rfl ?_
      refine s_bipush 126 dX12_partLine_124 rfl (by decide) ?_
      refine s_callV0 (M' := M_X12_told) (as := [_, _, _]) 129 dX12_partLine_126 rfl cw_X12_243 rfl rfl sh_138 rfl (by decide) (Nat.le_of_ble_eq_true rfl) (Nat.le_of_ble_eq_true rfl) (Nat.le_of_ble_eq_true rfl) (Nat.le_of_ble_eq_true rfl) ⟨rfl, rfl, rfl⟩ ?_
      refine c_X12_told2 (k := 42) (o1 := ptB bt n r o) hT hn hb rfl (by decide) (by decide) q2 eB rfl rfl (fun I3 q5 q6 => ?_)
      refine s_iast 130 dX12_partLine_129 rfl sh_142 (Nat.le_of_ble_eq_true rfl) (by omega) (by omega) (by first | omega | exact bI_r _ | exact iI_r _) ?_
      refine s_aload_n 131 dX12_partLine_130 rfl rfl ?_
      refine s_getR 134 dX12_partLine_131 rfl fl_X12_23 (fun _ _ _ _ => rfl) (T_X12_fresh hT) sh_138 (Nat.le_of_ble_eq_true rfl) ?_
      refine s_bipush 136 dX12_partLine_134 rfl (by decide) ?_
      refine s_iload_n 137 dX12_partLine_136 rfl rfl ?_
      refine s_iadd 138 dX12_partLine_137 rfl ?_
      refine s_aload_n 139 dX12_partLine_138 rfl rfl ?_
      refine s_ldcSw 142 dX12_partLine_139 rfl (ks_X12_265) ?_
      refine s_iconst 143 dX12_partLine_142 rfl ?_
      refine s_bipush 145 dX12_partLine_143 rfl (by decide) ?_
      refine s_callV0 (M' := M_X12_told) (as := [_, _, _]) 148 dX12_partLine_145 rfl cw_X12_243 rfl rfl sh_138 rfl (by decide) (Nat.le_of_ble_eq_true rfl) (Nat.le_of_ble_eq_true rfl) (Nat.le_of_ble_eq_true rfl) (Nat.le_of_ble_eq_true rfl) ⟨rfl, rfl, rfl⟩ ?_
      have q6 := q6.ps (k := 16 + r 4) (v := nuV bt n 0 9 (ptB bt n r o))
      refine c_X12_told2 (k := 43) (o1 := ptC bt n r o) hT hn hb rfl (by decide) (by decide) q6 rfl rfl rfl (fun I4 q7 q8 => ?_)
      refine s_iast 149 dX12_partLine_148 rfl sh_142 (Nat.le_of_ble_eq_true rfl) (by omega) (by omega) (by first | omega | exact bI_r _ | exact iI_r _) ?_
      refine s_aload_n 150 dX12_partLine_149 rfl rfl ?_
      refine s_getR 153 dX12_partLine_150 rfl fl_X12_23 (fun _ _ _ _ => rfl) (T_X12_fresh hT) sh_138 (Nat.le_of_ble_eq_true rfl) ?_
      refine s_bipush 155 dX12_partLine_153 rfl (by decide) ?_
      refine s_iload_n 156 dX12_partLine_155 rfl rfl ?_
      refine s_iadd 157 dX12_partLine_156 rfl ?_
      refine s_aload_n 158 dX12_partLine_157 rfl rfl ?_
      refine s_ldcSw 161 dX12_partLine_158 rfl (ks_X12_267) ?_
      refine s_iconst 162 dX12_partLine_161 rfl ?_
      refine s_bipush 164 dX12_partLine_162 rfl (by decide) ?_
      refine s_callV0 (M' := M_X12_told) (as := [_, _, _]) 167 dX12_partLine_164 rfl cw_X12_243 rfl rfl sh_138 rfl (by decide) (Nat.le_of_ble_eq_true rfl) (Nat.le_of_ble_eq_true rfl) (Nat.le_of_ble_eq_true rfl) (Nat.le_of_ble_eq_true rfl) ⟨rfl, rfl, rfl⟩ ?_
      have q8 := q8.ps (k := 23 + r 4) (v := nuV bt n 0 99 (ptC bt n r o))
      refine c_X12_told2 (k := 44) (o1 := ptD bt n r o) (o2 := ptO bt n r o) hT hn hb rfl (by decide) (by decide) q8 rfl rfl rfl (fun I5 q9 q10 => ?_)
      refine s_iast 168 dX12_partLine_167 rfl sh_142 (Nat.le_of_ble_eq_true rfl) (by omega) (by omega) (by first | omega | exact bI_r _ | exact iI_r _) ?_
      have q10 := q10.ps (k := 30 + r 4) (v := nuV bt n 0 99 (ptD bt n r o))
      have q11 := (((q1.tr q5).ar (k := 16 + r 4) (v := nuV bt n 0 9 (ptB bt n r o))).tr q7).ar (k := 23 + r 4) (v := nuV bt n 0 99 (ptC bt n r o)) |>.tr q9 |>.ar (k := 30 + r 4) (v := nuV bt n 0 99 (ptD bt n r o))
      refine s_aload_n 169 dX12_partLine_168 rfl rfl ?_
      refine s_getI 172 dX12_partLine_169 rfl fl_X12_119 (fun _ _ _ _ => rfl) sh_138 (Nat.le_of_ble_eq_true rfl) (fun r_169 => ?_)
      rw [q10.fl]
      refine s_ifb_ne 185 175 dX12_partLine_172 rfl rfl (fun h_172 => ?_) (fun h_172 => ?_)
      · skip
        refine s_vret dX12_partLine_185 rfl rfl ?_
        first | exact h _ _ q11 q10 (fun z => absurd (by assumption) z) | (refine h _ _ q11.ar (q10.ps (k := 4) (v := r 4 + 1)) (fun _ => ?_); rw [q3]; unfold ptR; rw [e1, hA])
      refine s_aload_n 176 dX12_partLine_175 rfl rfl ?_
      refine s_getR 179 dX12_partLine_176 rfl fl_X12_23 (fun _ _ _ _ => rfl) (T_X12_fresh hT) sh_138 (Nat.le_of_ble_eq_true rfl) ?_
      refine s_iconst 180 dX12_partLine_179 rfl ?_
      refine s_dup2 181 dX12_partLine_180 rfl rfl rfl ?_
      refine s_iald 182 dX12_partLine_181 rfl sh_142 (Nat.le_of_ble_eq_true rfl) (by omega) (by omega) (fun r_181 => ?_)
      rw [q10.2.2.1] at r_181 ⊢
      rw [e4]
      refine s_iconst 183 dX12_partLine_182 rfl ?_
      refine s_iadd 184 dX12_partLine_183 rfl ?_
      refine s_iast 185 dX12_partLine_184 rfl sh_142 (Nat.le_of_ble_eq_true rfl) (by omega) (by omega) (by first | omega | exact bI_r _ | exact iI_r _) ?_
      refine s_vret dX12_partLine_185 rfl rfl ?_
      first | exact h _ _ q11 q10 (fun z => absurd (by assumption) z) | (refine h _ _ q11.ar (q10.ps (k := 4) (v := r 4 + 1)) (fun _ => ?_); rw [q3]; unfold ptR; rw [e1, hA])
    have eA : nnO bt n r o = .inr a := hA
    by_cases k1 : isW bt n (wS 38) (.inr a)
    · have eO : kiO bt n (.inr a) = nuO bt n 0 99 (.inr (nxE bt n a)) := pick_t k1
      have eK : kiK bt n (.inr a) = 1 := pick_t k1
      have eH : kiH bt n (.inr a) = nuV bt n 0 99 (.inr (nxE bt n a)) := pick_t k1
      have bH := nuV_b bt n (lo := 0) (hi := 99) (by decide) (.inr (nxE bt n a))
      rw [eO, eK, eH] at tail
      refine s_aload_n 1 dX12_partLine_0 rfl rfl ?_
      refine s_getR 4 dX12_partLine_1 rfl fl_X12_23 (fun _ _ _ _ => rfl) (T_X12_fresh hT) sh_138 (Nat.le_of_ble_eq_true rfl) ?_
      refine s_iconst 5 dX12_partLine_4 rfl ?_
      refine s_iald 6 dX12_partLine_5 rfl sh_142 (Nat.le_of_ble_eq_true rfl) (by omega) (by omega) (fun r_5 => ?_)
      rw [er] at r_5 ⊢
      refine s_istore_n (ls' := [_, _]) 7 dX12_partLine_6 rfl (Nat.le_of_ble_eq_true rfl) rfl rfl ?_
      refine s_aload_n 8 dX12_partLine_7 rfl rfl ?_
      refine s_iload_n 9 dX12_partLine_8 rfl rfl ?_
      refine s_callV0 (M' := M_X12_newName) (as := [_]) 12 dX12_partLine_9 rfl cw_X12_251 rfl rfl sh_138 rfl (by decide) (Nat.le_of_ble_eq_true rfl) (Nat.le_of_ble_eq_true rfl) (Nat.le_of_ble_eq_true rfl) (Nat.le_of_ble_eq_true rfl) ⟨rfl, rfl, rfl⟩ ?_
      refine c_X12_newName2 hT hn hb (fun z => by omega) hS eA e1 (fun I1 q1 q2 => ?_)
      refine s_aload_n 13 dX12_partLine_12 rfl rfl ?_
      refine s_getI 16 dX12_partLine_13 rfl fl_X12_119 (fun _ _ _ _ => rfl) sh_138 (Nat.le_of_ble_eq_true rfl) (fun r_13 => ?_)
      rw [q2.ok]
      refine s_if_eq 20 19 dX12_partLine_16 rfl rfl (by first | omega | exact bI_r _ | exact iI_r _) (fun h_16 => ?_) (fun h_16 => by exfalso; omega)
      refine s_aload_n 21 dX12_partLine_20 rfl rfl ?_
      refine s_ldcS 23 dX12_partLine_21 rfl (ks_X12_255) ?_
      refine s_callV0 (M' := M_X12_takes) (as := [_]) 26 dX12_partLine_23 rfl cw_X12_143 rfl rfl sh_138 rfl (by decide) (Nat.le_of_ble_eq_true rfl) (Nat.le_of_ble_eq_true rfl) (Nat.le_of_ble_eq_true rfl) (Nat.le_of_ble_eq_true rfl) ⟨rfl, rfl, rfl⟩ ?_
      refine c_X12_takes2 (k := 38) hT hn hb rfl q2 (tkW_t k1) (fun I2 q3 q4 => ?_)
      refine s_ifb_eq 58 29 dX12_partLine_26 rfl rfl (fun h_26 => by exfalso; exact absurd k1 h_26) (fun h_26 => ?_)
      refine s_aload_n 30 dX12_partLine_29 rfl rfl ?_
      refine s_getR 33 dX12_partLine_30 rfl fl_X12_23 (fun _ _ _ _ => rfl) (T_X12_fresh hT) sh_138 (Nat.le_of_ble_eq_true rfl) ?_
      refine s_bipush 35 dX12_partLine_33 rfl (by decide) ?_
      refine s_iload_n 36 dX12_partLine_35 rfl rfl ?_
      refine s_iadd 37 dX12_partLine_36 rfl ?_
      refine s_iconst 38 dX12_partLine_37 rfl ?_
      refine s_iast 39 dX12_partLine_38 rfl sh_142 (Nat.le_of_ble_eq_true rfl) (by omega) (by omega) (by first | omega | exact bI_r _ | exact iI_r _) ?_
      have q4 := q4.ps (k := 9 + r 4) (v := 1)
      refine s_aload_n 40 dX12_partLine_39 rfl rfl ?_
      refine s_getR 43 dX12_partLine_40 rfl fl_X12_23 (fun _ _ _ _ => rfl) (T_X12_fresh hT) sh_138 (Nat.le_of_ble_eq_true rfl) ?_
      refine s_bipush 45 dX12_partLine_43 rfl (by decide) ?_
      refine s_iload_n 46 dX12_partLine_45 rfl rfl ?_
      refine s_iadd 47 dX12_partLine_46 rfl ?_
      refine s_aload_n 48 dX12_partLine_47 rfl rfl ?_
      refine s_iconst 49 dX12_partLine_48 rfl ?_
      refine s_bipush 51 dX12_partLine_49 rfl (by decide) ?_
      refine s_callV0 (M' := M_X12_number) (as := [_, _]) 54 dX12_partLine_51 rfl cw_X12_182 rfl rfl sh_138 rfl (by decide) (Nat.le_of_ble_eq_true rfl) (Nat.le_of_ble_eq_true rfl) (Nat.le_of_ble_eq_true rfl) (Nat.le_of_ble_eq_true rfl) ⟨rfl, rfl, rfl⟩ ?_
      refine c_X12_number2 hT hn hb (by decide) (by decide) q4 rfl rfl (fun I3 q5 q6 => ?_)
      refine s_iast 55 dX12_partLine_54 rfl sh_142 (Nat.le_of_ble_eq_true rfl) (by omega) (by omega) (by first | omega | exact bI_r _ | exact iI_r _) ?_
      refine s_goto 111 dX12_partLine_55 rfl ?_
      exact tail _ _ ((((q1.tr q3).ar).tr q5).ar) q6.ps rfl
    · by_cases k2 : isW bt n (wS 39) (.inr a)
      · have eO : kiO bt n (.inr a) = .inr (nxE bt n a) := (pick_f k1).trans (pick_t k2)
        have eK : kiK bt n (.inr a) = 2 := (pick_f k1).trans (pick_t k2)
        have eH : kiH bt n (.inr a) = 0 := pick_f k1
        rw [eO, eK, eH] at tail
        refine s_aload_n 1 dX12_partLine_0 rfl rfl ?_
        refine s_getR 4 dX12_partLine_1 rfl fl_X12_23 (fun _ _ _ _ => rfl) (T_X12_fresh hT) sh_138 (Nat.le_of_ble_eq_true rfl) ?_
        refine s_iconst 5 dX12_partLine_4 rfl ?_
        refine s_iald 6 dX12_partLine_5 rfl sh_142 (Nat.le_of_ble_eq_true rfl) (by omega) (by omega) (fun r_5 => ?_)
        rw [er] at r_5 ⊢
        refine s_istore_n (ls' := [_, _]) 7 dX12_partLine_6 rfl (Nat.le_of_ble_eq_true rfl) rfl rfl ?_
        refine s_aload_n 8 dX12_partLine_7 rfl rfl ?_
        refine s_iload_n 9 dX12_partLine_8 rfl rfl ?_
        refine s_callV0 (M' := M_X12_newName) (as := [_]) 12 dX12_partLine_9 rfl cw_X12_251 rfl rfl sh_138 rfl (by decide) (Nat.le_of_ble_eq_true rfl) (Nat.le_of_ble_eq_true rfl) (Nat.le_of_ble_eq_true rfl) (Nat.le_of_ble_eq_true rfl) ⟨rfl, rfl, rfl⟩ ?_
        refine c_X12_newName2 hT hn hb (fun z => by omega) hS eA e1 (fun I1 q1 q2 => ?_)
        refine s_aload_n 13 dX12_partLine_12 rfl rfl ?_
        refine s_getI 16 dX12_partLine_13 rfl fl_X12_119 (fun _ _ _ _ => rfl) sh_138 (Nat.le_of_ble_eq_true rfl) (fun r_13 => ?_)
        rw [q2.ok]
        refine s_if_eq 20 19 dX12_partLine_16 rfl rfl (by first | omega | exact bI_r _ | exact iI_r _) (fun h_16 => ?_) (fun h_16 => by exfalso; omega)
        refine s_aload_n 21 dX12_partLine_20 rfl rfl ?_
        refine s_ldcS 23 dX12_partLine_21 rfl (ks_X12_255) ?_
        refine s_callV0 (M' := M_X12_takes) (as := [_]) 26 dX12_partLine_23 rfl cw_X12_143 rfl rfl sh_138 rfl (by decide) (Nat.le_of_ble_eq_true rfl) (Nat.le_of_ble_eq_true rfl) (Nat.le_of_ble_eq_true rfl) (Nat.le_of_ble_eq_true rfl) ⟨rfl, rfl, rfl⟩ ?_
        refine c_X12_takes2 (k := 38) hT hn hb rfl q2 (tkW_f k1) (fun I2 q3 q4 => ?_)
        refine s_ifb_eq 58 29 dX12_partLine_26 rfl rfl (fun h_26 => ?_) (fun h_26 => by exfalso; exact absurd h_26 k1)
        refine s_aload_n 59 dX12_partLine_58 rfl rfl ?_
        refine s_ldcSw 62 dX12_partLine_59 rfl (ks_X12_257) ?_
        refine s_callV0 (M' := M_X12_takes) (as := [_]) 65 dX12_partLine_62 rfl cw_X12_143 rfl rfl sh_138 rfl (by decide) (Nat.le_of_ble_eq_true rfl) (Nat.le_of_ble_eq_true rfl) (Nat.le_of_ble_eq_true rfl) (Nat.le_of_ble_eq_true rfl) ⟨rfl, rfl, rfl⟩ ?_
        refine c_X12_takes2 (k := 39) hT hn hb rfl q4 (tkW_t k2) (fun I3 q5 q6 => ?_)
        refine s_ifb_eq 81 68 dX12_partLine_65 rfl rfl (fun h_65 => by exfalso; exact absurd k2 h_65) (fun h_65 => ?_)
        refine s_aload_n 69 dX12_partLine_68 rfl rfl ?_
        refine s_getR 72 dX12_partLine_69 rfl fl_X12_23 (fun _ _ _ _ => rfl) (T_X12_fresh hT) sh_138 (Nat.le_of_ble_eq_true rfl) ?_
        refine s_bipush 74 dX12_partLine_72 rfl (by decide) ?_
        refine s_iload_n 75 dX12_partLine_74 rfl rfl ?_
        refine s_iadd 76 dX12_partLine_75 rfl ?_
        refine s_iconst 77 dX12_partLine_76 rfl ?_
        refine s_iast 78 dX12_partLine_77 rfl sh_142 (Nat.le_of_ble_eq_true rfl) (by omega) (by omega) (by first | omega | exact bI_r _ | exact iI_r _) ?_
        refine s_goto 111 dX12_partLine_78 rfl ?_
        refine tail _ _ (((q1.tr q3).tr q5).ar) (q6.ps (k := 9 + r 4) (v := 2)) ?_
        funext j
        by_cases ej : j = 37 + r 4
        · rw [ej, sr_e, sr_n (by omega)]; exact z2
        · rw [sr_n (k := 37 + r 4) ej]
      · by_cases k3 : isW bt n (wS 40) (.inr a)
        · have eO : kiO bt n (.inr a) = .inr (nxE bt n a) := (pick_f k1).trans ((pick_f k2).trans (pick_t k3))
          have eK : kiK bt n (.inr a) = 3 := (pick_f k1).trans ((pick_f k2).trans (pick_t k3))
          have eH : kiH bt n (.inr a) = 0 := pick_f k1
          rw [eO, eK, eH] at tail
          refine s_aload_n 1 dX12_partLine_0 rfl rfl ?_
          refine s_getR 4 dX12_partLine_1 rfl fl_X12_23 (fun _ _ _ _ => rfl) (T_X12_fresh hT) sh_138 (Nat.le_of_ble_eq_true rfl) ?_
          refine s_iconst 5 dX12_partLine_4 rfl ?_
          refine s_iald 6 dX12_partLine_5 rfl sh_142 (Nat.le_of_ble_eq_true rfl) (by omega) (by omega) (fun r_5 => ?_)
          rw [er] at r_5 ⊢
          refine s_istore_n (ls' := [_, _]) 7 dX12_partLine_6 rfl (Nat.le_of_ble_eq_true rfl) rfl rfl ?_
          refine s_aload_n 8 dX12_partLine_7 rfl rfl ?_
          refine s_iload_n 9 dX12_partLine_8 rfl rfl ?_
          refine s_callV0 (M' := M_X12_newName) (as := [_]) 12 dX12_partLine_9 rfl cw_X12_251 rfl rfl sh_138 rfl (by decide) (Nat.le_of_ble_eq_true rfl) (Nat.le_of_ble_eq_true rfl) (Nat.le_of_ble_eq_true rfl) (Nat.le_of_ble_eq_true rfl) ⟨rfl, rfl, rfl⟩ ?_
          refine c_X12_newName2 hT hn hb (fun z => by omega) hS eA e1 (fun I1 q1 q2 => ?_)
          refine s_aload_n 13 dX12_partLine_12 rfl rfl ?_
          refine s_getI 16 dX12_partLine_13 rfl fl_X12_119 (fun _ _ _ _ => rfl) sh_138 (Nat.le_of_ble_eq_true rfl) (fun r_13 => ?_)
          rw [q2.ok]
          refine s_if_eq 20 19 dX12_partLine_16 rfl rfl (by first | omega | exact bI_r _ | exact iI_r _) (fun h_16 => ?_) (fun h_16 => by exfalso; omega)
          refine s_aload_n 21 dX12_partLine_20 rfl rfl ?_
          refine s_ldcS 23 dX12_partLine_21 rfl (ks_X12_255) ?_
          refine s_callV0 (M' := M_X12_takes) (as := [_]) 26 dX12_partLine_23 rfl cw_X12_143 rfl rfl sh_138 rfl (by decide) (Nat.le_of_ble_eq_true rfl) (Nat.le_of_ble_eq_true rfl) (Nat.le_of_ble_eq_true rfl) (Nat.le_of_ble_eq_true rfl) ⟨rfl, rfl, rfl⟩ ?_
          refine c_X12_takes2 (k := 38) hT hn hb rfl q2 (tkW_f k1) (fun I2 q3 q4 => ?_)
          refine s_ifb_eq 58 29 dX12_partLine_26 rfl rfl (fun h_26 => ?_) (fun h_26 => by exfalso; exact absurd h_26 k1)
          refine s_aload_n 59 dX12_partLine_58 rfl rfl ?_
          refine s_ldcSw 62 dX12_partLine_59 rfl (ks_X12_257) ?_
          refine s_callV0 (M' := M_X12_takes) (as := [_]) 65 dX12_partLine_62 rfl cw_X12_143 rfl rfl sh_138 rfl (by decide) (Nat.le_of_ble_eq_true rfl) (Nat.le_of_ble_eq_true rfl) (Nat.le_of_ble_eq_true rfl) (Nat.le_of_ble_eq_true rfl) ⟨rfl, rfl, rfl⟩ ?_
          refine c_X12_takes2 (k := 39) hT hn hb rfl q4 (tkW_f k2) (fun I3 q5 q6 => ?_)
          refine s_ifb_eq 81 68 dX12_partLine_65 rfl rfl (fun h_65 => ?_) (fun h_65 => by exfalso; exact absurd h_65 k2)
          refine s_aload_n 82 dX12_partLine_81 rfl rfl ?_
          refine s_ldcSw 85 dX12_partLine_82 rfl (ks_X12_259) ?_
          refine s_callV0 (M' := M_X12_takes) (as := [_]) 88 dX12_partLine_85 rfl cw_X12_143 rfl rfl sh_138 rfl (by decide) (Nat.le_of_ble_eq_true rfl) (Nat.le_of_ble_eq_true rfl) (Nat.le_of_ble_eq_true rfl) (Nat.le_of_ble_eq_true rfl) ⟨rfl, rfl, rfl⟩ ?_
          refine c_X12_takes2 (k := 40) hT hn hb rfl q6 (tkW_t k3) (fun I4 q7 q8 => ?_)
          refine s_ifb_eq 104 91 dX12_partLine_88 rfl rfl (fun h_88 => by exfalso; exact absurd k3 h_88) (fun h_88 => ?_)
          refine s_aload_n 92 dX12_partLine_91 rfl rfl ?_
          refine s_getR 95 dX12_partLine_92 rfl fl_X12_23 (fun _ _ _ _ => rfl) (T_X12_fresh hT) sh_138 (Nat.le_of_ble_eq_true rfl) ?_
          refine s_bipush 97 dX12_partLine_95 rfl (by decide) ?_
          refine s_iload_n 98 dX12_partLine_97 rfl rfl ?_
          refine s_iadd 99 dX12_partLine_98 rfl ?_
          refine s_iconst 100 dX12_partLine_99 rfl ?_
          refine s_iast 101 dX12_partLine_100 rfl sh_142 (Nat.le_of_ble_eq_true rfl) (by omega) (by omega) (by first | omega | exact bI_r _ | exact iI_r _) ?_
          refine s_goto 111 dX12_partLine_101 rfl ?_
          refine tail _ _ ((((q1.tr q3).tr q5).tr q7).ar) (q8.ps (k := 9 + r 4) (v := 3)) ?_
          funext j
          by_cases ej : j = 37 + r 4
          · rw [ej, sr_e, sr_n (by omega)]; exact z2
          · rw [sr_n (k := 37 + r 4) ej]
        · have eO : kiO bt n (.inr a) = muW bt n (wS 41) (.inr a) := (pick_f k1).trans ((pick_f k2).trans (pick_f k3))
          have eK : kiK bt n (.inr a) = 0 := (pick_f k1).trans ((pick_f k2).trans (pick_f k3))
          have eH : kiH bt n (.inr a) = 0 := pick_f k1
          rw [eO, eK, eH] at tail
          refine s_aload_n 1 dX12_partLine_0 rfl rfl ?_
          refine s_getR 4 dX12_partLine_1 rfl fl_X12_23 (fun _ _ _ _ => rfl) (T_X12_fresh hT) sh_138 (Nat.le_of_ble_eq_true rfl) ?_
          refine s_iconst 5 dX12_partLine_4 rfl ?_
          refine s_iald 6 dX12_partLine_5 rfl sh_142 (Nat.le_of_ble_eq_true rfl) (by omega) (by omega) (fun r_5 => ?_)
          rw [er] at r_5 ⊢
          refine s_istore_n (ls' := [_, _]) 7 dX12_partLine_6 rfl (Nat.le_of_ble_eq_true rfl) rfl rfl ?_
          refine s_aload_n 8 dX12_partLine_7 rfl rfl ?_
          refine s_iload_n 9 dX12_partLine_8 rfl rfl ?_
          refine s_callV0 (M' := M_X12_newName) (as := [_]) 12 dX12_partLine_9 rfl cw_X12_251 rfl rfl sh_138 rfl (by decide) (Nat.le_of_ble_eq_true rfl) (Nat.le_of_ble_eq_true rfl) (Nat.le_of_ble_eq_true rfl) (Nat.le_of_ble_eq_true rfl) ⟨rfl, rfl, rfl⟩ ?_
          refine c_X12_newName2 hT hn hb (fun z => by omega) hS eA e1 (fun I1 q1 q2 => ?_)
          refine s_aload_n 13 dX12_partLine_12 rfl rfl ?_
          refine s_getI 16 dX12_partLine_13 rfl fl_X12_119 (fun _ _ _ _ => rfl) sh_138 (Nat.le_of_ble_eq_true rfl) (fun r_13 => ?_)
          rw [q2.ok]
          refine s_if_eq 20 19 dX12_partLine_16 rfl rfl (by first | omega | exact bI_r _ | exact iI_r _) (fun h_16 => ?_) (fun h_16 => by exfalso; omega)
          refine s_aload_n 21 dX12_partLine_20 rfl rfl ?_
          refine s_ldcS 23 dX12_partLine_21 rfl (ks_X12_255) ?_
          refine s_callV0 (M' := M_X12_takes) (as := [_]) 26 dX12_partLine_23 rfl cw_X12_143 rfl rfl sh_138 rfl (by decide) (Nat.le_of_ble_eq_true rfl) (Nat.le_of_ble_eq_true rfl) (Nat.le_of_ble_eq_true rfl) (Nat.le_of_ble_eq_true rfl) ⟨rfl, rfl, rfl⟩ ?_
          refine c_X12_takes2 (k := 38) hT hn hb rfl q2 (tkW_f k1) (fun I2 q3 q4 => ?_)
          refine s_ifb_eq 58 29 dX12_partLine_26 rfl rfl (fun h_26 => ?_) (fun h_26 => by exfalso; exact absurd h_26 k1)
          refine s_aload_n 59 dX12_partLine_58 rfl rfl ?_
          refine s_ldcSw 62 dX12_partLine_59 rfl (ks_X12_257) ?_
          refine s_callV0 (M' := M_X12_takes) (as := [_]) 65 dX12_partLine_62 rfl cw_X12_143 rfl rfl sh_138 rfl (by decide) (Nat.le_of_ble_eq_true rfl) (Nat.le_of_ble_eq_true rfl) (Nat.le_of_ble_eq_true rfl) (Nat.le_of_ble_eq_true rfl) ⟨rfl, rfl, rfl⟩ ?_
          refine c_X12_takes2 (k := 39) hT hn hb rfl q4 (tkW_f k2) (fun I3 q5 q6 => ?_)
          refine s_ifb_eq 81 68 dX12_partLine_65 rfl rfl (fun h_65 => ?_) (fun h_65 => by exfalso; exact absurd h_65 k2)
          refine s_aload_n 82 dX12_partLine_81 rfl rfl ?_
          refine s_ldcSw 85 dX12_partLine_82 rfl (ks_X12_259) ?_
          refine s_callV0 (M' := M_X12_takes) (as := [_]) 88 dX12_partLine_85 rfl cw_X12_143 rfl rfl sh_138 rfl (by decide) (Nat.le_of_ble_eq_true rfl) (Nat.le_of_ble_eq_true rfl) (Nat.le_of_ble_eq_true rfl) (Nat.le_of_ble_eq_true rfl) ⟨rfl, rfl, rfl⟩ ?_
          refine c_X12_takes2 (k := 40) hT hn hb rfl q6 (tkW_f k3) (fun I4 q7 q8 => ?_)
          refine s_ifb_eq 104 91 dX12_partLine_88 rfl rfl (fun h_88 => ?_) (fun h_88 => by exfalso; exact absurd h_88 k3)
          refine s_aload_n 105 dX12_partLine_104 rfl rfl ?_
          refine s_ldcSw 108 dX12_partLine_105 rfl (ks_X12_261) ?_
          refine s_callV0 (M' := M_X12_must) (as := [_]) 111 dX12_partLine_108 rfl cw_X12_178 rfl rfl sh_138 rfl (by decide) (Nat.le_of_ble_eq_true rfl) (Nat.le_of_ble_eq_true rfl) (Nat.le_of_ble_eq_true rfl) (Nat.le_of_ble_eq_true rfl) ⟨rfl, rfl, rfl⟩ ?_
          refine c_X12_must2 (k := 41) hT hn hb rfl q8 rfl (fun I5 q9 q10 => ?_)
          refine tail _ _ ((((q1.tr q3).tr q5).tr q7).tr q9) q10 ?_
          funext j
          by_cases ej : j = 37 + r 4
          · rw [ej, sr_e]; exact z2
          · rw [sr_n (k := 37 + r 4) ej]
            by_cases ei : j = 9 + r 4
            · rw [ei, sr_e]; exact z1
            · rw [sr_n ei]
set_option maxHeartbeats 4000000 in
theorem c_X12_sceneLine {E : ET} {I : MI} {L : ML} {R : MR} {Q : Option AV → MI → ML → MR → Prop} {bt r : F1} {n : Int} {o : PO} (hT : Topo R) (hn : 0 ≤ n ∧ n ≤ 900) (hb : ∀ k, 0 ≤ k → k < n → 0 ≤ bt k ∧ bt k ≤ 255) (h4 : 0 ≤ r 5 ∧ r 5 ≤ 5) (h5 : ¬ isE o → r 5 ≤ 4) (hS : RSt I bt n r o) (h : ∀ I' r', RFr I I' → RSt I' bt n r' (scO bt n r o) → (¬ isE (scO bt n r o) → r' = scR bt n r o) → Q none I' L R) : CT E M_X12_sceneLine 161 yX12_sceneLine [(vr (138))] I L R Q := by
  refine CT_of rfl rfl (fun h => by cases h) (Nat.le_of_ble_eq_true rfl) (fun X => ?_)
  show V X _ z0 0 [some (vr (138)), none] [] I L R _
  have er := hS.2.2.1
  have b1 := nuV_b bt n (lo := 1) (hi := 500) (by decide) (scA bt n r o)
  have e5 : ∀ v, sr (nnR bt n r (7 + r 5) o) (44 + r 5) v 5 = r 5 := by
    intro v
    rw [sr_n (by omega), nnR_l (by omega) (by omega)]
  refine s_aload_n 1 dX12_sceneLine_0 rfl rfl ?_
  refine s_getR 4 dX12_sceneLine_1 rfl fl_X12_23 (fun _ _ _ _ => rfl) (T_X12_fresh hT) sh_138 (Nat.le_of_ble_eq_true rfl) ?_
  refine s_iconst 5 dX12_sceneLine_4 rfl ?_
  refine s_iald 6 dX12_sceneLine_5 rfl sh_142 (Nat.le_of_ble_eq_true rfl) (by omega) (by omega) (fun r_5 => ?_)
  rw [er] at r_5 ⊢
  refine s_istore_n (ls' := [_, _]) 7 dX12_sceneLine_6 rfl (Nat.le_of_ble_eq_true rfl) rfl rfl ?_
  refine s_aload_n 8 dX12_sceneLine_7 rfl rfl ?_
  refine s_bipush 10 dX12_sceneLine_8 rfl (by decide) ?_
  refine s_iload_n 11 dX12_sceneLine_10 rfl rfl ?_
  refine s_iadd 12 dX12_sceneLine_11 rfl ?_
  refine s_callV0 (M' := M_X12_newName) (as := [_]) 15 dX12_sceneLine_12 rfl cw_X12_251 rfl rfl sh_138 rfl (by decide) (Nat.le_of_ble_eq_true rfl) (Nat.le_of_ble_eq_true rfl) (Nat.le_of_ble_eq_true rfl) (Nat.le_of_ble_eq_true rfl) ⟨rfl, rfl, rfl⟩ ?_
  refine c_X12_newName2 (r1 := nnR bt n r (7 + r 5) o) hT hn hb (fun z => by have := h5 z; omega) hS rfl rfl (fun I1 q1 q2 => ?_)
  refine s_aload_n 16 dX12_sceneLine_15 rfl rfl ?_
  refine s_getR 19 dX12_sceneLine_16 rfl fl_X12_23 (fun _ _ _ _ => rfl) (T_X12_fresh hT) sh_138 (Nat.le_of_ble_eq_true rfl) ?_
  refine s_bipush 21 dX12_sceneLine_19 rfl (by decide) ?_
  refine s_iload_n 22 dX12_sceneLine_21 rfl rfl ?_
  refine s_iadd 23 dX12_sceneLine_22 rfl ?_
  refine s_aload_n 24 dX12_sceneLine_23 rfl rfl ?_
  refine s_ldcSw 27 dX12_sceneLine_24 rfl (ks_X12_269) ?_
  refine s_iconst 28 dX12_sceneLine_27 rfl ?_
  refine s_sipush 31 dX12_sceneLine_28 rfl (by decide) ?_
  refine s_callV0 (M' := M_X12_told) (as := [_, _, _]) 34 dX12_sceneLine_31 rfl cw_X12_243 rfl rfl sh_138 rfl (by decide) (Nat.le_of_ble_eq_true rfl) (Nat.le_of_ble_eq_true rfl) (Nat.le_of_ble_eq_true rfl) (Nat.le_of_ble_eq_true rfl) ⟨rfl, rfl, rfl⟩ ?_
  refine c_X12_told2 (k := 45) (o1 := scA bt n r o) (o2 := scO bt n r o) hT hn hb rfl (by decide) (by decide) q2 rfl rfl rfl (fun I2 q3 q4 => ?_)
  refine s_iast 35 dX12_sceneLine_34 rfl sh_142 (Nat.le_of_ble_eq_true rfl) (by omega) (by omega) (by first | omega | exact bI_r _ | exact iI_r _) ?_
  have q4 := q4.ps (k := 44 + r 5) (v := nuV bt n 1 500 (scA bt n r o))
  refine s_aload_n 36 dX12_sceneLine_35 rfl rfl ?_
  refine s_getI 39 dX12_sceneLine_36 rfl fl_X12_119 (fun _ _ _ _ => rfl) sh_138 (Nat.le_of_ble_eq_true rfl) (fun r_36 => ?_)
  rw [q4.fl]
  refine s_ifb_ne 52 42 dX12_sceneLine_39 rfl rfl (fun h_39 => ?_) (fun h_39 => ?_)
  · skip
    refine s_vret dX12_sceneLine_52 rfl rfl ?_
    first | exact h _ _ ((q1.tr q3).ar) q4 (fun z => absurd (by assumption) z) | exact h _ _ ((q1.tr q3).ar).ar (q4.ps (k := 5) (v := r 5 + 1)) (fun _ => rfl)
  refine s_aload_n 43 dX12_sceneLine_42 rfl rfl ?_
  refine s_getR 46 dX12_sceneLine_43 rfl fl_X12_23 (fun _ _ _ _ => rfl) (T_X12_fresh hT) sh_138 (Nat.le_of_ble_eq_true rfl) ?_
  refine s_iconst 47 dX12_sceneLine_46 rfl ?_
  refine s_dup2 48 dX12_sceneLine_47 rfl rfl rfl ?_
  refine s_iald 49 dX12_sceneLine_48 rfl sh_142 (Nat.le_of_ble_eq_true rfl) (by omega) (by omega) (fun r_48 => ?_)
  rw [q4.2.2.1] at r_48 ⊢
  rw [e5]
  refine s_iconst 50 dX12_sceneLine_49 rfl ?_
  refine s_iadd 51 dX12_sceneLine_50 rfl ?_
  refine s_iast 52 dX12_sceneLine_51 rfl sh_142 (Nat.le_of_ble_eq_true rfl) (by omega) (by omega) (by first | omega | exact bI_r _ | exact iI_r _) ?_
  refine s_vret dX12_sceneLine_52 rfl rfl ?_
  first | exact h _ _ ((q1.tr q3).ar) q4 (fun z => absurd (by assumption) z) | exact h _ _ ((q1.tr q3).ar).ar (q4.ps (k := 5) (v := r 5 + 1)) (fun _ => rfl)
