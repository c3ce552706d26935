/-! the reference: a name told, a name used, a number, a side -/
def setN (r : F1) (p : Int) (w : List Int) : F1 := fun k => if k = 173 + p then (w.length : Int) else if 185 + 8 * p ≤ k ∧ k < 185 + 8 * p + w.length then vL w (k - (185 + 8 * p)) else r k
noncomputable def nnO (bt : F1) (n : Int) (r : F1) (o : PO) : PO := match o with
  | .inl q => .inl q
  | .inr a => pick (nmP bt n a) (pick (fiF r (wdE bt n a) < 0) (.inr (nxE bt n a)) (.inl (3, a))) (.inl (1, a))
noncomputable def nnR (bt : F1) (n : Int) (r : F1) (p : Int) (o : PO) : F1 := match o with
  | .inl _ => r
  | .inr a => pick (nmP bt n a ∧ fiF r (wdE bt n a) < 0) (setN r p (wdE bt n a)) r
theorem RSt.wd {I : MI} {bt r : F1} {n a : Int} (h : RSt I bt n r (.inr a)) (ht : tkE bt n a = 2) : (1 ≤ enE bt n a - a ∧ enE bt n a - a ≤ 8) ∧ ((wdE bt n a).length : Int) = enE bt n a - a ∧ I 138 8 = enE bt n a - a ∧ ∀ j, 0 ≤ j → j < enE bt n a - a → I 140 j = vL (wdE bt n a) j := by
  obtain ⟨h1, h2, h3, h4, h5⟩ := h
  have g := h5.2.2.2.2.2.1 ht
  refine ⟨⟨g.2.1, g.2.2.1⟩, ?_, g.1, fun j j1 j2 => ?_⟩
  · rw [wdE_len]; omega
  · rw [wdE_at ⟨j1, j2⟩]; exact (g.2.2.2 j j1 j2).1
theorem c_X12_find2 {E : ET} {I : MI} {L : ML} {R : MR} {Q : QT} {bt r : F1} {n a : Int} (hT : Topo R) (hS : RSt I bt n r (.inr a)) (ht : tkE bt n a = 2)
    (h : Q (some (vi (fiF r (wdE bt n a)))) I L R) : CT E M_X12_find 161 yX12_find [vr 138] I L R Q := by
  obtain ⟨g1, g2, g3, g4⟩ := hS.wd ht
  exact c_X12_find hT hS.2.2.1 g3 g1 g2 g4 h
theorem RSt.at {I : MI} {bt r : F1} {n a : Int} (h : RSt I bt n r (.inr a)) : I 138 4 = a := h.2.2.2.2.2.1
theorem RSt.at2 {I : MI} {bt r : F1} {n a : Int} (h : RSt I bt n r (.inr a)) : ∀ b, (Sum.inr a : PO) = .inr b → I 138 4 = b := fun b z => by cases z; exact h.at
theorem RSt.ok {I : MI} {bt r : F1} {n a : Int} (h : RSt I bt n r (.inr a)) : I 138 13 = 0 := h.2.2.2.1
theorem RSt.no {I : MI} {bt r : F1} {n : Int} {q : Int × Int} (h : RSt I bt n r (.inl q)) : I 138 13 = 1 := h.2.2.2.1
theorem mnW_t {bt : F1} {n a : Int} (h : nmP bt n a) : mnW bt n a = .inr a := pick_t h
theorem mnW_f {bt : F1} {n a : Int} (h : ¬ nmP bt n a) : mnW bt n a = .inl (1, a) := pick_f h
set_option maxHeartbeats 4000000 in
theorem c_X12_newName {E : ET} {I : MI} {L : ML} {R : MR} {Q : Option AV → MI → ML → MR → Prop} {bt r : F1} {n p : Int} {o : PO} (hT : Topo R) (hn : 0 ≤ n ∧ n ≤ 900) (hb : ∀ k, 0 ≤ k → k < n → 0 ≤ bt k ∧ bt k ≤ 255) (hp : 0 ≤ p ∧ p < 12) (hS : RSt I bt n r o) (h : ∀ I', RFr I I' → RSt I' bt n (nnR bt n r p o) (nnO bt n r o) → Q none I' L R) : CT E M_X12_newName 161 yX12_newName [(vr (138)), (vi (p))] I L R Q := by
  refine CT_of rfl rfl (fun h => by cases h) (Nat.le_of_ble_eq_true rfl) (fun X => ?_)
  show V X _ z0 0 [some (vr (138)), some (vi (p)), none] [] I L R _
  cases o with
  | inl q =>
    refine s_aload_n 1 dX12_newName_0 rfl rfl ?_
    refine s_getI 4 dX12_newName_1 rfl fl_X12_119 (fun _ _ _ _ => rfl) sh_138 (Nat.le_of_ble_eq_true rfl) (fun r_1 => ?_)
    rw [hS.no]
    refine s_if_eq 8 7 dX12_newName_4 rfl rfl (by first | omega | exact bI_r _ | exact iI_r _) (fun h_4 => by exfalso; omega) (fun h_4 => ?_)
    refine s_vret dX12_newName_7 rfl rfl ?_
    exact h I RFr.rf hS
  | inr a =>
    have e0 := hS.ok
    by_cases hm : nmP bt n a
    · have ht := hm.1
      by_cases hf : fiF r (wdE bt n a) < 0
      · have eo : nnO bt n r (.inr a) = .inr (nxE bt n a) := (pick_t hm).trans (pick_t hf)
        have er : nnR bt n r p (.inr a) = setN r p (wdE bt n a) := pick_t ⟨hm, hf⟩
        rw [eo, er] at h
        have loop : ∀ (f : Nat) (i : Int) (I1 : MI), enE bt n a - a - i < (f : Int) → 0 ≤ i → i ≤ enE bt n a - a → RFr I I1 → RSt I1 bt n (fun k => if 185 + 8 * p ≤ k ∧ k < 185 + 8 * p + i then vL (wdE bt n a) (k - (185 + 8 * p)) else r k) (.inr a) → V X M_X12_newName z0 45 [some (vr (138)), some (vi (p)), some (vi (i))] [] (I1) L R (RT X M_X12_newName Q) := by
          intro f
          induction f with
          | zero => intro i I1 h1 h2 h3; omega
          | succ f ih =>
            intro i I1 h1 h2 h3 h4 h5
            obtain ⟨w1, w2, w3, w4⟩ := h5.wd ht
            refine s_iload_n 46 dX12_newName_45 rfl rfl ?_
            refine s_aload_n 47 dX12_newName_46 rfl rfl ?_
            refine s_getI 50 dX12_newName_47 rfl fl_X12_103 (fun _ _ _ _ => rfl) sh_138 (Nat.le_of_ble_eq_true rfl) (fun r_47 => ?_)
            rw [w3]
            refine s_icmp_ge 80 53 dX12_newName_50 rfl rfl (by first | omega | exact bI_r _ | exact iI_r _) (by first | omega | exact bI_r _ | exact iI_r _) (fun h_50 => ?_) (fun h_50 => ?_)
            · skip
              refine s_aload_n 81 dX12_newName_80 rfl rfl ?_
              refine s_getR 84 dX12_newName_81 rfl fl_X12_23 (fun _ _ _ _ => rfl) (T_X12_fresh hT) sh_138 (Nat.le_of_ble_eq_true rfl) ?_
              refine s_sipush 87 dX12_newName_84 rfl (by decide) ?_
              refine s_iload_n 88 dX12_newName_87 rfl rfl ?_
              refine s_iadd 89 dX12_newName_88 rfl ?_
              refine s_aload_n 90 dX12_newName_89 rfl rfl ?_
              refine s_getI 93 dX12_newName_90 rfl fl_X12_103 (fun _ _ _ _ => rfl) sh_138 (Nat.le_of_ble_eq_true rfl) (fun r_90 => ?_)
              rw [w3]
              refine s_iast 94 dX12_newName_93 rfl sh_142 (Nat.le_of_ble_eq_true rfl) (by omega) (by omega) (by first | omega | exact bI_r _ | exact iI_r _) ?_
              refine s_aload_n 95 dX12_newName_94 rfl rfl ?_
              refine s_callV0 (M' := M_X12_next) (as := []) 98 dX12_newName_95 rfl cw_X12_140 rfl rfl sh_138 rfl (by decide) (Nat.le_of_ble_eq_true rfl) (Nat.le_of_ble_eq_true rfl) (Nat.le_of_ble_eq_true rfl) (Nat.le_of_ble_eq_true rfl) ⟨rfl, rfl, rfl⟩ ?_
              have h6 := h5.put (k := 173 + p) (v := enE bt n a - a)
              have e : (fun j => if j = 173 + p then enE bt n a - a else if 185 + 8 * p ≤ j ∧ j < 185 + 8 * p + i then vL (wdE bt n a) (j - (185 + 8 * p)) else r j) = setN r p (wdE bt n a) := by
                funext j
                unfold setN
                rw [w2, show i = enE bt n a - a by omega]
              rw [e] at h6
              refine c_X12_next2 hT hn hb h6 (fun I' q1 q2 => ?_)
              refine s_vret dX12_newName_98 rfl rfl ?_
              exact h I' (h4.ar.tr q1) q2
            refine s_aload_n 54 dX12_newName_53 rfl rfl ?_
            refine s_getR 57 dX12_newName_54 rfl fl_X12_23 (fun _ _ _ _ => rfl) (T_X12_fresh hT) sh_138 (Nat.le_of_ble_eq_true rfl) ?_
            refine s_sipush 60 dX12_newName_57 rfl (by decide) ?_
            refine s_bipush 62 dX12_newName_60 rfl (by decide) ?_
            refine s_iload_n 63 dX12_newName_62 rfl rfl ?_
            refine s_imul 64 dX12_newName_63 rfl ?_
            refine s_iadd 65 dX12_newName_64 rfl ?_
            refine s_iload_n 66 dX12_newName_65 rfl rfl ?_
            refine s_iadd 67 dX12_newName_66 rfl ?_
            refine s_aload_n 68 dX12_newName_67 rfl rfl ?_
            refine s_getR 71 dX12_newName_68 rfl fl_X12_17 (fun _ _ _ _ => rfl) (T_X12_letters hT) sh_138 (Nat.le_of_ble_eq_true rfl) ?_
            refine s_iload_n 72 dX12_newName_71 rfl rfl ?_
            refine s_iald 73 dX12_newName_72 rfl sh_140 (Nat.le_of_ble_eq_true rfl) (by omega) (by omega) (fun r_72 => ?_)
            rw [w4 i h2 (by omega)]
            refine s_iast 74 dX12_newName_73 rfl sh_142 (Nat.le_of_ble_eq_true rfl) (by omega) (by omega) (by rw [← w4 i h2 (by omega)]; exact r_72) ?_
            refine s_iinc (ls' := [_, _, _]) 77 dX12_newName_74 rfl rfl (Nat.le_of_ble_eq_true rfl) rfl rfl ?_
            refine s_goto 45 dX12_newName_77 rfl ?_
            refine ih (i + 1) _ (by omega) (by omega) (by omega) h4.ar ?_
            have h6 := h5.put (k := 185 + 8 * p + i) (v := vL (wdE bt n a) i)
            have e : (fun j => if j = 185 + 8 * p + i then vL (wdE bt n a) i else if 185 + 8 * p ≤ j ∧ j < 185 + 8 * p + i then vL (wdE bt n a) (j - (185 + 8 * p)) else r j) = fun k => if 185 + 8 * p ≤ k ∧ k < 185 + 8 * p + (i + 1) then vL (wdE bt n a) (k - (185 + 8 * p)) else r k := by
              funext j
              by_cases ej : j = 185 + 8 * p + i
              · rw [if_pos ej, if_pos (by omega), ej]; congr 1; omega
              · rw [if_neg ej]
                by_cases e2 : 185 + 8 * p ≤ j ∧ j < 185 + 8 * p + i
                · rw [if_pos e2, if_pos (by omega)]
                · rw [if_neg e2, if_neg (by omega)]
            rw [e] at h6
            exact h6
        refine s_aload_n 1 dX12_newName_0 rfl rfl ?_
        refine s_getI 4 dX12_newName_1 rfl fl_X12_119 (fun _ _ _ _ => rfl) sh_138 (Nat.le_of_ble_eq_true rfl) (fun r_1 => ?_)
        rw [e0]
        refine s_if_eq 8 7 dX12_newName_4 rfl rfl (by first | omega | exact bI_r _ | exact iI_r _) (fun h_4 => ?_) (fun h_4 => by exfalso; omega)
        refine s_aload_n 9 dX12_newName_8 rfl rfl ?_
        refine s_callV0 (M' := M_X12_mustName) (as := []) 12 dX12_newName_9 rfl cw_X12_164 rfl rfl sh_138 rfl (by decide) (Nat.le_of_ble_eq_true rfl) (Nat.le_of_ble_eq_true rfl) (Nat.le_of_ble_eq_true rfl) (Nat.le_of_ble_eq_true rfl) ⟨rfl, rfl, rfl⟩ ?_
        refine c_X12_mustName hT hS (fun I1 q1 q2 => ?_)
        rw [mnW_t hm] at q2
        refine s_aload_n 13 dX12_newName_12 rfl rfl ?_
        refine s_getI 16 dX12_newName_13 rfl fl_X12_119 (fun _ _ _ _ => rfl) sh_138 (Nat.le_of_ble_eq_true rfl) (fun r_13 => ?_)
        rw [q2.ok]
        refine s_if_ne 35 19 dX12_newName_16 rfl rfl (by first | omega | exact bI_r _ | exact iI_r _) (fun h_16 => by exfalso; omega) (fun h_16 => ?_)
        refine s_aload_n 20 dX12_newName_19 rfl rfl ?_
        refine s_callV0 (M' := M_X12_find) (as := []) 23 dX12_newName_20 rfl cw_X12_167 rfl rfl sh_138 rfl (by decide) (Nat.le_of_ble_eq_true rfl) (Nat.le_of_ble_eq_true rfl) (Nat.le_of_ble_eq_true rfl) (Nat.le_of_ble_eq_true rfl) ⟨rfl, rfl, rfl⟩ ?_
        refine c_X12_find2 hT q2 ht ?_
        refine s_if_lt 35 26 dX12_newName_23 rfl rfl (by have := fiF_b r (wdE bt n a); omega) (fun h_23 => ?_) (fun h_23 => by exfalso; omega)
        refine s_aload_n 36 dX12_newName_35 rfl rfl ?_
        refine s_getI 39 dX12_newName_36 rfl fl_X12_119 (fun _ _ _ _ => rfl) sh_138 (Nat.le_of_ble_eq_true rfl) (fun r_36 => ?_)
        rw [q2.ok]
        refine s_if_eq 43 42 dX12_newName_39 rfl rfl (by first | omega | exact bI_r _ | exact iI_r _) (fun h_39 => ?_) (fun h_39 => by exfalso; omega)
        refine s_iconst 44 dX12_newName_43 rfl ?_
        refine s_istore_n (ls' := [_, _, _]) 45 dX12_newName_44 rfl (Nat.le_of_ble_eq_true rfl) rfl rfl ?_
        refine loop (enE bt n a - a + 1).toNat 0 I1 (by have := (q2.wd ht).1; omega) (by omega) (by have := (q2.wd ht).1; omega) q1 ?_
        have e : (fun k => if 185 + 8 * p ≤ k ∧ k < 185 + 8 * p + 0 then vL (wdE bt n a) (k - (185 + 8 * p)) else r k) = r := by
          funext k; rw [if_neg (by omega)]
        rw [e]; exact q2
      · have eo : nnO bt n r (.inr a) = .inl (3, a) := (pick_t hm).trans (pick_f hf)
        have er : nnR bt n r p (.inr a) = r := pick_f (fun z => hf z.2)
        rw [eo, er] at h
        refine s_aload_n 1 dX12_newName_0 rfl rfl ?_
        refine s_getI 4 dX12_newName_1 rfl fl_X12_119 (fun _ _ _ _ => rfl) sh_138 (Nat.le_of_ble_eq_true rfl) (fun r_1 => ?_)
        rw [e0]
        refine s_if_eq 8 7 dX12_newName_4 rfl rfl (by first | omega | exact bI_r _ | exact iI_r _) (fun h_4 => ?_) (fun h_4 => by exfalso; omega)
        refine s_aload_n 9 dX12_newName_8 rfl rfl ?_
        refine s_callV0 (M' := M_X12_mustName) (as := []) 12 dX12_newName_9 rfl cw_X12_164 rfl rfl sh_138 rfl (by decide) (Nat.le_of_ble_eq_true rfl) (Nat.le_of_ble_eq_true rfl) (Nat.le_of_ble_eq_true rfl) (Nat.le_of_ble_eq_true rfl) ⟨rfl, rfl, rfl⟩ ?_
        refine c_X12_mustName hT hS (fun I1 q1 q2 => ?_)
        rw [mnW_t hm] at q2
        refine s_aload_n 13 dX12_newName_12 rfl rfl ?_
        refine s_getI 16 dX12_newName_13 rfl fl_X12_119 (fun _ _ _ _ => rfl) sh_138 (Nat.le_of_ble_eq_true rfl) (fun r_13 => ?_)
        rw [q2.ok]
        refine s_if_ne 35 19 dX12_newName_16 rfl rfl (by first | omega | exact bI_r _ | exact iI_r _) (fun h_16 => by exfalso; omega) (fun h_16 => ?_)
        refine s_aload_n 20 dX12_newName_19 rfl rfl ?_
        refine s_callV0 (M' := M_X12_find) (as := []) 23 dX12_newName_20 rfl cw_X12_167 rfl rfl sh_138 rfl (by decide) (Nat.le_of_ble_eq_true rfl) (Nat.le_of_ble_eq_true rfl) (Nat.le_of_ble_eq_true rfl) (Nat.le_of_ble_eq_true rfl) ⟨rfl, rfl, rfl⟩ ?_
        refine c_X12_find2 hT q2 ht ?_
        refine s_if_lt 35 26 dX12_newName_23 rfl rfl (by have := fiF_b r (wdE bt n a); omega) (fun h_23 => by exfalso; omega) (fun h_23 => ?_)
        refine s_aload_n 27 dX12_newName_26 rfl rfl ?_
        refine s_iconst 28 dX12_newName_27 rfl ?_
        refine s_aload_n 29 dX12_newName_28 rfl rfl ?_
        refine s_getI 32 dX12_newName_29 rfl fl_X12_100 (fun _ _ _ _ => rfl) sh_138 (Nat.le_of_ble_eq_true rfl) (fun r_29 => ?_)
        refine s_callV0 (M' := M_X12_wrong) (as := [_, _]) 35 dX12_newName_32 rfl cw_X12_146 rfl rfl sh_138 rfl (by decide) (Nat.le_of_ble_eq_true rfl) (Nat.le_of_ble_eq_true rfl) (Nat.le_of_ble_eq_true rfl) (Nat.le_of_ble_eq_true rfl) ⟨rfl, rfl, rfl⟩ ?_
        refine c_X12_wrong q2 q2.at2 (by decide) (by omega) (fun I2 p1 p2 => ?_)
        have p2 : RSt I2 bt n r (.inl (3, a)) := p2
        refine s_aload_n 36 dX12_newName_35 rfl rfl ?_
        refine s_getI 39 dX12_newName_36 rfl fl_X12_119 (fun _ _ _ _ => rfl) sh_138 (Nat.le_of_ble_eq_true rfl) (fun r_36 => ?_)
        rw [p2.no]
        refine s_if_eq 43 42 dX12_newName_39 rfl rfl (by first | omega | exact bI_r _ | exact iI_r _) (fun h_39 => by exfalso; omega) (fun h_39 => ?_)
        refine s_vret dX12_newName_42 rfl rfl ?_
        exact h I2 (q1.tr p1) p2
    · have eo : nnO bt n r (.inr a) = .inl (1, a) := pick_f hm
      have er : nnR bt n r p (.inr a) = r := pick_f (fun z => hm z.1)
      rw [eo, er] at h
      refine s_aload_n 1 dX12_newName_0 rfl rfl ?_
      refine s_getI 4 dX12_newName_1 rfl fl_X12_119 (fun _ _ _ _ => rfl) sh_138 (Nat.le_of_ble_eq_true rfl) (fun r_1 => ?_)
      rw [e0]
      refine s_if_eq 8 7 dX12_newName_4 rfl rfl (by first | omega | exact bI_r _ | exact iI_r _) (fun h_4 => ?_) (fun h_4 => by exfalso; omega)
      refine s_aload_n 9 dX12_newName_8 rfl rfl ?_
      refine s_callV0 (M' := M_X12_mustName) (as := []) 12 dX12_newName_9 rfl cw_X12_164 rfl rfl sh_138 rfl (by decide) (Nat.le_of_ble_eq_true rfl) (Nat.le_of_ble_eq_true rfl) (Nat.le_of_ble_eq_true rfl) (Nat.le_of_ble_eq_true rfl) ⟨rfl, rfl, rfl⟩ ?_
      refine c_X12_mustName hT hS (fun I1 q1 q2 => ?_)
      rw [mnW_f hm] at q2
      refine s_aload_n 13 dX12_newName_12 rfl rfl ?_
      refine s_getI 16 dX12_newName_13 rfl fl_X12_119 (fun _ _ _ _ => rfl) sh_138 (Nat.le_of_ble_eq_true rfl) (fun r_13 => ?_)
      rw [q2.no]
      refine s_if_ne 35 19 dX12_newName_16 rfl rfl (by first | omega | exact bI_r _ | exact iI_r _) (fun h_16 => ?_) (fun h_16 => by exfalso; omega)
      refine s_aload_n 36 dX12_newName_35 rfl rfl ?_
      refine s_getI 39 dX12_newName_36 rfl fl_X12_119 (fun _ _ _ _ => rfl) sh_138 (Nat.le_of_ble_eq_true rfl) (fun r_36 => ?_)
      rw [q2.no]
      refine s_if_eq 43 42 dX12_newName_39 rfl rfl (by first | omega | exact bI_r _ | exact iI_r _) (fun h_39 => by exfalso; omega) (fun h_39 => ?_)
      refine s_vret dX12_newName_42 rfl rfl ?_
      exact h I1 q1 q2
noncomputable def naO (bt : F1) (n : Int) (r : F1) (B : Prop) (o : PO) : PO := match o with
  | .inl q => .inl q
  | .inr a => pick (nmP bt n a) (pick (0 ≤ fiF r (wdE bt n a) ∧ (B ↔ fiF r (wdE bt n a) < 7)) (.inr a) (.inl (2, a))) (.inl (1, a))
noncomputable def naV (bt : F1) (n : Int) (r : F1) (B : Prop) (o : PO) : Int := match o with
  | .inl _ => 0
  | .inr a => pick (nmP bt n a ∧ 0 ≤ fiF r (wdE bt n a) ∧ (B ↔ fiF r (wdE bt n a) < 7)) (pick B (fiF r (wdE bt n a)) (fiF r (wdE bt n a) - 7)) 0
theorem naV_b (bt : F1) (n : Int) (r : F1) (B : Prop) (o : PO) : 0 ≤ naV bt n r B o ∧ naV bt n r B o ≤ 6 ∧ (¬ B → naV bt n r B o ≤ 4) := by
  cases o with
  | inl q => exact ⟨Int.le_refl _, show (0 : Int) ≤ 6 by decide, fun _ => show (0 : Int) ≤ 4 by decide⟩
  | inr a =>
    have hb := fiF_b r (wdE bt n a)
    by_cases h : nmP bt n a ∧ 0 ≤ fiF r (wdE bt n a) ∧ (B ↔ fiF r (wdE bt n a) < 7)
    · have e : naV bt n r B (.inr a) = pick B (fiF r (wdE bt n a)) (fiF r (wdE bt n a) - 7) := pick_t h
      rw [e]
      by_cases z : B
      · rw [pick_t z]
        have := h.2.2.mp z
        exact ⟨h.2.1, by omega, fun y => absurd z y⟩
      · rw [pick_f z]
        have : ¬ fiF r (wdE bt n a) < 7 := fun y => z (h.2.2.mpr y)
        exact ⟨by omega, by omega, fun _ => by omega⟩
    · have e : naV bt n r B (.inr a) = 0 := pick_f h
      rw [e]; exact ⟨by omega, by omega, fun _ => by omega⟩
set_option maxHeartbeats 4000000 in
theorem c_X12_named {E : ET} {I : MI} {L : ML} {R : MR} {Q : Option AV → MI → ML → MR → Prop} {bt r : F1} {n : Int} {o : PO} {B : Prop} (hT : Topo R) (hS : RSt I bt n r o) (h : ∀ I', RFr I I' → RSt I' bt n r (naO bt n r B o) → Q (some (vi (naV bt n r B o))) I' L R) : CT E M_X12_named 161 yX12_named [(vr (138)), (vi (bI B))] I L R Q := by
  refine CT_of rfl rfl (fun h => by cases h) (Nat.le_of_ble_eq_true rfl) (fun X => ?_)
  show V X _ z0 0 [some (vr (138)), some (vi (bI B)), none] [] I L R _
  cases o with
  | inl q =>
    refine s_aload_n 1 dX12_named_0 rfl rfl ?_
    refine s_getI 4 dX12_named_1 rfl fl_X12_119 (fun _ _ _ _ => rfl) sh_138 (Nat.le_of_ble_eq_true rfl) (fun r_1 => ?_)
    rw [hS.no]
    refine s_if_eq 9 7 dX12_named_4 rfl rfl (by first | omega | exact bI_r _ | exact iI_r _) (fun h_4 => by exfalso; omega) (fun h_4 => ?_)
    refine s_iconst 8 dX12_named_7 rfl ?_
    refine s_iret dX12_named_8 rfl rfl ?_
    exact h I RFr.rf hS
  | inr a =>
    have e0 := hS.ok
    have hb := fiF_b r (wdE bt n a)
    by_cases hm : nmP bt n a
    · have ht := hm.1
      by_cases hf : 0 ≤ fiF r (wdE bt n a) ∧ (B ↔ fiF r (wdE bt n a) < 7)
      · have eo : naO bt n r B (.inr a) = .inr a := (pick_t hm).trans (pick_t hf)
        have ev : naV bt n r B (.inr a) = pick B (fiF r (wdE bt n a)) (fiF r (wdE bt n a) - 7) := pick_t ⟨hm, hf⟩
        rw [eo, ev] at h
        by_cases z : B
        · have z7 := hf.2.mp z
          rw [pick_t z] at h
          rw [bI_t z]
          refine s_aload_n 1 dX12_named_0 rfl rfl ?_
          refine s_getI 4 dX12_named_1 rfl fl_X12_119 (fun _ _ _ _ => rfl) sh_138 (Nat.le_of_ble_eq_true rfl) (fun r_1 => ?_)
          rw [e0]
          refine s_if_eq 9 7 dX12_named_4 rfl rfl (by first | omega | exact bI_r _ | exact iI_r _) (fun h_4 => ?_) (fun h_4 => by exfalso; omega)
          refine s_aload_n 10 dX12_named_9 rfl rfl ?_
          refine s_callV0 (M' := M_X12_mustName) (as := []) 13 dX12_named_10 rfl cw_X12_164 rfl rfl sh_138 rfl (by decide) (Nat.le_of_ble_eq_true rfl) (Nat.le_of_ble_eq_true rfl) (Nat.le_of_ble_eq_true rfl) (Nat.le_of_ble_eq_true rfl) ⟨rfl, rfl, rfl⟩ ?_
          refine c_X12_mustName hT hS (fun I1 q1 q2 => ?_)
          rw [mnW_t hm] at q2
          refine s_aload_n 14 dX12_named_13 rfl rfl ?_
          refine s_getI 17 dX12_named_14 rfl fl_X12_119 (fun _ _ _ _ => rfl) sh_138 (Nat.le_of_ble_eq_true rfl) (fun r_14 => ?_)
          rw [q2.ok]
          refine s_if_eq 22 20 dX12_named_17 rfl rfl (by first | omega | exact bI_r _ | exact iI_r _) (fun h_17 => ?_) (fun h_17 => by exfalso; omega)
          refine s_aload_n 23 dX12_named_22 rfl rfl ?_
          refine s_callV0 (M' := M_X12_find) (as := []) 26 dX12_named_23 rfl cw_X12_167 rfl rfl sh_138 rfl (by decide) (Nat.le_of_ble_eq_true rfl) (Nat.le_of_ble_eq_true rfl) (Nat.le_of_ble_eq_true rfl) (Nat.le_of_ble_eq_true rfl) ⟨rfl, rfl, rfl⟩ ?_
          refine c_X12_find2 hT q2 ht ?_
          refine s_istore_n (ls' := [_, _, _]) 27 dX12_named_26 rfl (Nat.le_of_ble_eq_true rfl) rfl rfl ?_
          refine s_iload_n 28 dX12_named_27 rfl rfl ?_
          refine s_if_lt 46 31 dX12_named_28 rfl rfl (by first | omega | exact bI_r _ | exact iI_r _) (fun h_28 => by exfalso; omega) (fun h_28 => ?_)
          refine s_iload_n 32 dX12_named_31 rfl rfl ?_
          refine s_iload_n 33 dX12_named_32 rfl rfl ?_
          refine s_bipush 35 dX12_named_33 rfl (by decide) ?_
          refine s_icmp_ge 42 38 dX12_named_35 rfl rfl (by first | omega | exact bI_r _ | exact iI_r _) (by first | omega | exact bI_r _ | exact iI_r _) (fun h_35 => by exfalso; omega) (fun h_35 => ?_)
          refine s_iconst 39 dX12_named_38 rfl ?_
          refine s_goto 43 dX12_named_39 rfl ?_
          refine s_icmp_eq 55 46 dX12_named_43 rfl rfl (by first | omega | exact bI_r _ | exact iI_r _) (by first | omega | exact bI_r _ | exact iI_r _) (fun h_43 => ?_) (fun h_43 => by exfalso; omega)
          refine s_aload_n 56 dX12_named_55 rfl rfl ?_
          refine s_getI 59 dX12_named_56 rfl fl_X12_119 (fun _ _ _ _ => rfl) sh_138 (Nat.le_of_ble_eq_true rfl) (fun r_56 => ?_)
          rw [q2.ok]
          refine s_if_eq 66 62 dX12_named_59 rfl rfl (by first | omega | exact bI_r _ | exact iI_r _) (fun h_59 => ?_) (fun h_59 => by exfalso; omega)
          refine s_iload_n 67 dX12_named_66 rfl rfl ?_
          refine s_if_eq 74 70 dX12_named_67 rfl rfl (by first | omega | exact bI_r _ | exact iI_r _) (fun h_67 => by exfalso; omega) (fun h_67 => ?_)
          refine s_iload_n 71 dX12_named_70 rfl rfl ?_
          refine s_goto 78 dX12_named_71 rfl ?_
          refine s_iret dX12_named_78 rfl rfl ?_
          exact h I1 q1 q2
        · have z7 : ¬ fiF r (wdE bt n a) < 7 := fun y => z (hf.2.mpr y)
          rw [pick_f z] at h
          rw [bI_f z]
          refine s_aload_n 1 dX12_named_0 rfl rfl ?_
          refine s_getI 4 dX12_named_1 rfl fl_X12_119 (fun _ _ _ _ => rfl) sh_138 (Nat.le_of_ble_eq_true rfl) (fun r_1 => ?_)
          rw [e0]
          refine s_if_eq 9 7 dX12_named_4 rfl rfl (by first | omega | exact bI_r _ | exact iI_r _) (fun h_4 => ?_) (fun h_4 => by exfalso; omega)
          refine s_aload_n 10 dX12_named_9 rfl rfl ?_
          refine s_callV0 (M' := M_X12_mustName) (as := []) 13 dX12_named_10 rfl cw_X12_164 rfl rfl sh_138 rfl (by decide) (Nat.le_of_ble_eq_true rfl) (Nat.le_of_ble_eq_true rfl) (Nat.le_of_ble_eq_true rfl) (Nat.le_of_ble_eq_true rfl) ⟨rfl, rfl, rfl⟩ ?_
          refine c_X12_mustName hT hS (fun I1 q1 q2 => ?_)
          rw [mnW_t hm] at q2
          refine s_aload_n 14 dX12_named_13 rfl rfl ?_
          refine s_getI 17 dX12_named_14 rfl fl_X12_119 (fun _ _ _ _ => rfl) sh_138 (Nat.le_of_ble_eq_true rfl) (fun r_14 => ?_)
          rw [q2.ok]
          refine s_if_eq 22 20 dX12_named_17 rfl rfl (by first | omega | exact bI_r _ | exact iI_r _) (fun h_17 => ?_) (fun h_17 => by exfalso; omega)
          refine s_aload_n 23 dX12_named_22 rfl rfl ?_
          refine s_callV0 (M' := M_X12_find) (as := []) 26 dX12_named_23 rfl cw_X12_167 rfl rfl sh_138 rfl (by decide) (Nat.le_of_ble_eq_true rfl) (Nat.le_of_ble_eq_true rfl) (Nat.le_of_ble_eq_true rfl) (Nat.le_of_ble_eq_true rfl) ⟨rfl, rfl, rfl⟩ ?_
          refine c_X12_find2 hT q2 ht ?_
          refine s_istore_n (ls' := [_, _, _]) 27 dX12_named_26 rfl (Nat.le_of_ble_eq_true rfl) rfl rfl ?_
          refine s_iload_n 28 dX12_named_27 rfl rfl ?_
          refine s_if_lt 46 31 dX12_named_28 rfl rfl (by first | omega | exact bI_r _ | exact iI_r _) (fun h_28 => by exfalso; omega) (fun h_28 => ?_)
          refine s_iload_n 32 dX12_named_31 rfl rfl ?_
          refine s_iload_n 33 dX12_named_32 rfl rfl ?_
          refine s_bipush 35 dX12_named_33 rfl (by decide) ?_
          refine s_icmp_ge 42 38 dX12_named_35 rfl rfl (by first | omega | exact bI_r _ | exact iI_r _) (by first | omega | exact bI_r _ | exact iI_r _) (fun h_35 => ?_) (fun h_35 => by exfalso; omega)
          refine s_iconst 43 dX12_named_42 rfl ?_
          refine s_icmp_eq 55 46 dX12_named_43 rfl rfl (by first | omega | exact bI_r _ | exact iI_r _) (by first | omega | exact bI_r _ | exact iI_r _) (fun h_43 => ?_) (fun h_43 => by exfalso; omega)
          refine s_aload_n 56 dX12_named_55 rfl rfl ?_
          refine s_getI 59 dX12_named_56 rfl fl_X12_119 (fun _ _ _ _ => rfl) sh_138 (Nat.le_of_ble_eq_true rfl) (fun r_56 => ?_)
          rw [q2.ok]
          refine s_if_eq 66 62 dX12_named_59 rfl rfl (by first | omega | exact bI_r _ | exact iI_r _) (fun h_59 => ?_) (fun h_59 => by exfalso; omega)
          refine s_iload_n 67 dX12_named_66 rfl rfl ?_
          refine s_if_eq 74 70 dX12_named_67 rfl rfl (by first | omega | exact bI_r _ | exact iI_r _) (fun h_67 => ?_) (fun h_67 => by exfalso; omega)
          refine s_iload_n 75 dX12_named_74 rfl rfl ?_
          refine s_bipush 77 dX12_named_75 rfl (by decide) ?_
          refine s_isub 78 dX12_named_77 rfl ?_
          refine s_iret dX12_named_78 rfl rfl ?_
          exact h I1 q1 q2
      · have eo : naO bt n r B (.inr a) = .inl (2, a) := (pick_t hm).trans (pick_f hf)
        have ev : naV bt n r B (.inr a) = 0 := pick_f (fun z => hf z.2)
        rw [eo, ev] at h
        have hB : (bI B = 1 ∧ B) ∨ (bI B = 0 ∧ ¬ B) := (Classical.em B).elim (fun z => Or.inl ⟨bI_t z, z⟩) (fun z => Or.inr ⟨bI_f z, z⟩)
        refine s_aload_n 1 dX12_named_0 rfl rfl ?_
        refine s_getI 4 dX12_named_1 rfl fl_X12_119 (fun _ _ _ _ => rfl) sh_138 (Nat.le_of_ble_eq_true rfl) (fun r_1 => ?_)
        rw [e0]
        refine s_if_eq 9 7 dX12_named_4 rfl rfl (by first | omega | exact bI_r _ | exact iI_r _) (fun h_4 => ?_) (fun h_4 => by exfalso; omega)
        refine s_aload_n 10 dX12_named_9 rfl rfl ?_
        refine s_callV0 (M' := M_X12_mustName) (as := []) 13 dX12_named_10 rfl cw_X12_164 rfl rfl sh_138 rfl (by decide) (Nat.le_of_ble_eq_true rfl) (Nat.le_of_ble_eq_true rfl) (Nat.le_of_ble_eq_true rfl) (Nat.le_of_ble_eq_true rfl) ⟨rfl, rfl, rfl⟩ ?_
        refine c_X12_mustName hT hS (fun I1 q1 q2 => ?_)
        rw [mnW_t hm] at q2
        refine s_aload_n 14 dX12_named_13 rfl rfl ?_
        refine s_getI 17 dX12_named_14 rfl fl_X12_119 (fun _ _ _ _ => rfl) sh_138 (Nat.le_of_ble_eq_true rfl) (fun r_14 => ?_)
        rw [q2.ok]
        refine s_if_eq 22 20 dX12_named_17 rfl rfl (by first | omega | exact bI_r _ | exact iI_r _) (fun h_17 => ?_) (fun h_17 => by exfalso; omega)
        refine s_aload_n 23 dX12_named_22 rfl rfl ?_
        refine s_callV0 (M' := M_X12_find) (as := []) 26 dX12_named_23 rfl cw_X12_167 rfl rfl sh_138 rfl (by decide) (Nat.le_of_ble_eq_true rfl) (Nat.le_of_ble_eq_true rfl) (Nat.le_of_ble_eq_true rfl) (Nat.le_of_ble_eq_true rfl) ⟨rfl, rfl, rfl⟩ ?_
        refine c_X12_find2 hT q2 ht ?_
        refine s_istore_n (ls' := [_, _, _]) 27 dX12_named_26 rfl (Nat.le_of_ble_eq_true rfl) rfl rfl ?_
        refine s_iload_n 28 dX12_named_27 rfl rfl ?_
        refine s_if_lt 46 31 dX12_named_28 rfl rfl (by first | omega | exact bI_r _ | exact iI_r _) (fun h_28 => ?_) (fun h_28 => ?_)
        · skip
          refine s_aload_n 47 dX12_named_46 rfl rfl ?_
          refine s_iconst 48 dX12_named_47 rfl ?_
          refine s_aload_n 49 dX12_named_48 rfl rfl ?_
          refine s_getI 52 dX12_named_49 rfl fl_X12_100 (fun _ _ _ _ => rfl) sh_138 (Nat.le_of_ble_eq_true rfl) (fun r_49 => ?_)
          refine s_callV0 (M' := M_X12_wrong) (as := [_, _]) 55 dX12_named_52 rfl cw_X12_146 rfl rfl sh_138 rfl (by decide) (Nat.le_of_ble_eq_true rfl) (Nat.le_of_ble_eq_true rfl) (Nat.le_of_ble_eq_true rfl) (Nat.le_of_ble_eq_true rfl) ⟨rfl, rfl, rfl⟩ ?_
          refine c_X12_wrong q2 q2.at2 (by decide) (by omega) (fun I2 p1 p2 => ?_)
          have p2 : RSt I2 bt n r (.inl (2, a)) := p2
          refine s_aload_n 56 dX12_named_55 rfl rfl ?_
          refine s_getI 59 dX12_named_56 rfl fl_X12_119 (fun _ _ _ _ => rfl) sh_138 (Nat.le_of_ble_eq_true rfl) (fun r_56 => ?_)
          rw [p2.no]
          refine s_if_eq 66 62 dX12_named_59 rfl rfl (by first | omega | exact bI_r _ | exact iI_r _) (fun h_59 => by exfalso; omega) (fun h_59 => ?_)
          refine s_iconst 63 dX12_named_62 rfl ?_
          refine s_goto 78 dX12_named_63 rfl ?_
          refine s_iret dX12_named_78 rfl rfl ?_
          exact h I2 (q1.tr p1) p2
        refine s_iload_n 32 dX12_named_31 rfl rfl ?_
        refine s_iload_n 33 dX12_named_32 rfl rfl ?_
        refine s_bipush 35 dX12_named_33 rfl (by decide) ?_
        refine s_icmp_ge 42 38 dX12_named_35 rfl rfl (by first | omega | exact bI_r _ | exact iI_r _) (by first | omega | exact bI_r _ | exact iI_r _) (fun h_35 => ?_) (fun h_35 => ?_)
        · skip
          refine s_iconst 43 dX12_named_42 rfl ?_
          refine s_icmp_eq 55 46 dX12_named_43 rfl rfl (by first | omega | exact bI_r _) (by first | omega | exact bI_r _) (fun h_43 => by exfalso; (rcases hB with ⟨y, z⟩ | ⟨y, z⟩ <;> first | omega | exact hf ⟨by omega, ⟨fun _ => by omega, fun _ => z⟩⟩ | exact hf ⟨by omega, ⟨fun q => absurd q z, fun _ => by omega⟩⟩)) (fun h_43 => ?_)
          refine s_aload_n 47 dX12_named_46 rfl rfl ?_
          refine s_iconst 48 dX12_named_47 rfl ?_
          refine s_aload_n 49 dX12_named_48 rfl rfl ?_
          refine s_getI 52 dX12_named_49 rfl fl_X12_100 (fun _ _ _ _ => rfl) sh_138 (Nat.le_of_ble_eq_true rfl) (fun r_49 => ?_)
          refine s_callV0 (M' := M_X12_wrong) (as := [_, _]) 55 dX12_named_52 rfl cw_X12_146 rfl rfl sh_138 rfl (by decide) (Nat.le_of_ble_eq_true rfl) (Nat.le_of_ble_eq_true rfl) (Nat.le_of_ble_eq_true rfl) (Nat.le_of_ble_eq_true rfl) ⟨rfl, rfl, rfl⟩ ?_
          refine c_X12_wrong q2 q2.at2 (by decide) (by omega) (fun I2 p1 p2 => ?_)
          have p2 : RSt I2 bt n r (.inl (2, a)) := p2
          refine s_aload_n 56 dX12_named_55 rfl rfl ?_
          refine s_getI 59 dX12_named_56 rfl fl_X12_119 (fun _ _ _ _ => rfl) sh_138 (Nat.le_of_ble_eq_true rfl) (fun r_56 => ?_)
          rw [p2.no]
          refine s_if_eq 66 62 dX12_named_59 rfl rfl (by first | omega | exact bI_r _ | exact iI_r _) (fun h_59 => by exfalso; omega) (fun h_59 => ?_)
          refine s_iconst 63 dX12_named_62 rfl ?_
          refine s_goto 78 dX12_named_63 rfl ?_
          refine s_iret dX12_named_78 rfl rfl ?_
          exact h I2 (q1.tr p1) p2
        refine s_iconst 39 dX12_named_38 rfl ?_
        refine s_goto 43 dX12_named_39 rfl ?_
        refine s_icmp_eq 55 46 dX12_named_43 rfl rfl (by first | omega | exact bI_r _) (by first | omega | exact bI_r _) (fun h_43 => by exfalso; (rcases hB with ⟨y, z⟩ | ⟨y, z⟩ <;> first | omega | exact hf ⟨by omega, ⟨fun _ => by omega, fun _ => z⟩⟩ | exact hf ⟨by omega, ⟨fun q => absurd q z, fun _ => by omega⟩⟩)) (fun h_43 => ?_)
        refine s_aload_n 47 dX12_named_46 rfl rfl ?_
        refine s_iconst 48 dX12_named_47 rfl ?_
        refine s_aload_n 49 dX12_named_48 rfl rfl ?_
        refine s_getI 52 dX12_named_49 rfl fl_X12_100 (fun _ _ _ _ => rfl) sh_138 (Nat.le_of_ble_eq_true rfl) (fun r_49 => ?_)
        refine s_callV0 (M' := M_X12_wrong) (as := [_, _]) 55 dX12_named_52 rfl cw_X12_146 rfl rfl sh_138 rfl (by decide) (Nat.le_of_ble_eq_true rfl) (Nat.le_of_ble_eq_true rfl) (Nat.le_of_ble_eq_true rfl) (Nat.le_of_ble_eq_true rfl) ⟨rfl, rfl, rfl⟩ ?_
        refine c_X12_wrong q2 q2.at2 (by decide) (by omega) (fun I2 p1 p2 => ?_)
        have p2 : RSt I2 bt n r (.inl (2, a)) := p2
        refine s_aload_n 56 dX12_named_55 rfl rfl ?_
        refine s_getI 59 dX12_named_56 rfl fl_X12_119 (fun _ _ _ _ => rfl) sh_138 (Nat.le_of_ble_eq_true rfl) (fun r_56 => ?_)
        rw [p2.no]
        refine s_if_eq 66 62 dX12_named_59 rfl rfl (by first | omega | exact bI_r _ | exact iI_r _) (fun h_59 => by exfalso; omega) (fun h_59 => ?_)
        refine s_iconst 63 dX12_named_62 rfl ?_
        refine s_goto 78 dX12_named_63 rfl ?_
        refine s_iret dX12_named_78 rfl rfl ?_
        exact h I2 (q1.tr p1) p2
    · have eo : naO bt n r B (.inr a) = .inl (1, a) := pick_f hm
      have ev : naV bt n r B (.inr a) = 0 := pick_f (fun z => hm z.1)
      rw [eo, ev] at h
      refine s_aload_n 1 dX12_named_0 rfl rfl ?_
      refine s_getI 4 dX12_named_1 rfl fl_X12_119 (fun _ _ _ _ => rfl) sh_138 (Nat.le_of_ble_eq_true rfl) (fun r_1 => ?_)
      rw [e0]
      refine s_if_eq 9 7 dX12_named_4 rfl rfl (by first | omega | exact bI_r _ | exact iI_r _) (fun h_4 => ?_) (fun h_4 => by exfalso; omega)
      refine s_aload_n 10 dX12_named_9 rfl rfl ?_
      refine s_callV0 (M' := M_X12_mustName) (as := []) 13 dX12_named_10 rfl cw_X12_164 rfl rfl sh_138 rfl (by decide) (Nat.le_of_ble_eq_true rfl) (Nat.le_of_ble_eq_true rfl) (Nat.le_of_ble_eq_true rfl) (Nat.le_of_ble_eq_true rfl) ⟨rfl, rfl, rfl⟩ ?_
      refine c_X12_mustName hT hS (fun I1 q1 q2 => ?_)
      rw [mnW_f hm] at q2
      refine s_aload_n 14 dX12_named_13 rfl rfl ?_
      refine s_getI 17 dX12_named_14 rfl fl_X12_119 (fun _ _ _ _ => rfl) sh_138 (Nat.le_of_ble_eq_true rfl) (fun r_14 => ?_)
      rw [q2.no]
      refine s_if_eq 22 20 dX12_named_17 rfl rfl (by first | omega | exact bI_r _ | exact iI_r _) (fun h_17 => by exfalso; omega) (fun h_17 => ?_)
      refine s_iconst 21 dX12_named_20 rfl ?_
      refine s_iret dX12_named_21 rfl rfl ?_
      exact h I1 q1 q2
noncomputable def paO (bt : F1) (n : Int) (r : F1) (B : Prop) (o : PO) : PO := match naO bt n r B o with
  | .inl q => .inl q
  | .inr a => .inr (nxE bt n a)
set_option maxHeartbeats 4000000 in
theorem c_X12_passed {E : ET} {I : MI} {L : ML} {R : MR} {Q : Option AV → MI → ML → MR → Prop} {bt r : F1} {n : Int} {o : PO} {B : Prop} (hT : Topo R) (hn : 0 ≤ n ∧ n ≤ 900) (hb : ∀ k, 0 ≤ k → k < n → 0 ≤ bt k ∧ bt k ≤ 255) (hS : RSt I bt n r o) (h : ∀ I', RFr I I' → RSt I' bt n r (paO bt n r B o) → Q (some (vi (naV bt n r B o))) I' L R) : CT E M_X12_passed 161 yX12_passed [(vr (138)), (vi (bI B))] I L R Q := by
  refine CT_of rfl rfl (fun h => by cases h) (Nat.le_of_ble_eq_true rfl) (fun X => ?_)
  show V X _ z0 0 [some (vr (138)), some (vi (bI B)), none] [] I L R _
  cases ho : naO bt n r B o with
  | inl q =>
    have ep : paO bt n r B o = .inl q := by unfold paO; rw [ho]
    rw [ep] at h
    refine s_aload_n 1 dX12_passed_0 rfl rfl ?_
    refine s_iload_n 2 dX12_passed_1 rfl rfl ?_
    refine s_callV0 (M' := M_X12_named) (as := [_]) 5 dX12_passed_2 rfl cw_X12_170 rfl rfl sh_138 rfl (by decide) (Nat.le_of_ble_eq_true rfl) (Nat.le_of_ble_eq_true rfl) (Nat.le_of_ble_eq_true rfl) (Nat.le_of_ble_eq_true rfl) ⟨rfl, rfl, rfl⟩ ?_
    refine c_X12_named hT hS (fun I1 q1 q2 => ?_)
    rw [ho] at q2
    refine s_istore_n (ls' := [_, _, _]) 6 dX12_passed_5 rfl (Nat.le_of_ble_eq_true rfl) rfl rfl ?_
    refine s_aload_n 7 dX12_passed_6 rfl rfl ?_
    refine s_getI 10 dX12_passed_7 rfl fl_X12_119 (fun _ _ _ _ => rfl) sh_138 (Nat.le_of_ble_eq_true rfl) (fun r_7 => ?_)
    rw [q2.no]
    refine s_if_ne 17 13 dX12_passed_10 rfl rfl (by first | omega | exact bI_r _ | exact iI_r _) (fun h_10 => ?_) (fun h_10 => by exfalso; omega)
    refine s_iload_n 18 dX12_passed_17 rfl rfl ?_
    refine s_iret dX12_passed_18 rfl rfl ?_
    exact h I1 q1 q2
  | inr a =>
    have ep : paO bt n r B o = .inr (nxE bt n a) := by unfold paO; rw [ho]
    rw [ep] at h
    refine s_aload_n 1 dX12_passed_0 rfl rfl ?_
    refine s_iload_n 2 dX12_passed_1 rfl rfl ?_
    refine s_callV0 (M' := M_X12_named) (as := [_]) 5 dX12_passed_2 rfl cw_X12_170 rfl rfl sh_138 rfl (by decide) (Nat.le_of_ble_eq_true rfl) (Nat.le_of_ble_eq_true rfl) (Nat.le_of_ble_eq_true rfl) (Nat.le_of_ble_eq_true rfl) ⟨rfl, rfl, rfl⟩ ?_
    refine c_X12_named hT hS (fun I1 q1 q2 => ?_)
    rw [ho] at q2
    refine s_istore_n (ls' := [_, _, _]) 6 dX12_passed_5 rfl (Nat.le_of_ble_eq_true rfl) rfl rfl ?_
    refine s_aload_n 7 dX12_passed_6 rfl rfl ?_
    refine s_getI 10 dX12_passed_7 rfl fl_X12_119 (fun _ _ _ _ => rfl) sh_138 (Nat.le_of_ble_eq_true rfl) (fun r_7 => ?_)
    rw [q2.ok]
    refine s_if_ne 17 13 dX12_passed_10 rfl rfl (by first | omega | exact bI_r _ | exact iI_r _) (fun h_10 => by exfalso; omega) (fun h_10 => ?_)
    refine s_aload_n 14 dX12_passed_13 rfl rfl ?_
    refine s_callV0 (M' := M_X12_next) (as := []) 17 dX12_passed_14 rfl cw_X12_140 rfl rfl sh_138 rfl (by decide) (Nat.le_of_ble_eq_true rfl) (Nat.le_of_ble_eq_true rfl) (Nat.le_of_ble_eq_true rfl) (Nat.le_of_ble_eq_true rfl) ⟨rfl, rfl, rfl⟩ ?_
    refine c_X12_next2 hT hn hb q2 (fun I2 p1 p2 => ?_)
    refine s_iload_n 18 dX12_passed_17 rfl rfl ?_
    refine s_iret dX12_passed_18 rfl rfl ?_
    exact h I2 (q1.tr p1) p2
noncomputable def nuO (bt : F1) (n lo hi : Int) (o : PO) : PO := match o with
  | .inl q => .inl q
  | .inr a => pick (tkE bt n a = 3) (pick (lo ≤ nuE bt n a ∧ nuE bt n a ≤ hi) (.inr (nxE bt n a)) (.inl (4, a))) (.inl (1, a))
noncomputable def nuV (bt : F1) (n lo hi : Int) (o : PO) : Int := match o with
  | .inl _ => lo
  | .inr a => pick (tkE bt n a = 3 ∧ lo ≤ nuE bt n a ∧ nuE bt n a ≤ hi) (nuE bt n a) lo
theorem nuV_b (bt : F1) (n : Int) {lo hi : Int} (h : lo ≤ hi) (o : PO) : lo ≤ nuV bt n lo hi o ∧ nuV bt n lo hi o ≤ hi := by
  cases o with
  | inl q => exact ⟨Int.le_refl _, h⟩
  | inr a =>
    by_cases z : tkE bt n a = 3 ∧ lo ≤ nuE bt n a ∧ nuE bt n a ≤ hi
    · have e : nuV bt n lo hi (.inr a) = nuE bt n a := pick_t z
      rw [e]; exact z.2
    · have e : nuV bt n lo hi (.inr a) = lo := pick_f z
      rw [e]; exact ⟨Int.le_refl _, h⟩
set_option maxHeartbeats 4000000 in
theorem c_X12_number {E : ET} {I : MI} {L : ML} {R : MR} {Q : Option AV → MI → ML → MR → Prop} {bt r : F1} {n lo hi : Int} {o : PO} (hT : Topo R) (hn : 0 ≤ n ∧ n ≤ 900) (hb : ∀ k, 0 ≤ k → k < n → 0 ≤ bt k ∧ bt k ≤ 255) (hlo : -1000 ≤ lo ∧ lo ≤ 1000) (hhi : -1000 ≤ hi ∧ hi ≤ 1000) (hS : RSt I bt n r o) (h : ∀ I', RFr I I' → RSt I' bt n r (nuO bt n lo hi o) → Q (some (vi (nuV bt n lo hi o))) I' L R) : CT E M_X12_number 161 yX12_number [(vr (138)), (vi (lo)), (vi (hi))] I L R Q := by
  refine CT_of rfl rfl (fun h => by cases h) (Nat.le_of_ble_eq_true rfl) (fun X => ?_)
  show V X _ z0 0 [some (vr (138)), some (vi (lo)), some (vi (hi)), none] [] I L R _
  cases o with
  | inl q =>
    refine s_aload_n 1 dX12_number_0 rfl rfl ?_
    refine s_getI 4 dX12_number_1 rfl fl_X12_119 (fun _ _ _ _ => rfl) sh_138 (Nat.le_of_ble_eq_true rfl) (fun r_1 => ?_)
    rw [hS.no]
    refine s_if_eq 9 7 dX12_number_4 rfl rfl (by first | omega | exact bI_r _ | exact iI_r _) (fun h_4 => by exfalso; omega) (fun h_4 => ?_)
    refine s_iload_n 8 dX12_number_7 rfl rfl ?_
    refine s_iret dX12_number_8 rfl rfl ?_
    exact h I RFr.rf hS
  | inr a =>
    have e0 := hS.ok
    have e6 : I 138 6 = tkE bt n a := hS.2.2.2.2.2.2.2.2.1
    by_cases ht : tkE bt n a = 3
    · have e7 := hS.2.2.2.2.2.2.2.2.2.2 ht
      by_cases hf : lo ≤ nuE bt n a ∧ nuE bt n a ≤ hi
      · have eo : nuO bt n lo hi (.inr a) = .inr (nxE bt n a) := (pick_t ht).trans (pick_t hf)
        have ev : nuV bt n lo hi (.inr a) = nuE bt n a := pick_t ⟨ht, hf⟩
        rw [eo, ev] at h
        refine s_aload_n 1 dX12_number_0 rfl rfl ?_
        refine s_getI 4 dX12_number_1 rfl fl_X12_119 (fun _ _ _ _ => rfl) sh_138 (Nat.le_of_ble_eq_true rfl) (fun r_1 => ?_)
        rw [e0]
        refine s_if_eq 9 7 dX12_number_4 rfl rfl (by first | omega | exact bI_r _ | exact iI_r _) (fun h_4 => ?_) (fun h_4 => by exfalso; omega)
        refine s_aload_n 10 dX12_number_9 rfl rfl ?_
        refine s_getI 13 dX12_number_10 rfl fl_X12_109 (fun _ _ _ _ => rfl) sh_138 (Nat.le_of_ble_eq_true rfl) (fun r_10 => ?_)
        rw [e6]
        refine s_iconst 14 dX12_number_13 rfl ?_
        refine s_icmp_eq 28 17 dX12_number_14 rfl rfl (by first | omega | exact bI_r _ | exact iI_r _) (by first | omega | exact bI_r _ | exact iI_r _) (fun h_14 => ?_) (fun h_14 => by exfalso; omega)
        refine s_aload_n 29 dX12_number_28 rfl rfl ?_
        refine s_getI 32 dX12_number_29 rfl fl_X12_106 (fun _ _ _ _ => rfl) sh_138 (Nat.le_of_ble_eq_true rfl) (fun r_29 => ?_)
        rw [e7.1]
        refine s_istore_n (ls' := [_, _, _, _]) 33 dX12_number_32 rfl (Nat.le_of_ble_eq_true rfl) rfl rfl ?_
        refine s_iload_n 34 dX12_number_33 rfl rfl ?_
        refine s_iload_n 35 dX12_number_34 rfl rfl ?_
        refine s_iload_n 36 dX12_number_35 rfl rfl ?_
        refine s_callS0 (M' := M_X12_within) (as := [_, _, _]) 39 dX12_number_36 rfl cw_X12_174 rfl rfl (Nat.le_of_ble_eq_true rfl) (Nat.le_of_ble_eq_true rfl) (Nat.le_of_ble_eq_true rfl) ⟨rfl, rfl, rfl⟩ ?_
        refine c_X12_within (by omega) (by omega) (by omega) ?_
        refine s_ifb_ne 53 42 dX12_number_39 rfl rfl (fun h_39 => ?_) (fun h_39 => by exfalso; exact absurd hf h_39)
        refine s_aload_n 54 dX12_number_53 rfl rfl ?_
        refine s_callV0 (M' := M_X12_next) (as := []) 57 dX12_number_54 rfl cw_X12_140 rfl rfl sh_138 rfl (by decide) (Nat.le_of_ble_eq_true rfl) (Nat.le_of_ble_eq_true rfl) (Nat.le_of_ble_eq_true rfl) (Nat.le_of_ble_eq_true rfl) ⟨rfl, rfl, rfl⟩ ?_
        refine c_X12_next2 hT hn hb hS (fun I2 p1 p2 => ?_)
        refine s_iload_n 58 dX12_number_57 rfl rfl ?_
        refine s_iret dX12_number_58 rfl rfl ?_
        exact h I2 p1 p2
      · have eo : nuO bt n lo hi (.inr a) = .inl (4, a) := (pick_t ht).trans (pick_f hf)
        have ev : nuV bt n lo hi (.inr a) = lo := pick_f (fun z => hf z.2)
        rw [eo, ev] at h
        refine s_aload_n 1 dX12_number_0 rfl rfl ?_
        refine s_getI 4 dX12_number_1 rfl fl_X12_119 (fun _ _ _ _ => rfl) sh_138 (Nat.le_of_ble_eq_true rfl) (fun r_1 => ?_)
        rw [e0]
        refine s_if_eq 9 7 dX12_number_4 rfl rfl (by first | omega | exact bI_r _ | exact iI_r _) (fun h_4 => ?_) (fun h_4 => by exfalso; omega)
        refine s_aload_n 10 dX12_number_9 rfl rfl ?_
        refine s_getI 13 dX12_number_10 rfl fl_X12_109 (fun _ _ _ _ => rfl) sh_138 (Nat.le_of_ble_eq_true rfl) (fun r_10 => ?_)
        rw [e6]
        refine s_iconst 14 dX12_number_13 rfl ?_
        refine s_icmp_eq 28 17 dX12_number_14 rfl rfl (by first | omega | exact bI_r _ | exact iI_r _) (by first | omega | exact bI_r _ | exact iI_r _) (fun h_14 => ?_) (fun h_14 => by exfalso; omega)
        refine s_aload_n 29 dX12_number_28 rfl rfl ?_
        refine s_getI 32 dX12_number_29 rfl fl_X12_106 (fun _ _ _ _ => rfl) sh_138 (Nat.le_of_ble_eq_true rfl) (fun r_29 => ?_)
        rw [e7.1]
        refine s_istore_n (ls' := [_, _, _, _]) 33 dX12_number_32 rfl (Nat.le_of_ble_eq_true rfl) rfl rfl ?_
        refine s_iload_n 34 dX12_number_33 rfl rfl ?_
        refine s_iload_n 35 dX12_number_34 rfl rfl ?_
        refine s_iload_n 36 dX12_number_35 rfl rfl ?_
        refine s_callS0 (M' := M_X12_within) (as := [_, _, _]) 39 dX12_number_36 rfl cw_X12_174 rfl rfl (Nat.le_of_ble_eq_true rfl) (Nat.le_of_ble_eq_true rfl) (Nat.le_of_ble_eq_true rfl) ⟨rfl, rfl, rfl⟩ ?_
        refine c_X12_within (by omega) (by omega) (by omega) ?_
        refine s_ifb_ne 53 42 dX12_number_39 rfl rfl (fun h_39 => by exfalso; exact absurd h_39 hf) (fun h_39 => ?_)
        refine s_aload_n 43 dX12_number_42 rfl rfl ?_
        refine s_iconst 44 dX12_number_43 rfl ?_
        refine s_aload_n 45 dX12_number_44 rfl rfl ?_
        refine s_getI 48 dX12_number_45 rfl fl_X12_100 (fun _ _ _ _ => rfl) sh_138 (Nat.le_of_ble_eq_true rfl) (fun r_45 => ?_)
        refine s_callV0 (M' := M_X12_wrong) (as := [_, _]) 51 dX12_number_48 rfl cw_X12_146 rfl rfl sh_138 rfl (by decide) (Nat.le_of_ble_eq_true rfl) (Nat.le_of_ble_eq_true rfl) (Nat.le_of_ble_eq_true rfl) (Nat.le_of_ble_eq_true rfl) ⟨rfl, rfl, rfl⟩ ?_
        refine c_X12_wrong hS hS.at2 (by decide) (by omega) (fun I2 p1 p2 => ?_)
        refine s_iload_n 52 dX12_number_51 rfl rfl ?_
        refine s_iret dX12_number_52 rfl rfl ?_
        exact h I2 p1 p2
    · have eo : nuO bt n lo hi (.inr a) = .inl (1, a) := pick_f ht
      have ev : nuV bt n lo hi (.inr a) = lo := pick_f (fun z => ht z.1)
      rw [eo, ev] at h
      refine s_aload_n 1 dX12_number_0 rfl rfl ?_
      refine s_getI 4 dX12_number_1 rfl fl_X12_119 (fun _ _ _ _ => rfl) sh_138 (Nat.le_of_ble_eq_true rfl) (fun r_1 => ?_)
      rw [e0]
      refine s_if_eq 9 7 dX12_number_4 rfl rfl (by first | omega | exact bI_r _ | exact iI_r _) (fun h_4 => ?_) (fun h_4 => by exfalso; omega)
      refine s_aload_n 10 dX12_number_9 rfl rfl ?_
      refine s_getI 13 dX12_number_10 rfl fl_X12_109 (fun _ _ _ _ => rfl) sh_138 (Nat.le_of_ble_eq_true rfl) (fun r_10 => ?_)
      rw [e6]
      refine s_iconst 14 dX12_number_13 rfl ?_
      refine s_icmp_eq 28 17 dX12_number_14 rfl rfl (by first | omega | exact bI_r _ | exact iI_r _) (by first | omega | exact bI_r _ | exact iI_r _) (fun h_14 => by exfalso; omega) (fun h_14 => ?_)
      refine s_aload_n 18 dX12_number_17 rfl rfl ?_
      refine s_iconst 19 dX12_number_18 rfl ?_
      refine s_aload_n 20 dX12_number_19 rfl rfl ?_
      refine s_getI 23 dX12_number_20 rfl fl_X12_100 (fun _ _ _ _ => rfl) sh_138 (Nat.le_of_ble_eq_true rfl) (fun r_20 => ?_)
      refine s_callV0 (M' := M_X12_wrong) (as := [_, _]) 26 dX12_number_23 rfl cw_X12_146 rfl rfl sh_138 rfl (by decide) (Nat.le_of_ble_eq_true rfl) (Nat.le_of_ble_eq_true rfl) (Nat.le_of_ble_eq_true rfl) (Nat.le_of_ble_eq_true rfl) ⟨rfl, rfl, rfl⟩ ?_
      refine c_X12_wrong hS hS.at2 (by decide) (by omega) (fun I2 p1 p2 => ?_)
      refine s_iload_n 27 dX12_number_26 rfl rfl ?_
      refine s_iret dX12_number_27 rfl rfl ?_
      exact h I2 p1 p2
set_option maxHeartbeats 4000000 in
theorem c_X12_told {E : ET} {I : MI} {L : ML} {R : MR} {Q : Option AV → MI → ML → MR → Prop} {bt r : F1} {n lo hi : Int} {o : PO} {k : Nat} {q9 : ST0} (hT : Topo R) (hn : 0 ≤ n ∧ n ≤ 900) (hb : ∀ k, 0 ≤ k → k < n → 0 ≤ bt k ∧ bt k ≤ 255) (hk : STRS[k]? = some q9) (hlo : -1000 ≤ lo ∧ lo ≤ 1000) (hhi : -1000 ≤ hi ∧ hi ≤ 1000) (hS : RSt I bt n r o) (h : ∀ I', RFr I I' → RSt I' bt n r (nuO bt n lo hi (muW bt n (wS k) o)) → Q (some (vi (nuV bt n lo hi (muW bt n (wS k) o)))) I' L R) : CT E M_X12_told 161 yX12_told [(vr (138)), (vq 0 (k)), (vi (lo)), (vi (hi))] I L R Q := by
  refine CT_of rfl rfl (fun h => by cases h) (Nat.le_of_ble_eq_true rfl) (fun X => ?_)
  show V X _ z0 0 [some (vr (138)), some (vq 0 (k)), some (vi (lo)), some (vi (hi))] [] I L R _
  refine s_aload_n 1 dX12_told_0 rfl rfl ?_
  refine s_aloadq_n 2 dX12_told_1 rfl rfl ?_
  refine s_callV0 (M' := M_X12_must) (as := [_]) 5 dX12_told_2 rfl cw_X12_178 rfl rfl sh_138 rfl (by decide) (Nat.le_of_ble_eq_true rfl) (Nat.le_of_ble_eq_true rfl) (Nat.le_of_ble_eq_true rfl) (Nat.le_of_ble_eq_true rfl) ⟨rfl, rfl, rfl⟩ ?_
  refine c_X12_mustW hT hn hb hk hS (fun I1 q1 q2 => ?_)
  refine s_aload_n 6 dX12_told_5 rfl rfl ?_
  refine s_iload_n 7 dX12_told_6 rfl rfl ?_
  refine s_iload_n 8 dX12_told_7 rfl rfl ?_
  refine s_callV0 (M' := M_X12_number) (as := [_, _]) 11 dX12_told_8 rfl cw_X12_182 rfl rfl sh_138 rfl (by decide) (Nat.le_of_ble_eq_true rfl) (Nat.le_of_ble_eq_true rfl) (Nat.le_of_ble_eq_true rfl) (Nat.le_of_ble_eq_true rfl) ⟨rfl, rfl, rfl⟩ ?_
  refine c_X12_number hT hn hb hlo hhi q2 (fun I2 p1 p2 => ?_)
  refine s_iret dX12_told_11 rfl rfl ?_
  exact h I2 (q1.tr p1) p2
noncomputable def siO (bt : F1) (n : Int) (o : PO) : PO := match o with
  | .inl q => .inl q
  | .inr a => pick (isW bt n (wS 47) (.inr a)) (.inr (nxE bt n a)) (muW bt n (wS 48) (.inr a))
noncomputable def siV (bt : F1) (n : Int) (o : PO) : Int := match o with
  | .inl _ => 0
  | .inr a => pick (isW bt n (wS 47) (.inr a)) 0 1
theorem siV_b (bt : F1) (n : Int) (o : PO) : 0 ≤ siV bt n o ∧ siV bt n o ≤ 1 := by
  cases o with
  | inl q => exact ⟨Int.le_refl _, show (0 : Int) ≤ 1 by decide⟩
  | inr a =>
    by_cases z : isW bt n (wS 47) (.inr a)
    · have e : siV bt n (.inr a) = 0 := pick_t z
      rw [e]; omega
    · have e : siV bt n (.inr a) = 1 := pick_f z
      rw [e]; omega
set_option maxHeartbeats 4000000 in
theorem c_X12_side {E : ET} {I : MI} {L : ML} {R : MR} {Q : Option AV → MI → ML → MR → Prop} {bt r : F1} {n : Int} {o : PO} (hT : Topo R) (hn : 0 ≤ n ∧ n ≤ 900) (hb : ∀ k, 0 ≤ k → k < n → 0 ≤ bt k ∧ bt k ≤ 255) (hS : RSt I bt n r o) (h : ∀ I', RFr I I' → RSt I' bt n r (siO bt n o) → Q (some (vi (siV bt n o))) I' L R) : CT E M_X12_side 161 yX12_side [(vr (138))] I L R Q := by
  refine CT_of rfl rfl (fun h => by cases h) (Nat.le_of_ble_eq_true rfl) (fun X => ?_)
  show V X _ z0 0 [some (vr (138))] [] I L R _
  cases o with
  | inl q =>
    refine s_aload_n 1 dX12_side_0 rfl rfl ?_
    refine s_getI 4 dX12_side_1 rfl fl_X12_119 (fun _ _ _ _ => rfl) sh_138 (Nat.le_of_ble_eq_true rfl) (fun r_1 => ?_)
    rw [hS.no]
    refine s_if_eq 9 7 dX12_side_4 rfl rfl (by first | omega | exact bI_r _ | exact iI_r _) (fun h_4 => by exfalso; omega) (fun h_4 => ?_)
    refine s_iconst 8 dX12_side_7 rfl ?_
    refine s_iret dX12_side_8 rfl rfl ?_
    exact h I RFr.rf hS
  | inr a =>
    have e0 := hS.ok
    by_cases z : isW bt n (wS 47) (.inr a)
    · have eo : siO bt n (.inr a) = .inr (nxE bt n a) := pick_t z
      have ev : siV bt n (.inr a) = 0 := pick_t z
      rw [eo, ev] at h
      refine s_aload_n 1 dX12_side_0 rfl rfl ?_
      refine s_getI 4 dX12_side_1 rfl fl_X12_119 (fun _ _ _ _ => rfl) sh_138 (Nat.le_of_ble_eq_true rfl) (fun r_1 => ?_)
      rw [e0]
      refine s_if_eq 9 7 dX12_side_4 rfl rfl (by first | omega | exact bI_r _ | exact iI_r _) (fun h_4 => ?_) (fun h_4 => by exfalso; omega)
      refine s_aload_n 10 dX12_side_9 rfl rfl ?_
      refine s_ldcS 12 dX12_side_10 rfl (ks_X12_186) ?_
      refine s_callV0 (M' := M_X12_takes) (as := [_]) 15 dX12_side_12 rfl cw_X12_143 rfl rfl sh_138 rfl (by decide) (Nat.le_of_ble_eq_true rfl) (Nat.le_of_ble_eq_true rfl) (Nat.le_of_ble_eq_true rfl) (Nat.le_of_ble_eq_true rfl) ⟨rfl, rfl, rfl⟩ ?_
      refine c_X12_takes hT hn hb rfl hS (fun I1 q1 q2 => ?_)
      rw [tkW_t z] at q2
      refine s_ifb_eq 20 18 dX12_side_15 rfl rfl (fun h_15 => by exfalso; exact absurd z h_15) (fun h_15 => ?_)
      refine s_iconst 19 dX12_side_18 rfl ?_
      refine s_iret dX12_side_19 rfl rfl ?_
      exact h I1 q1 q2
    · have eo : siO bt n (.inr a) = muW bt n (wS 48) (.inr a) := pick_f z
      have ev : siV bt n (.inr a) = 1 := pick_f z
      rw [eo, ev] at h
      refine s_aload_n 1 dX12_side_0 rfl rfl ?_
      refine s_getI 4 dX12_side_1 rfl fl_X12_119 (fun _ _ _ _ => rfl) sh_138 (Nat.le_of_ble_eq_true rfl) (fun r_1 => ?_)
      rw [e0]
      refine s_if_eq 9 7 dX12_side_4 rfl rfl (by first | omega | exact bI_r _ | exact iI_r _) (fun h_4 => ?_) (fun h_4 => by exfalso; omega)
      refine s_aload_n 10 dX12_side_9 rfl rfl ?_
      refine s_ldcS 12 dX12_side_10 rfl (ks_X12_186) ?_
      refine s_callV0 (M' := M_X12_takes) (as := [_]) 15 dX12_side_12 rfl cw_X12_143 rfl rfl sh_138 rfl (by decide) (Nat.le_of_ble_eq_true rfl) (Nat.le_of_ble_eq_true rfl) (Nat.le_of_ble_eq_true rfl) (Nat.le_of_ble_eq_true rfl) ⟨rfl, rfl, rfl⟩ ?_
      refine c_X12_takes hT hn hb rfl hS (fun I1 q1 q2 => ?_)
      rw [tkW_f z] at q2
      refine s_ifb_eq 20 18 dX12_side_15 rfl rfl (fun h_15 => ?_) (fun h_15 => by exfalso; exact absurd h_15 z)
      refine s_aload_n 21 dX12_side_20 rfl rfl ?_
      refine s_ldcS 23 dX12_side_21 rfl (ks_X12_188) ?_
      refine s_callV0 (M' := M_X12_must) (as := [_]) 26 dX12_side_23 rfl cw_X12_178 rfl rfl sh_138 rfl (by decide) (Nat.le_of_ble_eq_true rfl) (Nat.le_of_ble_eq_true rfl) (Nat.le_of_ble_eq_true rfl) (Nat.le_of_ble_eq_true rfl) ⟨rfl, rfl, rfl⟩ ?_
      refine c_X12_mustW hT hn hb rfl q2 (fun I2 p1 p2 => ?_)
      refine s_iconst 27 dX12_side_26 rfl ?_
      refine s_iret dX12_side_27 rfl rfl ?_
      exact h I2 (q1.tr p1) p2
