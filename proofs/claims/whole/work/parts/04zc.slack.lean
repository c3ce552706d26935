/-! slack, sweat, by the reference -/
theorem pick_c {α : Type} {P P' : Prop} {a b a' b' : α} (h : P ↔ P') (ha : a = a') (hb : b = b') : pick P a b = pick P' a' b' := by
  rw [propext h, ha, hb]
/-- the last BODILY one ahead of a place in time -/
noncomputable def laF (B : Int → Prop) (q : F1) : Nat → Int
  | 0 => -1
  | i + 1 => pick (B (q i)) (q i) (laF B q i)
noncomputable def smF (B : Int → Prop) (q : F1) : Nat → Prop
  | 0 => False
  | i + 1 => smF B q i ∨ (B (q i) ∧ 0 ≤ laF B q i)
noncomputable def slF (r b c : F1) (B : Int → Prop) (q : F1) : Nat → Int
  | 0 => 999
  | i + 1 => pick (B (q i) ∧ 0 ≤ laF B q i) (pick (smF B q i ∧ ¬ b (q i) - c (laF B q i) - neF r (-1) (laF B q i) (q i) < slF r b c B q i) (slF r b c B q i) (b (q i) - c (laF B q i) - neF r (-1) (laF B q i) (q i))) (slF r b c B q i)
theorem nat1 {i : Int} (h : 0 ≤ i) : (i + 1).toNat = i.toNat + 1 ∧ ((i.toNat : Nat) : Int) = i := by omega
theorem laF_s {B : Int → Prop} {q : F1} {i : Int} (h : 0 ≤ i) : laF B q (i + 1).toNat = pick (B (q i)) (q i) (laF B q i.toNat) := by
  rw [(nat1 h).1]
  show pick (B (q (i.toNat : Nat))) (q (i.toNat : Nat)) _ = _
  rw [(nat1 h).2]
theorem smF_s {B : Int → Prop} {q : F1} {i : Int} (h : 0 ≤ i) : smF B q (i + 1).toNat ↔ smF B q i.toNat ∨ (B (q i) ∧ 0 ≤ laF B q i.toNat) := by
  rw [(nat1 h).1]
  show smF B q i.toNat ∨ (B (q (i.toNat : Nat)) ∧ _) ↔ _
  rw [(nat1 h).2]
theorem slF_s {r b c : F1} {B : Int → Prop} {q : F1} {i : Int} (h : 0 ≤ i) : slF r b c B q (i + 1).toNat = pick (B (q i) ∧ 0 ≤ laF B q i.toNat) (pick (smF B q i.toNat ∧ ¬ b (q i) - c (laF B q i.toNat) - neF r (-1) (laF B q i.toNat) (q i) < slF r b c B q i.toNat) (slF r b c B q i.toNat) (b (q i) - c (laF B q i.toNat) - neF r (-1) (laF B q i.toNat) (q i))) (slF r b c B q i.toNat) := by
  rw [(nat1 h).1]
  show pick (B (q (i.toNat : Nat)) ∧ _) (pick (_ ∧ ¬ b (q (i.toNat : Nat)) - _ - neF r (-1) _ (q (i.toNat : Nat)) < _) _ (b (q (i.toNat : Nat)) - _ - neF r (-1) _ (q (i.toNat : Nat)))) _ = _
  rw [(nat1 h).2]
theorem laF_b {B : Int → Prop} {q : F1} {n : Int} (hq : ∀ i, 0 ≤ i → i < n → 0 ≤ q i ∧ q i < n) : ∀ i : Nat, (i : Int) ≤ n → -1 ≤ laF B q i ∧ (0 ≤ laF B q i → laF B q i < n)
  | 0, _ => ⟨Int.le_refl _, fun h => absurd h (by unfold laF; omega)⟩
  | i + 1, h => by
    have h1 := laF_b (B := B) hq i (by omega)
    have h2 := hq i (by omega) (by omega)
    unfold laF
    by_cases z : B (q i)
    · rw [pick_t z]; omega
    · rw [pick_f z]; exact h1
theorem laF_c {B B' : Int → Prop} {q q' : F1} : ∀ {i : Nat} (_ : ∀ j : Int, 0 ≤ j → j < i → q' j = q j ∧ (B' (q j) ↔ B (q j))), laF B' q' i = laF B q i
  | 0, _ => rfl
  | i + 1, h => by
    unfold laF
    have h1 := h i (by omega) (by omega)
    rw [laF_c (i := i) (fun j a b => h j a (by omega)), h1.1]
    exact pick_c h1.2 rfl rfl
theorem smF_c {B B' : Int → Prop} {q q' : F1} : ∀ {i : Nat} (_ : ∀ j : Int, 0 ≤ j → j < i → q' j = q j ∧ (B' (q j) ↔ B (q j))), (smF B' q' i ↔ smF B q i)
  | 0, _ => Iff.rfl
  | i + 1, h => by
    unfold smF
    have h1 := h i (by omega) (by omega)
    rw [laF_c (i := i) (fun j a b => h j a (by omega)), h1.1, smF_c (i := i) (fun j a b => h j a (by omega)), h1.2]
theorem slF_c {r b b' c c' : F1} {B B' : Int → Prop} {q q' : F1} {n : Int} (hq : ∀ i, 0 ≤ i → i < n → 0 ≤ q i ∧ q i < n) (hb : ∀ k, 0 ≤ k → k < n → b' k = b k ∧ c' k = c k) : ∀ {i : Nat} (_ : (i : Int) ≤ n) (_ : ∀ j : Int, 0 ≤ j → j < i → q' j = q j ∧ (B' (q j) ↔ B (q j))), slF r b' c' B' q' i = slF r b c B q i
  | 0, _, _ => rfl
  | i + 1, hi, h => by
    have h1 := h i (by omega) (by omega)
    have h2 := hq i (by omega) (by omega)
    have h3 := laF_b (B := B) hq i (by omega)
    have e1 := laF_c (B := B) (B' := B') (q := q) (q' := q') (i := i) (fun j a b => h j a (by omega))
    have e2 := smF_c (B := B) (B' := B') (q := q) (q' := q') (i := i) (fun j a b => h j a (by omega))
    have e3 := slF_c (r := r) (B := B) (B' := B') (q := q) (q' := q') hq hb (i := i) (by omega) (fun j a b => h j a (by omega))
    unfold slF
    rw [e1, e3, h1.1, (hb _ h2.1 h2.2).1]
    by_cases z : B (q i) ∧ 0 ≤ laF B q i
    · rw [pick_t z, pick_t ⟨h1.2.mpr z.1, z.2⟩, (hb _ z.2 (h3.2 z.2)).2]
      exact pick_c (by rw [e2]) rfl rfl
    · rw [pick_f z, pick_f (fun y => z ⟨h1.2.mp y.1, y.2⟩)]
theorem slF_b {r b c : F1} {B : Int → Prop} {q : F1} (hr : WFr r) (hq : ∀ i, 0 ≤ i → i < r 7 → 0 ≤ q i ∧ q i < r 7) (hb : ∀ k, 0 ≤ k → k < r 7 → 0 ≤ b k ∧ b k ≤ 4000 ∧ 0 ≤ c k ∧ c k ≤ 4000) : ∀ i : Nat, (i : Int) ≤ r 7 → -5000 ≤ slF r b c B q i ∧ slF r b c B q i ≤ 5000
  | 0, _ => by unfold slF; omega
  | i + 1, hi => by
    have h1 := slF_b (B := B) hr hq hb i (by omega)
    have h2 := hq i (by omega) (by omega)
    have h3 := laF_b (B := B) hq i (by omega)
    have h4 := hb _ h2.1 h2.2
    unfold slF
    by_cases z : B (q i) ∧ 0 ≤ laF B q i
    · have h5 := hb _ z.2 (h3.2 z.2)
      have h6 := neF_b (rd := -1) hr (k := laF B q i) (l := q i) ⟨z.2, h3.2 z.2⟩ h2
      rw [pick_t z]
      by_cases y : smF B q i ∧ ¬ b (q i) - c (laF B q i) - neF r (-1) (laF B q i) (q i) < slF r b c B q i
      · rw [pick_t y]; exact h1
      · rw [pick_f y]; omega
    · rw [pick_f z]; exact h1
theorem sq_in {r sc : F1} {g : Int} (hr : WFr r) : ∀ i, 0 ≤ i → i < r 7 → 0 ≤ sqF r g sc i ∧ sqF r g sc i < r 7 := by
  have e0 := hr.1
  have hs := (srF_in (bgF r g sc) (r 7).toNat).1
  rw [show (((r 7).toNat : Nat) : Int) = r 7 by omega] at hs
  exact hs
set_option maxHeartbeats 4000000 in
theorem c_X12_slack {E : ET} {I : MI} {L : ML} {R : MR} {Q : Option AV → MI → ML → MR → Prop} {r s : F1} {a : List Int} {HP : Prop} {i : Int} (hT : Topo R) (er : I 141 = r) (es : I 143 = s) (erd : I 138 30 = -1) (ehp : I 138 14 = bI HP) (hr : HP → SOk r s a) (hi : -2147483648 ≤ i ∧ i ≤ 2147483647) (h : ∀ I', Eqo MS (gd I (pick (HP ∧ 0 ≤ i ∧ i < 7) 0 1)) I' → Q (some (vi (pick (HP ∧ 0 ≤ i ∧ i < 7) (slF r (bgF r (r 2) s) (clF r (r 2) s) (Bod r (sqF r (r 2) s) (Ons r s i)) (sqF r (r 2) s) (r 7).toNat) (-1000)))) I' L R) : CT E M_X12_slack 161 yX12_slack [(vr (138)), (vi (i))] I L R Q := by
  refine CT_of rfl rfl (fun h => by cases h) (Nat.le_of_ble_eq_true rfl) (fun X => ?_)
  show V X _ z0 0 [some (vr (138)), some (vi (i)), none, none, none, none, none, none, none] [] I L R _
  have er1 : up (up I 138 0 0) 138 11 0 141 = r := (gd_n (by decide)).trans er
  have es1 : up (up I 138 0 0) 138 11 0 143 = s := (gd_n (by decide)).trans es
  have erd1 : up (up I 138 0 0) 138 11 0 138 30 = -1 := (gd_f (by decide)).trans erd
  have ehp1 : up (up I 138 0 0) 138 11 0 138 14 = bI HP := (gd_f (by decide)).trans ehp
  have hno : ¬ (HP ∧ 0 ≤ i ∧ i < 7) → Q (some (vi (-1000))) (gd I 1) L R := fun z => by have q := h (gd I 1) (by rw [pick_f z]; exact Eqo.rf); rw [pick_f z] at q; exact q
  have hye : (HP ∧ 0 ≤ i ∧ i < 7) → ∀ I', Eqo MS (gd I 0) I' → Q (some (vi (slF r (bgF r (r 2) s) (clF r (r 2) s) (Bod r (sqF r (r 2) s) (Ons r s i)) (sqF r (r 2) s) (r 7).toNat))) I' L R := fun z I' k => by have q := h I' (by rw [pick_t z]; exact k); rw [pick_t z] at q; exact q
  have loop : HP → ∀ (b c q : F1) (Bs : Int) (B : Int → Prop) (I1 : MI), I1 141 = r → I1 138 30 = -1 → I1 150 = b → I1 151 = c → I1 152 = q → (∀ k, 0 ≤ k → k < r 7 → (hasI Bs k ↔ B k)) → (∀ k, 0 ≤ k → k < r 7 → 0 ≤ q k ∧ q k < r 7) → (∀ k, 0 ≤ k → k < r 7 → 0 ≤ b k ∧ b k ≤ 4000 ∧ 0 ≤ c k ∧ c k ≤ 4000) →
      Q (some (vi (slF r b c B q (r 7).toNat))) I1 L R → ∀ (f : Nat) (t : Int) (w7 w8 : Option AV), r 7 - t < (f : Int) → 0 ≤ t → t ≤ r 7 → V X M_X12_slack z0 52 [some (vr 138), some (vi i), some (vi Bs), some (vi (laF B q t.toNat)), some (vi (slF r b c B q t.toNat)), some (vi (bI (smF B q t.toNat))), some (vi t), w7, w8] [] I1 L R (RT X M_X12_slack Q) := by
    intro hP b c q Bs B I1 er erd eb ec eq hB hq hb hQ f
    have hr := (hr hP).1
    have e0 := hr.1
    induction f with
    | zero => intro t w7 w8 h1 h2 h3; omega
    | succ f ih =>
      intro t w7 w8 h1 h2 h3
      refine s_iload 54 dX12_slack_52 rfl rfl ?_
      refine s_aload_n 55 dX12_slack_54 rfl rfl ?_
      refine s_getR 58 dX12_slack_55 rfl fl_X12_20 (fun _ _ _ _ => rfl) (T_X12_r hT) sh_138 (Nat.le_of_ble_eq_true rfl) ?_
      refine s_bipush 60 dX12_slack_58 rfl (by decide) ?_
      refine s_iald 61 dX12_slack_60 rfl sh_141 (Nat.le_of_ble_eq_true rfl) (by omega) (by omega) (fun r_60 => ?_)
      rw [er] at r_60 ⊢
      refine s_icmp_ge 162 64 dX12_slack_61 rfl rfl (by first | omega | exact bI_r _ | exact iI_r _) (by first | omega | exact bI_r _ | exact iI_r _) (fun h_61 => ?_) (fun h_61 => ?_)
      · skip
        refine s_iload 164 dX12_slack_162 rfl rfl ?_
        refine s_iret dX12_slack_164 rfl rfl ?_
        rw [show t = r 7 by omega]; exact hQ
      skip
      have q1 := hq t h2 (by omega)
      have s1 := laF_s (B := B) (q := q) h2
      have s2 := smF_s (B := B) (q := q) h2
      have s3 := slF_s (r := r) (b := b) (c := c) (B := B) (q := q) h2
      have lb := laF_b (B := B) hq t.toNat (by omega)
      have sb := slF_b (B := B) hr hq hb t.toNat (by omega)
      have bb := hb _ q1.1 q1.2
      have ih' := ih (t + 1)
      by_cases hBt : B (q t)
      · have h5 := (hB _ q1.1 q1.2).mpr hBt
        rw [s1, s3, pick_t hBt] at ih'
        by_cases hl : 0 ≤ laF B q t.toNat
        · have nb := neF_b (rd := -1) hr (k := laF B q t.toNat) (l := q t) ⟨hl, lb.2 hl⟩ q1
          have bl := hb _ hl (lb.2 hl)
          rw [pick_t ⟨hBt, hl⟩, bI_t (s2.mpr (Or.inr ⟨hBt, hl⟩))] at ih'
          refine s_aload_n 65 dX12_slack_64 rfl rfl ?_
          refine s_getR 68 dX12_slack_65 rfl fl_X12_53 (fun _ _ _ _ => rfl) (T_X12_inTime hT) sh_138 (Nat.le_of_ble_eq_true rfl) ?_
          refine s_iload 70 dX12_slack_68 rfl rfl ?_
          refine s_iald 71 dX12_slack_70 rfl sh_152 (Nat.le_of_ble_eq_true rfl) (by omega) (by omega) (fun r_70 => ?_)
          rw [eq] at r_70 ⊢
          refine s_istore (ls' := [_, _, _, _, _, _, _, _, _]) 73 dX12_slack_71 rfl (Nat.le_of_ble_eq_true rfl) rfl rfl ?_
          refine s_iload_n 74 dX12_slack_73 rfl rfl ?_
          refine s_iload 76 dX12_slack_74 rfl rfl ?_
          refine s_callS0 (M' := M_X12_has) (as := [_, _]) 79 dX12_slack_76 rfl cw_X12_278 rfl rfl (Nat.le_of_ble_eq_true rfl) (Nat.le_of_ble_eq_true rfl) (Nat.le_of_ble_eq_true rfl) ⟨rfl, rfl, rfl⟩ ?_
          refine c_X12_has ?_
          refine s_ifb_ne 85 82 dX12_slack_79 rfl rfl (fun h_79 => ?_) (fun h_79 => by exfalso; exact absurd h5 h_79)
          refine s_iload_n 86 dX12_slack_85 rfl rfl ?_
          refine s_if_ge 93 89 dX12_slack_86 rfl rfl (by first | omega | exact bI_r _ | exact iI_r _) (fun h_86 => ?_) (fun h_86 => by exfalso; omega)
          refine s_aload_n 94 dX12_slack_93 rfl rfl ?_
          refine s_getR 97 dX12_slack_94 rfl fl_X12_47 (fun _ _ _ _ => rfl) (T_X12_begin hT) sh_138 (Nat.le_of_ble_eq_true rfl) ?_
          refine s_iload 99 dX12_slack_97 rfl rfl ?_
          refine s_iald 100 dX12_slack_99 rfl sh_150 (Nat.le_of_ble_eq_true rfl) (by omega) (by omega) (fun r_99 => ?_)
          rw [eb] at r_99 ⊢
          refine s_aload_n 101 dX12_slack_100 rfl rfl ?_
          refine s_getR 104 dX12_slack_101 rfl fl_X12_50 (fun _ _ _ _ => rfl) (T_X12_close hT) sh_138 (Nat.le_of_ble_eq_true rfl) ?_
          refine s_iload_n 105 dX12_slack_104 rfl rfl ?_
          refine s_iald 106 dX12_slack_105 rfl sh_151 (Nat.le_of_ble_eq_true rfl) (by omega) (by omega) (fun r_105 => ?_)
          rw [ec] at r_105 ⊢
          refine s_isub 107 dX12_slack_106 rfl ?_
          refine s_aload_n 108 dX12_slack_107 rfl rfl ?_
          refine s_iload_n 109 dX12_slack_108 rfl rfl ?_
          refine s_iload 111 dX12_slack_109 rfl rfl ?_
          refine s_callV0 (M' := M_X12_needOf) (as := [_, _]) 114 dX12_slack_111 rfl cw_X12_321 rfl rfl sh_138 rfl (by decide) (Nat.le_of_ble_eq_true rfl) (Nat.le_of_ble_eq_true rfl) (Nat.le_of_ble_eq_true rfl) (Nat.le_of_ble_eq_true rfl) ⟨rfl, rfl, rfl⟩ ?_
          refine c_X12_needOf hT er erd hr ⟨hl, lb.2 hl⟩ q1 ?_
          refine s_isub 115 dX12_slack_114 rfl ?_
          refine s_istore (ls' := [_, _, _, _, _, _, _, _, _]) 117 dX12_slack_115 rfl (Nat.le_of_ble_eq_true rfl) rfl rfl ?_
          refine s_iload_n 118 dX12_slack_117 rfl rfl ?_
          refine s_if_lt 137 121 dX12_slack_118 rfl rfl (by first | omega | exact bI_r _ | exact iI_r _) (fun h_118 => by exfalso; omega) (fun h_118 => ?_)
          refine s_iload 123 dX12_slack_121 rfl rfl ?_
          refine s_ifb_eq 133 126 dX12_slack_123 rfl rfl (fun h_123 => ?_) (fun h_123 => ?_)
          · skip
            refine s_iload 135 dX12_slack_133 rfl rfl ?_
            refine s_istore (ls' := [_, _, _, _, _, _, _, _, _]) 137 dX12_slack_135 rfl (Nat.le_of_ble_eq_true rfl) rfl rfl ?_
            refine s_iload 139 dX12_slack_137 rfl rfl ?_
            refine s_ifb_ne 146 142 dX12_slack_139 rfl rfl (fun h_139 => ?_) (fun h_139 => ?_)
            · skip
              refine s_iconst 147 dX12_slack_146 rfl ?_
              refine s_goto 151 dX12_slack_147 rfl ?_
              refine s_istore (ls' := [_, _, _, _, _, _, _, _, _]) 153 dX12_slack_151 rfl (Nat.le_of_ble_eq_true rfl) rfl rfl ?_
              refine s_iload 155 dX12_slack_153 rfl rfl ?_
              refine s_istore_n (ls' := [_, _, _, _, _, _, _, _, _]) 156 dX12_slack_155 rfl (Nat.le_of_ble_eq_true rfl) rfl rfl ?_
              refine s_iinc (ls' := [_, _, _, _, _, _, _, _, _]) 159 dX12_slack_156 rfl rfl (Nat.le_of_ble_eq_true rfl) rfl rfl ?_
              refine s_goto 52 dX12_slack_159 rfl ?_
              first | (rw [pick_t ⟨by assumption, by omega⟩] at ih'; exact ih' _ _ (by omega) (by omega) (by omega)) | (rw [pick_f (fun z => absurd z.1 (by assumption))] at ih'; exact ih' _ _ (by omega) (by omega) (by omega)) | (rw [pick_f (fun z => absurd z.2 (by omega))] at ih'; exact ih' _ _ (by omega) (by omega) (by omega))
            refine s_iload_n 143 dX12_slack_142 rfl rfl ?_
            refine s_if_lt 150 146 dX12_slack_143 rfl rfl (by first | omega | exact bI_r _ | exact iI_r _) (fun h_143 => by exfalso; omega) (fun h_143 => ?_)
            refine s_iconst 147 dX12_slack_146 rfl ?_
            refine s_goto 151 dX12_slack_147 rfl ?_
            refine s_istore (ls' := [_, _, _, _, _, _, _, _, _]) 153 dX12_slack_151 rfl (Nat.le_of_ble_eq_true rfl) rfl rfl ?_
            refine s_iload 155 dX12_slack_153 rfl rfl ?_
            refine s_istore_n (ls' := [_, _, _, _, _, _, _, _, _]) 156 dX12_slack_155 rfl (Nat.le_of_ble_eq_true rfl) rfl rfl ?_
            refine s_iinc (ls' := [_, _, _, _, _, _, _, _, _]) 159 dX12_slack_156 rfl rfl (Nat.le_of_ble_eq_true rfl) rfl rfl ?_
            refine s_goto 52 dX12_slack_159 rfl ?_
            first | (rw [pick_t ⟨by assumption, by omega⟩] at ih'; exact ih' _ _ (by omega) (by omega) (by omega)) | (rw [pick_f (fun z => absurd z.1 (by assumption))] at ih'; exact ih' _ _ (by omega) (by omega) (by omega)) | (rw [pick_f (fun z => absurd z.2 (by omega))] at ih'; exact ih' _ _ (by omega) (by omega) (by omega))
          refine s_iload 128 dX12_slack_126 rfl rfl ?_
          refine s_iload 130 dX12_slack_128 rfl rfl ?_
          refine s_icmp_ge 137 133 dX12_slack_130 rfl rfl (by first | omega | exact bI_r _ | exact iI_r _) (by first | omega | exact bI_r _ | exact iI_r _) (fun h_130 => ?_) (fun h_130 => ?_)
          · skip
            refine s_iload 139 dX12_slack_137 rfl rfl ?_
            refine s_ifb_ne 146 142 dX12_slack_139 rfl rfl (fun h_139 => ?_) (fun h_139 => ?_)
            · skip
              refine s_iconst 147 dX12_slack_146 rfl ?_
              refine s_goto 151 dX12_slack_147 rfl ?_
              refine s_istore (ls' := [_, _, _, _, _, _, _, _, _]) 153 dX12_slack_151 rfl (Nat.le_of_ble_eq_true rfl) rfl rfl ?_
              refine s_iload 155 dX12_slack_153 rfl rfl ?_
              refine s_istore_n (ls' := [_, _, _, _, _, _, _, _, _]) 156 dX12_slack_155 rfl (Nat.le_of_ble_eq_true rfl) rfl rfl ?_
              refine s_iinc (ls' := [_, _, _, _, _, _, _, _, _]) 159 dX12_slack_156 rfl rfl (Nat.le_of_ble_eq_true rfl) rfl rfl ?_
              refine s_goto 52 dX12_slack_159 rfl ?_
              first | (rw [pick_t ⟨by assumption, by omega⟩] at ih'; exact ih' _ _ (by omega) (by omega) (by omega)) | (rw [pick_f (fun z => absurd z.1 (by assumption))] at ih'; exact ih' _ _ (by omega) (by omega) (by omega)) | (rw [pick_f (fun z => absurd z.2 (by omega))] at ih'; exact ih' _ _ (by omega) (by omega) (by omega))
            refine s_iload_n 143 dX12_slack_142 rfl rfl ?_
            refine s_if_lt 150 146 dX12_slack_143 rfl rfl (by first | omega | exact bI_r _ | exact iI_r _) (fun h_143 => by exfalso; omega) (fun h_143 => ?_)
            refine s_iconst 147 dX12_slack_146 rfl ?_
            refine s_goto 151 dX12_slack_147 rfl ?_
            refine s_istore (ls' := [_, _, _, _, _, _, _, _, _]) 153 dX12_slack_151 rfl (Nat.le_of_ble_eq_true rfl) rfl rfl ?_
            refine s_iload 155 dX12_slack_153 rfl rfl ?_
            refine s_istore_n (ls' := [_, _, _, _, _, _, _, _, _]) 156 dX12_slack_155 rfl (Nat.le_of_ble_eq_true rfl) rfl rfl ?_
            refine s_iinc (ls' := [_, _, _, _, _, _, _, _, _]) 159 dX12_slack_156 rfl rfl (Nat.le_of_ble_eq_true rfl) rfl rfl ?_
            refine s_goto 52 dX12_slack_159 rfl ?_
            first | (rw [pick_t ⟨by assumption, by omega⟩] at ih'; exact ih' _ _ (by omega) (by omega) (by omega)) | (rw [pick_f (fun z => absurd z.1 (by assumption))] at ih'; exact ih' _ _ (by omega) (by omega) (by omega)) | (rw [pick_f (fun z => absurd z.2 (by omega))] at ih'; exact ih' _ _ (by omega) (by omega) (by omega))
          refine s_iload 135 dX12_slack_133 rfl rfl ?_
          refine s_istore (ls' := [_, _, _, _, _, _, _, _, _]) 137 dX12_slack_135 rfl (Nat.le_of_ble_eq_true rfl) rfl rfl ?_
          refine s_iload 139 dX12_slack_137 rfl rfl ?_
          refine s_ifb_ne 146 142 dX12_slack_139 rfl rfl (fun h_139 => ?_) (fun h_139 => ?_)
          · skip
            refine s_iconst 147 dX12_slack_146 rfl ?_
            refine s_goto 151 dX12_slack_147 rfl ?_
            refine s_istore (ls' := [_, _, _, _, _, _, _, _, _]) 153 dX12_slack_151 rfl (Nat.le_of_ble_eq_true rfl) rfl rfl ?_
            refine s_iload 155 dX12_slack_153 rfl rfl ?_
            refine s_istore_n (ls' := [_, _, _, _, _, _, _, _, _]) 156 dX12_slack_155 rfl (Nat.le_of_ble_eq_true rfl) rfl rfl ?_
            refine s_iinc (ls' := [_, _, _, _, _, _, _, _, _]) 159 dX12_slack_156 rfl rfl (Nat.le_of_ble_eq_true rfl) rfl rfl ?_
            refine s_goto 52 dX12_slack_159 rfl ?_
            first | (rw [pick_t ⟨by assumption, by omega⟩] at ih'; exact ih' _ _ (by omega) (by omega) (by omega)) | (rw [pick_f (fun z => absurd z.1 (by assumption))] at ih'; exact ih' _ _ (by omega) (by omega) (by omega)) | (rw [pick_f (fun z => absurd z.2 (by omega))] at ih'; exact ih' _ _ (by omega) (by omega) (by omega))
          refine s_iload_n 143 dX12_slack_142 rfl rfl ?_
          refine s_if_lt 150 146 dX12_slack_143 rfl rfl (by first | omega | exact bI_r _ | exact iI_r _) (fun h_143 => by exfalso; omega) (fun h_143 => ?_)
          refine s_iconst 147 dX12_slack_146 rfl ?_
          refine s_goto 151 dX12_slack_147 rfl ?_
          refine s_istore (ls' := [_, _, _, _, _, _, _, _, _]) 153 dX12_slack_151 rfl (Nat.le_of_ble_eq_true rfl) rfl rfl ?_
          refine s_iload 155 dX12_slack_153 rfl rfl ?_
          refine s_istore_n (ls' := [_, _, _, _, _, _, _, _, _]) 156 dX12_slack_155 rfl (Nat.le_of_ble_eq_true rfl) rfl rfl ?_
          refine s_iinc (ls' := [_, _, _, _, _, _, _, _, _]) 159 dX12_slack_156 rfl rfl (Nat.le_of_ble_eq_true rfl) rfl rfl ?_
          refine s_goto 52 dX12_slack_159 rfl ?_
          first | (rw [pick_t ⟨by assumption, by omega⟩] at ih'; exact ih' _ _ (by omega) (by omega) (by omega)) | (rw [pick_f (fun z => absurd z.1 (by assumption))] at ih'; exact ih' _ _ (by omega) (by omega) (by omega)) | (rw [pick_f (fun z => absurd z.2 (by omega))] at ih'; exact ih' _ _ (by omega) (by omega) (by omega))
        · rw [pick_f (fun z => hl z.2)] at ih'
          have s4 : smF B q (t + 1).toNat ↔ smF B q t.toNat := s2.trans ⟨fun z => z.elim id (fun y => absurd y.2 hl), Or.inl⟩
          rw [bI_c s4] at ih'
          refine s_aload_n 65 dX12_slack_64 rfl rfl ?_
          refine s_getR 68 dX12_slack_65 rfl fl_X12_53 (fun _ _ _ _ => rfl) (T_X12_inTime hT) sh_138 (Nat.le_of_ble_eq_true rfl) ?_
          refine s_iload 70 dX12_slack_68 rfl rfl ?_
          refine s_iald 71 dX12_slack_70 rfl sh_152 (Nat.le_of_ble_eq_true rfl) (by omega) (by omega) (fun r_70 => ?_)
          rw [eq] at r_70 ⊢
          refine s_istore (ls' := [_, _, _, _, _, _, _, _, _]) 73 dX12_slack_71 rfl (Nat.le_of_ble_eq_true rfl) rfl rfl ?_
          refine s_iload_n 74 dX12_slack_73 rfl rfl ?_
          refine s_iload 76 dX12_slack_74 rfl rfl ?_
          refine s_callS0 (M' := M_X12_has) (as := [_, _]) 79 dX12_slack_76 rfl cw_X12_278 rfl rfl (Nat.le_of_ble_eq_true rfl) (Nat.le_of_ble_eq_true rfl) (Nat.le_of_ble_eq_true rfl) ⟨rfl, rfl, rfl⟩ ?_
          refine c_X12_has ?_
          refine s_ifb_ne 85 82 dX12_slack_79 rfl rfl (fun h_79 => ?_) (fun h_79 => by exfalso; exact absurd h5 h_79)
          refine s_iload_n 86 dX12_slack_85 rfl rfl ?_
          refine s_if_ge 93 89 dX12_slack_86 rfl rfl (by first | omega | exact bI_r _ | exact iI_r _) (fun h_86 => by exfalso; omega) (fun h_86 => ?_)
          refine s_iconst 90 dX12_slack_89 rfl ?_
          refine s_goto 115 dX12_slack_90 rfl ?_
          refine s_istore (ls' := [_, _, _, _, _, _, _, _, _]) 117 dX12_slack_115 rfl (Nat.le_of_ble_eq_true rfl) rfl rfl ?_
          refine s_iload_n 118 dX12_slack_117 rfl rfl ?_
          refine s_if_lt 137 121 dX12_slack_118 rfl rfl (by first | omega | exact bI_r _ | exact iI_r _) (fun h_118 => ?_) (fun h_118 => by exfalso; omega)
          refine s_iload 139 dX12_slack_137 rfl rfl ?_
          refine s_ifb_ne 146 142 dX12_slack_139 rfl rfl (fun h_139 => ?_) (fun h_139 => ?_)
          · skip
            refine s_iconst 147 dX12_slack_146 rfl ?_
            refine s_goto 151 dX12_slack_147 rfl ?_
            refine s_istore (ls' := [_, _, _, _, _, _, _, _, _]) 153 dX12_slack_151 rfl (Nat.le_of_ble_eq_true rfl) rfl rfl ?_
            refine s_iload 155 dX12_slack_153 rfl rfl ?_
            refine s_istore_n (ls' := [_, _, _, _, _, _, _, _, _]) 156 dX12_slack_155 rfl (Nat.le_of_ble_eq_true rfl) rfl rfl ?_
            refine s_iinc (ls' := [_, _, _, _, _, _, _, _, _]) 159 dX12_slack_156 rfl rfl (Nat.le_of_ble_eq_true rfl) rfl rfl ?_
            refine s_goto 52 dX12_slack_159 rfl ?_
            first | (rw [bI_t (by assumption)] at ih'; exact ih' _ _ (by omega) (by omega) (by omega)) | (rw [bI_f (by assumption)] at ih'; exact ih' _ _ (by omega) (by omega) (by omega))
          refine s_iload_n 143 dX12_slack_142 rfl rfl ?_
          refine s_if_lt 150 146 dX12_slack_143 rfl rfl (by first | omega | exact bI_r _ | exact iI_r _) (fun h_143 => ?_) (fun h_143 => by exfalso; omega)
          refine s_iconst 151 dX12_slack_150 rfl ?_
          refine s_istore (ls' := [_, _, _, _, _, _, _, _, _]) 153 dX12_slack_151 rfl (Nat.le_of_ble_eq_true rfl) rfl rfl ?_
          refine s_iload 155 dX12_slack_153 rfl rfl ?_
          refine s_istore_n (ls' := [_, _, _, _, _, _, _, _, _]) 156 dX12_slack_155 rfl (Nat.le_of_ble_eq_true rfl) rfl rfl ?_
          refine s_iinc (ls' := [_, _, _, _, _, _, _, _, _]) 159 dX12_slack_156 rfl rfl (Nat.le_of_ble_eq_true rfl) rfl rfl ?_
          refine s_goto 52 dX12_slack_159 rfl ?_
          first | (rw [bI_t (by assumption)] at ih'; exact ih' _ _ (by omega) (by omega) (by omega)) | (rw [bI_f (by assumption)] at ih'; exact ih' _ _ (by omega) (by omega) (by omega))
      · have h5 : ¬ hasI Bs (q t) := fun z => hBt ((hB _ q1.1 q1.2).mp z)
        have s4 : smF B q (t + 1).toNat ↔ smF B q t.toNat := s2.trans ⟨fun z => z.elim id (fun y => absurd y.1 hBt), Or.inl⟩
        rw [s1, s3, pick_f hBt, pick_f (fun z => hBt z.1), bI_c s4] at ih'
        refine s_aload_n 65 dX12_slack_64 rfl rfl ?_
        refine s_getR 68 dX12_slack_65 rfl fl_X12_53 (fun _ _ _ _ => rfl) (T_X12_inTime hT) sh_138 (Nat.le_of_ble_eq_true rfl) ?_
        refine s_iload 70 dX12_slack_68 rfl rfl ?_
        refine s_iald 71 dX12_slack_70 rfl sh_152 (Nat.le_of_ble_eq_true rfl) (by omega) (by omega) (fun r_70 => ?_)
        rw [eq] at r_70 ⊢
        refine s_istore (ls' := [_, _, _, _, _, _, _, _, _]) 73 dX12_slack_71 rfl (Nat.le_of_ble_eq_true rfl) rfl rfl ?_
        refine s_iload_n 74 dX12_slack_73 rfl rfl ?_
        refine s_iload 76 dX12_slack_74 rfl rfl ?_
        refine s_callS0 (M' := M_X12_has) (as := [_, _]) 79 dX12_slack_76 rfl cw_X12_278 rfl rfl (Nat.le_of_ble_eq_true rfl) (Nat.le_of_ble_eq_true rfl) (Nat.le_of_ble_eq_true rfl) ⟨rfl, rfl, rfl⟩ ?_
        refine c_X12_has ?_
        refine s_ifb_ne 85 82 dX12_slack_79 rfl rfl (fun h_79 => by exfalso; exact absurd h_79 h5) (fun h_79 => ?_)
        refine s_goto 156 dX12_slack_82 rfl ?_
        refine s_iinc (ls' := [_, _, _, _, _, _, _, _, _]) 159 dX12_slack_156 rfl rfl (Nat.le_of_ble_eq_true rfl) rfl rfl ?_
        refine s_goto 52 dX12_slack_159 rfl ?_
        exact ih' _ _ (by omega) (by omega) (by omega)
  refine s_aload_n 1 dX12_slack_0 rfl rfl ?_
  refine s_callV0 (M' := M_X12_good) (as := []) 4 dX12_slack_1 rfl cw_X12_190 rfl rfl sh_138 rfl (by decide) (Nat.le_of_ble_eq_true rfl) (Nat.le_of_ble_eq_true rfl) (Nat.le_of_ble_eq_true rfl) (Nat.le_of_ble_eq_true rfl) ⟨rfl, rfl, rfl⟩ ?_
  refine c_X12_good ?_
  refine s_aload_n 5 dX12_slack_4 rfl rfl ?_
  refine s_iload_n 6 dX12_slack_5 rfl rfl ?_
  refine s_callV0 (M' := M_X12_isPlayer) (as := [_]) 9 dX12_slack_6 rfl cw_X12_348 rfl rfl sh_138 rfl (by decide) (Nat.le_of_ble_eq_true rfl) (Nat.le_of_ble_eq_true rfl) (Nat.le_of_ble_eq_true rfl) (Nat.le_of_ble_eq_true rfl) ⟨rfl, rfl, rfl⟩ ?_
  refine c_X12_isPlayer ehp1 (by omega) ?_
  refine s_ifb_ne 21 12 dX12_slack_9 rfl rfl (fun h_9 => ?_) (fun h_9 => ?_)
  · skip
    refine s_aload_n 22 dX12_slack_21 rfl rfl ?_
    refine s_aload_n 23 dX12_slack_22 rfl rfl ?_
    refine s_getR 26 dX12_slack_23 rfl fl_X12_26 (fun _ _ _ _ => rfl) (T_X12_st hT) sh_138 (Nat.le_of_ble_eq_true rfl) ?_
    refine s_callV0 (M' := M_X12_layTime) (as := [_]) 29 dX12_slack_26 rfl cw_X12_305 rfl rfl sh_138 rfl (by decide) (Nat.le_of_ble_eq_true rfl) (Nat.le_of_ble_eq_true rfl) (Nat.le_of_ble_eq_true rfl) (Nat.le_of_ble_eq_true rfl) ⟨rfl, rfl, rfl⟩ ?_
    have hC : HP ∧ 0 ≤ i ∧ i < 7 := by assumption
    have hP := hC.1
    have hrr := (hr hP).1
    have e0 := hrr.1
    refine c_X12_layTime hT er1 hrr rfl sh_143 (by decide) (by decide) (by decide) es1 (hr hP).p (fun I1 hL => ?_)
    have er : I1 141 = r := (hL.1 141 (by decide)).trans er1
    have es2 : I1 143 = s := (hL.1 143 (by decide)).trans es1
    have erd2 : I1 138 30 = -1 := (congrFun (hL.1 138 (by decide)) 30).trans erd1
    have hE : Eqo MS (gd I 0) I1 := hL.1.mo (by decide)
    obtain ⟨q1, q2⟩ := hL.rep hrr (hr hP).p (by omega)
    refine s_aload_n 30 dX12_slack_29 rfl rfl ?_
    refine s_aload_n 31 dX12_slack_30 rfl rfl ?_
    refine s_iload_n 32 dX12_slack_31 rfl rfl ?_
    refine s_callV0 (M' := M_X12_onsOfPlayer) (as := [_]) 35 dX12_slack_32 rfl cw_X12_345 rfl rfl sh_138 rfl (by decide) (Nat.le_of_ble_eq_true rfl) (Nat.le_of_ble_eq_true rfl) (Nat.le_of_ble_eq_true rfl) (Nat.le_of_ble_eq_true rfl) ⟨rfl, rfl, rfl⟩ ?_
    refine c_X12_onsOfPlayer hT er es2 hrr (hr hP).2.2.2.1 (by omega) ?_
    refine s_callV0 (M' := M_X12_bodilyOf) (as := [_]) 38 dX12_slack_35 rfl cw_X12_330 rfl rfl sh_138 rfl (by decide) (Nat.le_of_ble_eq_true rfl) (Nat.le_of_ble_eq_true rfl) (Nat.le_of_ble_eq_true rfl) (Nat.le_of_ble_eq_true rfl) ⟨rfl, rfl, rfl⟩ ?_
    refine c_X12_bodilyOf hT er rfl hrr q1 (fun B hB => ?_)
    refine s_istore_n (ls' := [_, _, _, _, _, _, _, _, _]) 39 dX12_slack_38 rfl (Nat.le_of_ble_eq_true rfl) rfl rfl ?_
    refine s_iconst 40 dX12_slack_39 rfl ?_
    refine s_istore_n (ls' := [_, _, _, _, _, _, _, _, _]) 41 dX12_slack_40 rfl (Nat.le_of_ble_eq_true rfl) rfl rfl ?_
    refine s_sipush 44 dX12_slack_41 rfl (by decide) ?_
    refine s_istore (ls' := [_, _, _, _, _, _, _, _, _]) 46 dX12_slack_44 rfl (Nat.le_of_ble_eq_true rfl) rfl rfl ?_
    refine s_iconst 47 dX12_slack_46 rfl ?_
    refine s_istore (ls' := [_, _, _, _, _, _, _, _, _]) 49 dX12_slack_47 rfl (Nat.le_of_ble_eq_true rfl) rfl rfl ?_
    refine s_iconst 50 dX12_slack_49 rfl ?_
    refine s_istore (ls' := [_, _, _, _, _, _, _, _, _]) 52 dX12_slack_50 rfl (Nat.le_of_ble_eq_true rfl) rfl rfl ?_
    have hBb : ∀ k, 0 ≤ k → k < r 7 → (hasI B k ↔ Bod r (sqF r (r 2) s) (Ons r s i) k) := fun k z1 z2 => (hB.2 k z1 (by omega)).trans (hL.bod hrr (fun k q1 q2 => has_Ons hrr ⟨q1, q2⟩))
    have hq0 := hye hC I1 hE
    have hsq := sq_in (g := r 2) (sc := s) hrr
    rw [← slF_c (b' := I1 150) (c' := I1 151) (B' := Bod r (sqF r (r 2) s) (Ons r s i)) (q' := I1 152) hsq (fun k z1 z2 => hL.2.2.1 k z1 z2) (by omega) (fun j z1 z2 => ⟨hL.2.2.2 j z1 (by omega), Iff.rfl⟩)] at hq0
    have := loop hP _ _ _ B (Bod r (sqF r (r 2) s) (Ons r s i)) I1 er erd2 rfl rfl rfl hBb q1.1 q2 hq0 (r 7 + 1).toNat 0 none none (by omega) (by omega) (by omega)
    rw [show bI (smF (Bod r (sqF r (r 2) s) (Ons r s i)) (I1 152) (0 : Int).toNat) = 0 from bI_f id] at this
    exact this
  refine s_aload_n 13 dX12_slack_12 rfl rfl ?_
  refine s_iconst 14 dX12_slack_13 rfl ?_
  refine s_putI 17 dX12_slack_14 rfl fl_X12_84 (fun _ => rfl) (fun _ => rfl) (fun _ _ _ _ => rfl) sh_138 (Nat.le_of_ble_eq_true rfl) (by first | omega | exact bI_r _ | exact iI_r _) ?_
  refine s_sipush 20 dX12_slack_17 rfl (by decide) ?_
  refine s_iret dX12_slack_20 rfl rfl ?_
  rw [show up (up (up I 138 0 0) 138 11 0) 138 11 1 = gd I 1 from gd_no]; exact hno (by assumption)
