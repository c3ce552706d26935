/-! sweat, by the reference -/
noncomputable def secF (S : Int → Prop) (b c : F1) : Nat → Int
  | 0 => 0
  | k + 1 => secF S b c k + pick (S k) (c k - b k) 0
theorem secF_s {S : Int → Prop} {b c : F1} {k : Int} (h : 0 ≤ k) : secF S b c (k + 1).toNat = secF S b c k.toNat + pick (S k) (c k - b k) 0 := by
  rw [(nat1 h).1]
  show _ + pick (S (k.toNat : Nat)) (c (k.toNat : Nat) - b (k.toNat : Nat)) 0 = _
  rw [(nat1 h).2]
theorem secF_c {S S' : Int → Prop} {b b' c c' : F1} : ∀ {n : Nat} (_ : ∀ k : Int, 0 ≤ k → k < n → (S' k ↔ S k) ∧ b' k = b k ∧ c' k = c k), secF S' b' c' n = secF S b c n
  | 0, _ => rfl
  | n + 1, h => by
    have h1 := h n (by omega) (by omega)
    unfold secF
    rw [secF_c (n := n) (fun k a b => h k a (by omega)), h1.2.1, h1.2.2]
    congr 1
    exact pick_c h1.1 rfl rfl
set_option maxHeartbeats 4000000 in
theorem c_X12_secondsOf {E : ET} {I : MI} {L : ML} {R : MR} {Q : Option AV → MI → ML → MR → Prop} {r b c : F1} {set : Int} (hT : Topo R) (er : I 141 = r) (eb : I 150 = b) (ec : I 151 = c) (hr : WFr r) (h : Q (some (vi (secF (fun k => hasI set k) b c (r 7).toNat))) I L R) : CT E M_X12_secondsOf 161 yX12_secondsOf [(vr (138)), (vi (set))] I L R Q := by
  refine CT_of rfl rfl (fun h => by cases h) (Nat.le_of_ble_eq_true rfl) (fun X => ?_)
  show V X _ z0 0 [some (vr (138)), some (vi (set)), none, none] [] I L R _
  have e0 := hr.1
  have loop : ∀ (f : Nat) (k : Int), r 7 - k < (f : Int) → 0 ≤ k → k ≤ r 7 → V X M_X12_secondsOf z0 4 [some (vr (138)), some (vi (set)), some (vi (secF (fun k => hasI set k) b c k.toNat)), some (vi (k))] [] (I) L R (RT X M_X12_secondsOf Q) := by
    intro f
    induction f with
    | zero => intro k h1 h2 h3; omega
    | succ f ih =>
      intro k h1 h2 h3
      have s1 := secF_s (S := fun k => hasI set k) (b := b) (c := c) h2
      have ih' := ih (k + 1)
      rw [s1] at ih'
      refine s_iload_n 5 dX12_secondsOf_4 rfl rfl ?_
      refine s_aload_n 6 dX12_secondsOf_5 rfl rfl ?_
      refine s_getR 9 dX12_secondsOf_6 rfl fl_X12_20 (fun _ _ _ _ => rfl) (T_X12_r hT) sh_138 (Nat.le_of_ble_eq_true rfl) ?_
      refine s_bipush 11 dX12_secondsOf_9 rfl (by decide) ?_
      refine s_iald 12 dX12_secondsOf_11 rfl sh_141 (Nat.le_of_ble_eq_true rfl) (by omega) (by omega) (fun r_11 => ?_)
      rw [er] at r_11 ⊢
      refine s_icmp_ge 49 15 dX12_secondsOf_12 rfl rfl (by first | omega | exact bI_r _ | exact iI_r _) (by first | omega | exact bI_r _ | exact iI_r _) (fun h_12 => ?_) (fun h_12 => ?_)
      · skip
        refine s_iload_n 50 dX12_secondsOf_49 rfl rfl ?_
        refine s_iret dX12_secondsOf_50 rfl rfl ?_
        have ek : k = r 7 := by omega
        subst ek; exact h
      refine s_iload_n 16 dX12_secondsOf_15 rfl rfl ?_
      refine s_iload_n 17 dX12_secondsOf_16 rfl rfl ?_
      refine s_iload_n 18 dX12_secondsOf_17 rfl rfl ?_
      refine s_callS0 (M' := M_X12_has) (as := [_, _]) 21 dX12_secondsOf_18 rfl cw_X12_278 rfl rfl (Nat.le_of_ble_eq_true rfl) (Nat.le_of_ble_eq_true rfl) (Nat.le_of_ble_eq_true rfl) ⟨rfl, rfl, rfl⟩ ?_
      refine c_X12_has ?_
      refine s_ifb_eq 40 24 dX12_secondsOf_21 rfl rfl (fun h_21 => ?_) (fun h_21 => ?_)
      · skip
        refine s_iconst 41 dX12_secondsOf_40 rfl ?_
        refine s_iadd 42 dX12_secondsOf_41 rfl ?_
        refine s_istore_n (ls' := [_, _, _, _]) 43 dX12_secondsOf_42 rfl (Nat.le_of_ble_eq_true rfl) rfl rfl ?_
        refine s_iinc (ls' := [_, _, _, _]) 46 dX12_secondsOf_43 rfl rfl (Nat.le_of_ble_eq_true rfl) rfl rfl ?_
        refine s_goto 4 dX12_secondsOf_46 rfl ?_
        first | (rw [pick_t (by assumption)] at ih'; exact ih' (by omega) (by omega) (by omega)) | (rw [pick_f (by assumption)] at ih'; exact ih' (by omega) (by omega) (by omega))
      refine s_aload_n 25 dX12_secondsOf_24 rfl rfl ?_
      refine s_getR 28 dX12_secondsOf_25 rfl fl_X12_50 (fun _ _ _ _ => rfl) (T_X12_close hT) sh_138 (Nat.le_of_ble_eq_true rfl) ?_
      refine s_iload_n 29 dX12_secondsOf_28 rfl rfl ?_
      refine s_iald 30 dX12_secondsOf_29 rfl sh_151 (Nat.le_of_ble_eq_true rfl) (by omega) (by omega) (fun r_29 => ?_)
      rw [ec] at r_29 ⊢
      refine s_aload_n 31 dX12_secondsOf_30 rfl rfl ?_
      refine s_getR 34 dX12_secondsOf_31 rfl fl_X12_47 (fun _ _ _ _ => rfl) (T_X12_begin hT) sh_138 (Nat.le_of_ble_eq_true rfl) ?_
      refine s_iload_n 35 dX12_secondsOf_34 rfl rfl ?_
      refine s_iald 36 dX12_secondsOf_35 rfl sh_150 (Nat.le_of_ble_eq_true rfl) (by omega) (by omega) (fun r_35 => ?_)
      rw [eb] at r_35 ⊢
      refine s_isub 37 dX12_secondsOf_36 rfl ?_
      refine s_goto 41 dX12_secondsOf_37 rfl ?_
      refine s_iadd 42 dX12_secondsOf_41 rfl ?_
      refine s_istore_n (ls' := [_, _, _, _]) 43 dX12_secondsOf_42 rfl (Nat.le_of_ble_eq_true rfl) rfl rfl ?_
      refine s_iinc (ls' := [_, _, _, _]) 46 dX12_secondsOf_43 rfl rfl (Nat.le_of_ble_eq_true rfl) rfl rfl ?_
      refine s_goto 4 dX12_secondsOf_46 rfl ?_
      first | (rw [pick_t (by assumption)] at ih'; exact ih' (by omega) (by omega) (by omega)) | (rw [pick_f (by assumption)] at ih'; exact ih' (by omega) (by omega) (by omega))
  refine s_iconst 1 dX12_secondsOf_0 rfl ?_
  refine s_istore_n (ls' := [_, _, _, _]) 2 dX12_secondsOf_1 rfl (Nat.le_of_ble_eq_true rfl) rfl rfl ?_
  refine s_iconst 3 dX12_secondsOf_2 rfl ?_
  refine s_istore_n (ls' := [_, _, _, _]) 4 dX12_secondsOf_3 rfl (Nat.le_of_ble_eq_true rfl) rfl rfl ?_
  exact loop (r 7 + 1).toNat 0 (by omega) (by omega) (by omega)
/-- walks, unlike parts, seconds of CHANGES -/
def tmS (r : F1) (w k l : Int) : Int := if w = 1 then (if r (54 + 7 * k + 5) = r (54 + 7 * l + 4) then 0 else 1) else if w = 2 then (if r (54 + 7 * k + 0) = r (54 + 7 * l + 0) then 0 else 1) else chF r (-1) (r (54 + 7 * k + 0)) (r (54 + 7 * l + 0))
noncomputable def chS (r : F1) (w : Int) (B : Int → Prop) (q : F1) : Nat → Int
  | 0 => 0
  | i + 1 => chS r w B q i + pick (B (q i) ∧ 0 ≤ laF B q i) (tmS r w (laF B q i) (q i)) 0
theorem chS_s {r : F1} {w : Int} {B : Int → Prop} {q : F1} {i : Int} (h : 0 ≤ i) : chS r w B q (i + 1).toNat = chS r w B q i.toNat + pick (B (q i) ∧ 0 ≤ laF B q i.toNat) (tmS r w (laF B q i.toNat) (q i)) 0 := by
  rw [(nat1 h).1]
  show _ + pick (B (q (i.toNat : Nat)) ∧ _) (tmS r w _ (q (i.toNat : Nat))) 0 = _
  rw [(nat1 h).2]
theorem chS_c {r : F1} {w : Int} {B B' : Int → Prop} {q q' : F1} : ∀ {i : Nat} (_ : ∀ j : Int, 0 ≤ j → j < i → q' j = q j ∧ (B' (q j) ↔ B (q j))), chS r w B' q' i = chS r w B q i
  | 0, _ => rfl
  | i + 1, h => by
    have h1 := h i (by omega) (by omega)
    have e1 := laF_c (B := B) (B' := B') (q := q) (q' := q') (i := i) (fun j a b => h j a (by omega))
    unfold chS
    rw [chS_c (i := i) (fun j a b => h j a (by omega)), e1, h1.1]
    congr 1
    exact pick_c (by rw [h1.2]) rfl rfl
/-- what sweat tells -/
noncomputable def swtF (r b c : F1) (q : F1) (S : Int → Prop) (w : Int) : Int := if w = 0 then secF (Bod r q S) b c (r 7).toNat else if w = 4 then secF (fun k => S k ∧ behP r k) b c (r 7).toNat else if w = 5 then secF (fun k => S k ∧ pupP r k) b c (r 7).toNat else chS r w (Bod r q S) q (r 7).toNat
set_option maxHeartbeats 4000000 in
theorem c_X12_sweat {E : ET} {I : MI} {L : ML} {R : MR} {Q : Option AV → MI → ML → MR → Prop} {r s : F1} {a : List Int} {HP : Prop} {i w : Int} (hT : Topo R) (er : I 141 = r) (es : I 143 = s) (erd : I 138 30 = -1) (ehp : I 138 14 = bI HP) (hr : HP → SOk r s a) (hi : -2147483648 ≤ i ∧ i ≤ 2147483647) (hw : -2147483648 ≤ w ∧ w ≤ 2147483647) (h : ∀ I', Eqo MS (gd I (pick ((HP ∧ 0 ≤ i ∧ i < 7) ∧ 0 ≤ w ∧ w ≤ 5) 0 1)) I' → Q (some (vi (pick ((HP ∧ 0 ≤ i ∧ i < 7) ∧ 0 ≤ w ∧ w ≤ 5) (swtF r (bgF r (r 2) s) (clF r (r 2) s) (sqF r (r 2) s) (Ons r s i) w) (-1)))) I' L R) : CT E M_X12_sweat 161 yX12_sweat [(vr (138)), (vi (i)), (vi (w))] I L R Q := by
  refine CT_of rfl rfl (fun h => by cases h) (Nat.le_of_ble_eq_true rfl) (fun X => ?_)
  show V X _ z0 0 [some (vr (138)), some (vi (i)), some (vi (w)), none, none, none, none, none, none] [] I L R _
  have hno := (pick_spl h).1
  have hye := (pick_spl h).2
  have er1 : up (up I 138 0 0) 138 11 0 141 = r := (gd_n (by decide)).trans er
  have es1 : up (up I 138 0 0) 138 11 0 143 = s := (gd_n (by decide)).trans es
  have erd1 : up (up I 138 0 0) 138 11 0 138 30 = -1 := (gd_f (by decide)).trans erd
  have ehp1 : up (up I 138 0 0) 138 11 0 138 14 = bI HP := (gd_f (by decide)).trans ehp
  have hr1 : HP → WFr r := fun z => (hr z).1
  have loop : HP → 1 ≤ w ∧ w ≤ 3 → ∀ (q : F1) (Os Bs : Int) (B : Int → Prop) (I1 : MI), I1 141 = r → I1 138 30 = -1 → I1 152 = q → (∀ k, 0 ≤ k → k < r 7 → (hasI Bs k ↔ B k)) → (∀ k, 0 ≤ k → k < r 7 → 0 ≤ q k ∧ q k < r 7) →
      Q (some (vi (chS r w B q (r 7).toNat))) I1 L R → ∀ (f : Nat) (t : Int) (w8 : Option AV), r 7 - t < (f : Int) → 0 ≤ t → t ≤ r 7 → V X M_X12_sweat z0 98 [some (vr 138), some (vi i), some (vi w), some (vi Os), some (vi Bs), some (vi (laF B q t.toNat)), some (vi (chS r w B q t.toNat)), some (vi t), w8] [] I1 L R (RT X M_X12_sweat Q) := by
    intro hP hw3 q Os Bs B I1 er erd eq hB hq hQ f
    have hr := (hr hP).1
    have e0 := hr.1
    induction f with
    | zero => intro t w8 h1 h2 h3; omega
    | succ f ih =>
      intro t w8 h1 h2 h3
      refine s_iload 100 dX12_sweat_98 rfl rfl ?_
      refine s_aload_n 101 dX12_sweat_100 rfl rfl ?_
      refine s_getR 104 dX12_sweat_101 rfl fl_X12_20 (fun _ _ _ _ => rfl) (T_X12_r hT) sh_138 (Nat.le_of_ble_eq_true rfl) ?_
      refine s_bipush 106 dX12_sweat_104 rfl (by decide) ?_
      refine s_iald 107 dX12_sweat_106 rfl sh_141 (Nat.le_of_ble_eq_true rfl) (by omega) (by omega) (fun r_106 => ?_)
      rw [er] at r_106 ⊢
      refine s_icmp_ge 230 110 dX12_sweat_107 rfl rfl (by first | omega | exact bI_r _ | exact iI_r _) (by first | omega | exact bI_r _ | exact iI_r _) (fun h_107 => ?_) (fun h_107 => ?_)
      · skip
        refine s_iload 232 dX12_sweat_230 rfl rfl ?_
        refine s_iret dX12_sweat_232 rfl rfl ?_
        rw [show t = r 7 by omega]; exact hQ
      skip
      have q1 := hq t h2 (by omega)
      have s1 := laF_s (B := B) (q := q) h2
      have s3 := chS_s (r := r) (w := w) (B := B) (q := q) h2
      have lb := laF_b (B := B) hq t.toNat (by omega)
      have ih' := ih (t + 1)
      by_cases hBt : B (q t)
      · have h5 := (hB _ q1.1 q1.2).mpr hBt
        rw [s1, s3, pick_t hBt] at ih'
        by_cases hl : 0 ≤ laF B q t.toNat
        · have k1 := hr.2.2.2.1 (q t) q1.1 q1.2
          have k2 := hr.2.2.2.1 (laF B q t.toNat) hl (lb.2 hl)
          rw [pick_t ⟨hBt, hl⟩] at ih'
          unfold tmS at ih'
          refine s_aload_n 111 dX12_sweat_110 rfl rfl ?_
          refine s_getR 114 dX12_sweat_111 rfl fl_X12_53 (fun _ _ _ _ => rfl) (T_X12_inTime hT) sh_138 (Nat.le_of_ble_eq_true rfl) ?_
          refine s_iload 116 dX12_sweat_114 rfl rfl ?_
          refine s_iald 117 dX12_sweat_116 rfl sh_152 (Nat.le_of_ble_eq_true rfl) (by omega) (by omega) (fun r_116 => ?_)
          rw [eq] at r_116 ⊢
          refine s_istore (ls' := [_, _, _, _, _, _, _, _, _]) 119 dX12_sweat_117 rfl (Nat.le_of_ble_eq_true rfl) rfl rfl ?_
          refine s_iload 121 dX12_sweat_119 rfl rfl ?_
          refine s_iload 123 dX12_sweat_121 rfl rfl ?_
          refine s_callS0 (M' := M_X12_has) (as := [_, _]) 126 dX12_sweat_123 rfl cw_X12_278 rfl rfl (Nat.le_of_ble_eq_true rfl) (Nat.le_of_ble_eq_true rfl) (Nat.le_of_ble_eq_true rfl) ⟨rfl, rfl, rfl⟩ ?_
          refine c_X12_has ?_
          refine s_ifb_ne 132 129 dX12_sweat_126 rfl rfl (fun h_126 => ?_) (fun h_126 => by exfalso; exact absurd h5 h_126)
          refine s_iload 134 dX12_sweat_132 rfl rfl ?_
          refine s_if_lt 220 137 dX12_sweat_134 rfl rfl (by first | omega | exact bI_r _ | exact iI_r _) (fun h_134 => by exfalso; omega) (fun h_134 => ?_)
          refine s_iload 139 dX12_sweat_137 rfl rfl ?_
          refine s_iload_n 140 dX12_sweat_139 rfl rfl ?_
          refine s_iconst 141 dX12_sweat_140 rfl ?_
          refine s_icmp_ne 169 144 dX12_sweat_141 rfl rfl (by first | omega | exact bI_r _ | exact iI_r _) (by first | omega | exact bI_r _ | exact iI_r _) (fun h_141 => ?_) (fun h_141 => ?_)
          · skip
            refine s_iload_n 170 dX12_sweat_169 rfl rfl ?_
            refine s_iconst 171 dX12_sweat_170 rfl ?_
            refine s_icmp_ne 199 174 dX12_sweat_171 rfl rfl (by first | omega | exact bI_r _ | exact iI_r _) (by first | omega | exact bI_r _ | exact iI_r _) (fun h_171 => ?_) (fun h_171 => ?_)
            · skip
              refine s_aload_n 200 dX12_sweat_199 rfl rfl ?_
              refine s_aload_n 201 dX12_sweat_200 rfl rfl ?_
              refine s_iload 203 dX12_sweat_201 rfl rfl ?_
              refine s_iconst 204 dX12_sweat_203 rfl ?_
              refine s_callV0 (M' := M_X12_onOf) (as := [_, _]) 207 dX12_sweat_204 rfl cw_X12_302 rfl rfl sh_138 rfl (by decide) (Nat.le_of_ble_eq_true rfl) (Nat.le_of_ble_eq_true rfl) (Nat.le_of_ble_eq_true rfl) (Nat.le_of_ble_eq_true rfl) ⟨rfl, rfl, rfl⟩ ?_
              refine c_X12_onOf hT er (by omega) (by omega) ?_
              refine s_aload_n 208 dX12_sweat_207 rfl rfl ?_
              refine s_iload 210 dX12_sweat_208 rfl rfl ?_
              refine s_iconst 211 dX12_sweat_210 rfl ?_
              refine s_callV0 (M' := M_X12_onOf) (as := [_, _]) 214 dX12_sweat_211 rfl cw_X12_302 rfl rfl sh_138 rfl (by decide) (Nat.le_of_ble_eq_true rfl) (Nat.le_of_ble_eq_true rfl) (Nat.le_of_ble_eq_true rfl) (Nat.le_of_ble_eq_true rfl) ⟨rfl, rfl, rfl⟩ ?_
              refine c_X12_onOf hT er (by omega) (by omega) ?_
              refine s_callV0 (M' := M_X12_changeOf) (as := [_, _]) 217 dX12_sweat_214 rfl cw_X12_315 rfl rfl sh_138 rfl (by decide) (Nat.le_of_ble_eq_true rfl) (Nat.le_of_ble_eq_true rfl) (Nat.le_of_ble_eq_true rfl) (Nat.le_of_ble_eq_true rfl) ⟨rfl, rfl, rfl⟩ ?_
              refine c_X12_changeOf hT er erd hr (by omega) (by omega) ?_
              refine s_iadd 218 dX12_sweat_217 rfl ?_
              refine s_istore (ls' := [_, _, _, _, _, _, _, _, _]) 220 dX12_sweat_218 rfl (Nat.le_of_ble_eq_true rfl) rfl rfl ?_
              refine s_iload 222 dX12_sweat_220 rfl rfl ?_
              refine s_istore (ls' := [_, _, _, _, _, _, _, _, _]) 224 dX12_sweat_222 rfl (Nat.le_of_ble_eq_true rfl) rfl rfl ?_
              refine s_iinc (ls' := [_, _, _, _, _, _, _, _, _]) 227 dX12_sweat_224 rfl rfl (Nat.le_of_ble_eq_true rfl) rfl rfl ?_
              refine s_goto 98 dX12_sweat_227 rfl ?_
              first | (rw [if_pos (by omega)] at ih'; first | (rw [if_pos (by omega)] at ih'; exact ih' _ (by omega) (by omega) (by omega)) | (rw [if_neg (by omega)] at ih'; exact ih' _ (by omega) (by omega) (by omega))) | (rw [if_neg (by omega)] at ih'; first | (rw [if_pos (by omega)] at ih'; first | (rw [if_pos (by omega)] at ih'; exact ih' _ (by omega) (by omega) (by omega)) | (rw [if_neg (by omega)] at ih'; exact ih' _ (by omega) (by omega) (by omega))) | (rw [if_neg (by omega)] at ih'; exact ih' _ (by omega) (by omega) (by omega)))
            refine s_aload_n 175 dX12_sweat_174 rfl rfl ?_
            refine s_iload 177 dX12_sweat_175 rfl rfl ?_
            refine s_iconst 178 dX12_sweat_177 rfl ?_
            refine s_callV0 (M' := M_X12_onOf) (as := [_, _]) 181 dX12_sweat_178 rfl cw_X12_302 rfl rfl sh_138 rfl (by decide) (Nat.le_of_ble_eq_true rfl) (Nat.le_of_ble_eq_true rfl) (Nat.le_of_ble_eq_true rfl) (Nat.le_of_ble_eq_true rfl) ⟨rfl, rfl, rfl⟩ ?_
            refine c_X12_onOf hT er (by omega) (by omega) ?_
            refine s_aload_n 182 dX12_sweat_181 rfl rfl ?_
            refine s_iload 184 dX12_sweat_182 rfl rfl ?_
            refine s_iconst 185 dX12_sweat_184 rfl ?_
            refine s_callV0 (M' := M_X12_onOf) (as := [_, _]) 188 dX12_sweat_185 rfl cw_X12_302 rfl rfl sh_138 rfl (by decide) (Nat.le_of_ble_eq_true rfl) (Nat.le_of_ble_eq_true rfl) (Nat.le_of_ble_eq_true rfl) (Nat.le_of_ble_eq_true rfl) ⟨rfl, rfl, rfl⟩ ?_
            refine c_X12_onOf hT er (by omega) (by omega) ?_
            refine s_icmp_eq 195 191 dX12_sweat_188 rfl rfl (by first | omega | exact bI_r _ | exact iI_r _) (by first | omega | exact bI_r _ | exact iI_r _) (fun h_188 => ?_) (fun h_188 => ?_)
            · skip
              refine s_iconst 196 dX12_sweat_195 rfl ?_
              refine s_goto 217 dX12_sweat_196 rfl ?_
              refine s_iadd 218 dX12_sweat_217 rfl ?_
              refine s_istore (ls' := [_, _, _, _, _, _, _, _, _]) 220 dX12_sweat_218 rfl (Nat.le_of_ble_eq_true rfl) rfl rfl ?_
              refine s_iload 222 dX12_sweat_220 rfl rfl ?_
              refine s_istore (ls' := [_, _, _, _, _, _, _, _, _]) 224 dX12_sweat_222 rfl (Nat.le_of_ble_eq_true rfl) rfl rfl ?_
              refine s_iinc (ls' := [_, _, _, _, _, _, _, _, _]) 227 dX12_sweat_224 rfl rfl (Nat.le_of_ble_eq_true rfl) rfl rfl ?_
              refine s_goto 98 dX12_sweat_227 rfl ?_
              first | (rw [if_pos (by omega)] at ih'; first | (rw [if_pos (by omega)] at ih'; exact ih' _ (by omega) (by omega) (by omega)) | (rw [if_neg (by omega)] at ih'; exact ih' _ (by omega) (by omega) (by omega))) | (rw [if_neg (by omega)] at ih'; first | (rw [if_pos (by omega)] at ih'; first | (rw [if_pos (by omega)] at ih'; exact ih' _ (by omega) (by omega) (by omega)) | (rw [if_neg (by omega)] at ih'; exact ih' _ (by omega) (by omega) (by omega))) | (rw [if_neg (by omega)] at ih'; exact ih' _ (by omega) (by omega) (by omega)))
            refine s_iconst 192 dX12_sweat_191 rfl ?_
            refine s_goto 217 dX12_sweat_192 rfl ?_
            refine s_iadd 218 dX12_sweat_217 rfl ?_
            refine s_istore (ls' := [_, _, _, _, _, _, _, _, _]) 220 dX12_sweat_218 rfl (Nat.le_of_ble_eq_true rfl) rfl rfl ?_
            refine s_iload 222 dX12_sweat_220 rfl rfl ?_
            refine s_istore (ls' := [_, _, _, _, _, _, _, _, _]) 224 dX12_sweat_222 rfl (Nat.le_of_ble_eq_true rfl) rfl rfl ?_
            refine s_iinc (ls' := [_, _, _, _, _, _, _, _, _]) 227 dX12_sweat_224 rfl rfl (Nat.le_of_ble_eq_true rfl) rfl rfl ?_
            refine s_goto 98 dX12_sweat_227 rfl ?_
            first | (rw [if_pos (by omega)] at ih'; first | (rw [if_pos (by omega)] at ih'; exact ih' _ (by omega) (by omega) (by omega)) | (rw [if_neg (by omega)] at ih'; exact ih' _ (by omega) (by omega) (by omega))) | (rw [if_neg (by omega)] at ih'; first | (rw [if_pos (by omega)] at ih'; first | (rw [if_pos (by omega)] at ih'; exact ih' _ (by omega) (by omega) (by omega)) | (rw [if_neg (by omega)] at ih'; exact ih' _ (by omega) (by omega) (by omega))) | (rw [if_neg (by omega)] at ih'; exact ih' _ (by omega) (by omega) (by omega)))
          refine s_aload_n 145 dX12_sweat_144 rfl rfl ?_
          refine s_iload 147 dX12_sweat_145 rfl rfl ?_
          refine s_iconst 148 dX12_sweat_147 rfl ?_
          refine s_callV0 (M' := M_X12_onOf) (as := [_, _]) 151 dX12_sweat_148 rfl cw_X12_302 rfl rfl sh_138 rfl (by decide) (Nat.le_of_ble_eq_true rfl) (Nat.le_of_ble_eq_true rfl) (Nat.le_of_ble_eq_true rfl) (Nat.le_of_ble_eq_true rfl) ⟨rfl, rfl, rfl⟩ ?_
          refine c_X12_onOf hT er (by omega) (by omega) ?_
          refine s_aload_n 152 dX12_sweat_151 rfl rfl ?_
          refine s_iload 154 dX12_sweat_152 rfl rfl ?_
          refine s_iconst 155 dX12_sweat_154 rfl ?_
          refine s_callV0 (M' := M_X12_onOf) (as := [_, _]) 158 dX12_sweat_155 rfl cw_X12_302 rfl rfl sh_138 rfl (by decide) (Nat.le_of_ble_eq_true rfl) (Nat.le_of_ble_eq_true rfl) (Nat.le_of_ble_eq_true rfl) (Nat.le_of_ble_eq_true rfl) ⟨rfl, rfl, rfl⟩ ?_
          refine c_X12_onOf hT er (by omega) (by omega) ?_
          refine s_icmp_eq 165 161 dX12_sweat_158 rfl rfl (by first | omega | exact bI_r _ | exact iI_r _) (by first | omega | exact bI_r _ | exact iI_r _) (fun h_158 => ?_) (fun h_158 => ?_)
          · skip
            refine s_iconst 166 dX12_sweat_165 rfl ?_
            refine s_goto 217 dX12_sweat_166 rfl ?_
            refine s_iadd 218 dX12_sweat_217 rfl ?_
            refine s_istore (ls' := [_, _, _, _, _, _, _, _, _]) 220 dX12_sweat_218 rfl (Nat.le_of_ble_eq_true rfl) rfl rfl ?_
            refine s_iload 222 dX12_sweat_220 rfl rfl ?_
            refine s_istore (ls' := [_, _, _, _, _, _, _, _, _]) 224 dX12_sweat_222 rfl (Nat.le_of_ble_eq_true rfl) rfl rfl ?_
            refine s_iinc (ls' := [_, _, _, _, _, _, _, _, _]) 227 dX12_sweat_224 rfl rfl (Nat.le_of_ble_eq_true rfl) rfl rfl ?_
            refine s_goto 98 dX12_sweat_227 rfl ?_
            first | (rw [if_pos (by omega)] at ih'; first | (rw [if_pos (by omega)] at ih'; exact ih' _ (by omega) (by omega) (by omega)) | (rw [if_neg (by omega)] at ih'; exact ih' _ (by omega) (by omega) (by omega))) | (rw [if_neg (by omega)] at ih'; first | (rw [if_pos (by omega)] at ih'; first | (rw [if_pos (by omega)] at ih'; exact ih' _ (by omega) (by omega) (by omega)) | (rw [if_neg (by omega)] at ih'; exact ih' _ (by omega) (by omega) (by omega))) | (rw [if_neg (by omega)] at ih'; exact ih' _ (by omega) (by omega) (by omega)))
          refine s_iconst 162 dX12_sweat_161 rfl ?_
          refine s_goto 217 dX12_sweat_162 rfl ?_
          refine s_iadd 218 dX12_sweat_217 rfl ?_
          refine s_istore (ls' := [_, _, _, _, _, _, _, _, _]) 220 dX12_sweat_218 rfl (Nat.le_of_ble_eq_true rfl) rfl rfl ?_
          refine s_iload 222 dX12_sweat_220 rfl rfl ?_
          refine s_istore (ls' := [_, _, _, _, _, _, _, _, _]) 224 dX12_sweat_222 rfl (Nat.le_of_ble_eq_true rfl) rfl rfl ?_
          refine s_iinc (ls' := [_, _, _, _, _, _, _, _, _]) 227 dX12_sweat_224 rfl rfl (Nat.le_of_ble_eq_true rfl) rfl rfl ?_
          refine s_goto 98 dX12_sweat_227 rfl ?_
          first | (rw [if_pos (by omega)] at ih'; first | (rw [if_pos (by omega)] at ih'; exact ih' _ (by omega) (by omega) (by omega)) | (rw [if_neg (by omega)] at ih'; exact ih' _ (by omega) (by omega) (by omega))) | (rw [if_neg (by omega)] at ih'; first | (rw [if_pos (by omega)] at ih'; first | (rw [if_pos (by omega)] at ih'; exact ih' _ (by omega) (by omega) (by omega)) | (rw [if_neg (by omega)] at ih'; exact ih' _ (by omega) (by omega) (by omega))) | (rw [if_neg (by omega)] at ih'; exact ih' _ (by omega) (by omega) (by omega)))
        · rw [pick_f (fun z => hl z.2), show chS r w B q t.toNat + 0 = chS r w B q t.toNat by omega] at ih'
          refine s_aload_n 111 dX12_sweat_110 rfl rfl ?_
          refine s_getR 114 dX12_sweat_111 rfl fl_X12_53 (fun _ _ _ _ => rfl) (T_X12_inTime hT) sh_138 (Nat.le_of_ble_eq_true rfl) ?_
          refine s_iload 116 dX12_sweat_114 rfl rfl ?_
          refine s_iald 117 dX12_sweat_116 rfl sh_152 (Nat.le_of_ble_eq_true rfl) (by omega) (by omega) (fun r_116 => ?_)
          rw [eq] at r_116 ⊢
          refine s_istore (ls' := [_, _, _, _, _, _, _, _, _]) 119 dX12_sweat_117 rfl (Nat.le_of_ble_eq_true rfl) rfl rfl ?_
          refine s_iload 121 dX12_sweat_119 rfl rfl ?_
          refine s_iload 123 dX12_sweat_121 rfl rfl ?_
          refine s_callS0 (M' := M_X12_has) (as := [_, _]) 126 dX12_sweat_123 rfl cw_X12_278 rfl rfl (Nat.le_of_ble_eq_true rfl) (Nat.le_of_ble_eq_true rfl) (Nat.le_of_ble_eq_true rfl) ⟨rfl, rfl, rfl⟩ ?_
          refine c_X12_has ?_
          refine s_ifb_ne 132 129 dX12_sweat_126 rfl rfl (fun h_126 => ?_) (fun h_126 => by exfalso; exact absurd h5 h_126)
          refine s_iload 134 dX12_sweat_132 rfl rfl ?_
          refine s_if_lt 220 137 dX12_sweat_134 rfl rfl (by first | omega | exact bI_r _ | exact iI_r _) (fun h_134 => ?_) (fun h_134 => by exfalso; omega)
          refine s_iload 222 dX12_sweat_220 rfl rfl ?_
          refine s_istore (ls' := [_, _, _, _, _, _, _, _, _]) 224 dX12_sweat_222 rfl (Nat.le_of_ble_eq_true rfl) rfl rfl ?_
          refine s_iinc (ls' := [_, _, _, _, _, _, _, _, _]) 227 dX12_sweat_224 rfl rfl (Nat.le_of_ble_eq_true rfl) rfl rfl ?_
          refine s_goto 98 dX12_sweat_227 rfl ?_
          exact ih' _ (by omega) (by omega) (by omega)
      · have h5 : ¬ hasI Bs (q t) := fun z => hBt ((hB _ q1.1 q1.2).mp z)
        rw [s1, s3, pick_f hBt, pick_f (fun z => hBt z.1), show chS r w B q t.toNat + 0 = chS r w B q t.toNat by omega] at ih'
        refine s_aload_n 111 dX12_sweat_110 rfl rfl ?_
        refine s_getR 114 dX12_sweat_111 rfl fl_X12_53 (fun _ _ _ _ => rfl) (T_X12_inTime hT) sh_138 (Nat.le_of_ble_eq_true rfl) ?_
        refine s_iload 116 dX12_sweat_114 rfl rfl ?_
        refine s_iald 117 dX12_sweat_116 rfl sh_152 (Nat.le_of_ble_eq_true rfl) (by omega) (by omega) (fun r_116 => ?_)
        rw [eq] at r_116 ⊢
        refine s_istore (ls' := [_, _, _, _, _, _, _, _, _]) 119 dX12_sweat_117 rfl (Nat.le_of_ble_eq_true rfl) rfl rfl ?_
        refine s_iload 121 dX12_sweat_119 rfl rfl ?_
        refine s_iload 123 dX12_sweat_121 rfl rfl ?_
        refine s_callS0 (M' := M_X12_has) (as := [_, _]) 126 dX12_sweat_123 rfl cw_X12_278 rfl rfl (Nat.le_of_ble_eq_true rfl) (Nat.le_of_ble_eq_true rfl) (Nat.le_of_ble_eq_true rfl) ⟨rfl, rfl, rfl⟩ ?_
        refine c_X12_has ?_
        refine s_ifb_ne 132 129 dX12_sweat_126 rfl rfl (fun h_126 => by exfalso; exact absurd h_126 h5) (fun h_126 => ?_)
        refine s_goto 224 dX12_sweat_129 rfl ?_
        refine s_iinc (ls' := [_, _, _, _, _, _, _, _, _]) 227 dX12_sweat_224 rfl rfl (Nat.le_of_ble_eq_true rfl) rfl rfl ?_
        refine s_goto 98 dX12_sweat_227 rfl ?_
        exact ih' _ (by omega) (by omega) (by omega)
  by_cases hC : (HP ∧ 0 ≤ i ∧ i < 7) ∧ 0 ≤ w ∧ w ≤ 5
  · have hP := hC.1.1
    have hrr := (hr hP).1
    have e0 := hrr.1
    refine s_aload_n 1 dX12_sweat_0 rfl rfl ?_
    refine s_callV0 (M' := M_X12_good) (as := []) 4 dX12_sweat_1 rfl cw_X12_190 rfl rfl sh_138 rfl (by decide) (Nat.le_of_ble_eq_true rfl) (Nat.le_of_ble_eq_true rfl) (Nat.le_of_ble_eq_true rfl) (Nat.le_of_ble_eq_true rfl) ⟨rfl, rfl, rfl⟩ ?_
    refine c_X12_good ?_
    refine s_aload_n 5 dX12_sweat_4 rfl rfl ?_
    refine s_iload_n 6 dX12_sweat_5 rfl rfl ?_
    refine s_callV0 (M' := M_X12_isPlayer) (as := [_]) 9 dX12_sweat_6 rfl cw_X12_348 rfl rfl sh_138 rfl (by decide) (Nat.le_of_ble_eq_true rfl) (Nat.le_of_ble_eq_true rfl) (Nat.le_of_ble_eq_true rfl) (Nat.le_of_ble_eq_true rfl) ⟨rfl, rfl, rfl⟩ ?_
    refine c_X12_isPlayer ehp1 (by omega) ?_
    refine s_ifb_eq 21 12 dX12_sweat_9 rfl rfl (fun h_9 => by exfalso; exact absurd hC.1 (by assumption)) (fun h_9 => ?_)
    refine s_iload_n 13 dX12_sweat_12 rfl rfl ?_
    refine s_iconst 14 dX12_sweat_13 rfl ?_
    refine s_iconst 15 dX12_sweat_14 rfl ?_
    refine s_callS0 (M' := M_X12_within) (as := [_, _, _]) 18 dX12_sweat_15 rfl cw_X12_174 rfl rfl (Nat.le_of_ble_eq_true rfl) (Nat.le_of_ble_eq_true rfl) (Nat.le_of_ble_eq_true rfl) ⟨rfl, rfl, rfl⟩ ?_
    refine c_X12_within (by omega) (by omega) (by omega) ?_
    refine s_ifb_ne 27 21 dX12_sweat_18 rfl rfl (fun h_18 => ?_) (fun h_18 => by exfalso; exact absurd hC.2 (by assumption))
    refine s_aload_n 28 dX12_sweat_27 rfl rfl ?_
    refine s_aload_n 29 dX12_sweat_28 rfl rfl ?_
    refine s_getR 32 dX12_sweat_29 rfl fl_X12_26 (fun _ _ _ _ => rfl) (T_X12_st hT) sh_138 (Nat.le_of_ble_eq_true rfl) ?_
    refine s_callV0 (M' := M_X12_layTime) (as := [_]) 35 dX12_sweat_32 rfl cw_X12_305 rfl rfl sh_138 rfl (by decide) (Nat.le_of_ble_eq_true rfl) (Nat.le_of_ble_eq_true rfl) (Nat.le_of_ble_eq_true rfl) (Nat.le_of_ble_eq_true rfl) ⟨rfl, rfl, rfl⟩ ?_
    refine c_X12_layTime hT er1 hrr rfl sh_143 (by decide) (by decide) (by decide) es1 (hr hP).p (fun I1 hL => ?_)
    have er : I1 141 = r := (hL.1 141 (by decide)).trans er1
    have es2 : I1 143 = s := (hL.1 143 (by decide)).trans es1
    have erd2 : I1 138 30 = -1 := (congrFun (hL.1 138 (by decide)) 30).trans erd1
    have hE : Eqo MS (gd I 0) I1 := hL.1.mo (by decide)
    obtain ⟨q1, q2⟩ := hL.rep hrr (hr hP).p (by omega)
    have hq0 := hye hC I1 hE
    unfold swtF at hq0
    refine s_aload_n 36 dX12_sweat_35 rfl rfl ?_
    refine s_iload_n 37 dX12_sweat_36 rfl rfl ?_
    refine s_callV0 (M' := M_X12_onsOfPlayer) (as := [_]) 40 dX12_sweat_37 rfl cw_X12_345 rfl rfl sh_138 rfl (by decide) (Nat.le_of_ble_eq_true rfl) (Nat.le_of_ble_eq_true rfl) (Nat.le_of_ble_eq_true rfl) (Nat.le_of_ble_eq_true rfl) ⟨rfl, rfl, rfl⟩ ?_
    refine c_X12_onsOfPlayer hT er es2 hrr (hr hP).2.2.2.1 (by omega) ?_
    have hO : ∀ k, 0 ≤ k → k < r 7 → (hasI (setOf (fun k => s (5 + r (54 + 7 * k + 0)) = i ∧ ¬ hasI (s 12) k) (r 7).toNat) k ↔ Ons r s i k) := fun k q1 q2 => has_Ons hrr ⟨q1, q2⟩
    refine s_istore_n (ls' := [_, _, _, _, _, _, _, _, _]) 41 dX12_sweat_40 rfl (Nat.le_of_ble_eq_true rfl) rfl rfl ?_
    refine s_aload_n 42 dX12_sweat_41 rfl rfl ?_
    refine s_iload_n 43 dX12_sweat_42 rfl rfl ?_
    refine s_callV0 (M' := M_X12_bodilyOf) (as := [_]) 46 dX12_sweat_43 rfl cw_X12_330 rfl rfl sh_138 rfl (by decide) (Nat.le_of_ble_eq_true rfl) (Nat.le_of_ble_eq_true rfl) (Nat.le_of_ble_eq_true rfl) (Nat.le_of_ble_eq_true rfl) ⟨rfl, rfl, rfl⟩ ?_
    refine c_X12_bodilyOf hT er rfl hrr q1 (fun B hB => ?_)
    have hBb : ∀ k, 0 ≤ k → k < r 7 → (hasI B k ↔ Bod r (sqF r (r 2) s) (Ons r s i) k) := fun k z1 z2 => (hB.2 k z1 (by omega)).trans (hL.bod hrr hO)
    refine s_istore (ls' := [_, _, _, _, _, _, _, _, _]) 48 dX12_sweat_46 rfl (Nat.le_of_ble_eq_true rfl) rfl rfl ?_
    refine s_iload_n 49 dX12_sweat_48 rfl rfl ?_
    refine s_if_ne 59 52 dX12_sweat_49 rfl rfl (by first | omega | exact bI_r _ | exact iI_r _) (fun h_49 => ?_) (fun h_49 => ?_)
    · skip
      refine s_iload_n 60 dX12_sweat_59 rfl rfl ?_
      refine s_iconst 61 dX12_sweat_60 rfl ?_
      refine s_icmp_ne 74 64 dX12_sweat_61 rfl rfl (by first | omega | exact bI_r _ | exact iI_r _) (by first | omega | exact bI_r _ | exact iI_r _) (fun h_61 => ?_) (fun h_61 => ?_)
      · skip
        refine s_iload_n 75 dX12_sweat_74 rfl rfl ?_
        refine s_iconst 76 dX12_sweat_75 rfl ?_
        refine s_icmp_ne 89 79 dX12_sweat_76 rfl rfl (by first | omega | exact bI_r _ | exact iI_r _) (by first | omega | exact bI_r _ | exact iI_r _) (fun h_76 => ?_) (fun h_76 => ?_)
        · skip
          refine s_iconst 90 dX12_sweat_89 rfl ?_
          refine s_istore (ls' := [_, _, _, _, _, _, _, _, _]) 92 dX12_sweat_90 rfl (Nat.le_of_ble_eq_true rfl) rfl rfl ?_
          refine s_iconst 93 dX12_sweat_92 rfl ?_
          refine s_istore (ls' := [_, _, _, _, _, _, _, _, _]) 95 dX12_sweat_93 rfl (Nat.le_of_ble_eq_true rfl) rfl rfl ?_
          refine s_iconst 96 dX12_sweat_95 rfl ?_
          refine s_istore (ls' := [_, _, _, _, _, _, _, _, _]) 98 dX12_sweat_96 rfl (Nat.le_of_ble_eq_true rfl) rfl rfl ?_
          rw [if_neg (by omega), if_neg (by omega), if_neg (by omega)] at hq0
          rw [← chS_c (B' := Bod r (sqF r (r 2) s) (Ons r s i)) (q' := I1 152) (fun j z1 z2 => ⟨hL.2.2.2 j z1 (by omega), Iff.rfl⟩)] at hq0
          exact loop hP (by omega) _ _ B (Bod r (sqF r (r 2) s) (Ons r s i)) I1 er erd2 rfl hBb q1.1 hq0 (r 7 + 1).toNat 0 none (by omega) (by omega) (by omega)
        refine s_aload_n 80 dX12_sweat_79 rfl rfl ?_
        refine s_aload_n 81 dX12_sweat_80 rfl rfl ?_
        refine s_iload_n 82 dX12_sweat_81 rfl rfl ?_
        refine s_callV0 (M' := M_X12_puppetsOf) (as := [_]) 85 dX12_sweat_82 rfl cw_X12_333 rfl rfl sh_138 rfl (by decide) (Nat.le_of_ble_eq_true rfl) (Nat.le_of_ble_eq_true rfl) (Nat.le_of_ble_eq_true rfl) (Nat.le_of_ble_eq_true rfl) ⟨rfl, rfl, rfl⟩ ?_
        refine c_X12_puppetsOf hT er hrr ?_
        refine s_callV0 (M' := M_X12_secondsOf) (as := [_]) 88 dX12_sweat_85 rfl cw_X12_357 rfl rfl sh_138 rfl (by decide) (Nat.le_of_ble_eq_true rfl) (Nat.le_of_ble_eq_true rfl) (Nat.le_of_ble_eq_true rfl) (Nat.le_of_ble_eq_true rfl) ⟨rfl, rfl, rfl⟩ ?_
        refine c_X12_secondsOf hT er rfl rfl hrr ?_
        refine s_iret dX12_sweat_88 rfl rfl ?_
        rw [if_neg (by omega), if_neg (by omega), if_pos (by omega)] at hq0
        rw [secF_c (S := fun k => Ons r s i k ∧ pupP r k) (b := bgF r (r 2) s) (c := clF r (r 2) s) (fun k z1 z2 => ⟨by rw [has_setOf (by omega) (by omega), hO k z1 (by omega)]; exact ⟨fun z => z.2, fun z => ⟨by omega, z⟩⟩, hL.2.2.1 k z1 (by omega)⟩)]
        exact hq0
      refine s_aload_n 65 dX12_sweat_64 rfl rfl ?_
      refine s_aload_n 66 dX12_sweat_65 rfl rfl ?_
      refine s_iload_n 67 dX12_sweat_66 rfl rfl ?_
      refine s_callV0 (M' := M_X12_behindOf) (as := [_]) 70 dX12_sweat_67 rfl cw_X12_327 rfl rfl sh_138 rfl (by decide) (Nat.le_of_ble_eq_true rfl) (Nat.le_of_ble_eq_true rfl) (Nat.le_of_ble_eq_true rfl) (Nat.le_of_ble_eq_true rfl) ⟨rfl, rfl, rfl⟩ ?_
      refine c_X12_behindOf hT er hrr ?_
      refine s_callV0 (M' := M_X12_secondsOf) (as := [_]) 73 dX12_sweat_70 rfl cw_X12_357 rfl rfl sh_138 rfl (by decide) (Nat.le_of_ble_eq_true rfl) (Nat.le_of_ble_eq_true rfl) (Nat.le_of_ble_eq_true rfl) (Nat.le_of_ble_eq_true rfl) ⟨rfl, rfl, rfl⟩ ?_
      refine c_X12_secondsOf hT er rfl rfl hrr ?_
      refine s_iret dX12_sweat_73 rfl rfl ?_
      rw [if_neg (by omega), if_pos (by omega)] at hq0
      rw [secF_c (S := fun k => Ons r s i k ∧ behP r k) (b := bgF r (r 2) s) (c := clF r (r 2) s) (fun k z1 z2 => ⟨by rw [has_setOf (by omega) (by omega), hO k z1 (by omega)]; exact ⟨fun z => z.2, fun z => ⟨by omega, z⟩⟩, hL.2.2.1 k z1 (by omega)⟩)]
      exact hq0
    refine s_aload_n 53 dX12_sweat_52 rfl rfl ?_
    refine s_iload 55 dX12_sweat_53 rfl rfl ?_
    refine s_callV0 (M' := M_X12_secondsOf) (as := [_]) 58 dX12_sweat_55 rfl cw_X12_357 rfl rfl sh_138 rfl (by decide) (Nat.le_of_ble_eq_true rfl) (Nat.le_of_ble_eq_true rfl) (Nat.le_of_ble_eq_true rfl) (Nat.le_of_ble_eq_true rfl) ⟨rfl, rfl, rfl⟩ ?_
    refine c_X12_secondsOf hT er rfl rfl hrr ?_
    refine s_iret dX12_sweat_58 rfl rfl ?_
    rw [if_pos (by omega)] at hq0
    rw [secF_c (S := Bod r (sqF r (r 2) s) (Ons r s i)) (b := bgF r (r 2) s) (c := clF r (r 2) s) (fun k z1 z2 => ⟨hBb k z1 (by omega), hL.2.2.1 k z1 (by omega)⟩)]
    exact hq0
  · skip
    refine s_aload_n 1 dX12_sweat_0 rfl rfl ?_
    refine s_callV0 (M' := M_X12_good) (as := []) 4 dX12_sweat_1 rfl cw_X12_190 rfl rfl sh_138 rfl (by decide) (Nat.le_of_ble_eq_true rfl) (Nat.le_of_ble_eq_true rfl) (Nat.le_of_ble_eq_true rfl) (Nat.le_of_ble_eq_true rfl) ⟨rfl, rfl, rfl⟩ ?_
    refine c_X12_good ?_
    refine s_aload_n 5 dX12_sweat_4 rfl rfl ?_
    refine s_iload_n 6 dX12_sweat_5 rfl rfl ?_
    refine s_callV0 (M' := M_X12_isPlayer) (as := [_]) 9 dX12_sweat_6 rfl cw_X12_348 rfl rfl sh_138 rfl (by decide) (Nat.le_of_ble_eq_true rfl) (Nat.le_of_ble_eq_true rfl) (Nat.le_of_ble_eq_true rfl) (Nat.le_of_ble_eq_true rfl) ⟨rfl, rfl, rfl⟩ ?_
    refine c_X12_isPlayer ehp1 (by omega) ?_
    refine s_ifb_eq 21 12 dX12_sweat_9 rfl rfl (fun h_9 => ?_) (fun h_9 => ?_)
    · skip
      refine s_aload_n 22 dX12_sweat_21 rfl rfl ?_
      refine s_iconst 23 dX12_sweat_22 rfl ?_
      refine s_callV0 (M' := M_X12_no) (as := [_]) 26 dX12_sweat_23 rfl cw_X12_193 rfl rfl sh_138 rfl (by decide) (Nat.le_of_ble_eq_true rfl) (Nat.le_of_ble_eq_true rfl) (Nat.le_of_ble_eq_true rfl) (Nat.le_of_ble_eq_true rfl) ⟨rfl, rfl, rfl⟩ ?_
      refine c_X12_no (by decide) ?_
      first | rw [show up (up (up I 138 0 0) 138 11 0) 138 11 1 = gd I 1 from gd_no] | rw [show up (up (up I 138 0 0) 138 11 0) 138 11 2 = gd I 2 from gd_no]
      refine s_iret dX12_sweat_26 rfl rfl ?_
      exact hno hC
    refine s_iload_n 13 dX12_sweat_12 rfl rfl ?_
    refine s_iconst 14 dX12_sweat_13 rfl ?_
    refine s_iconst 15 dX12_sweat_14 rfl ?_
    refine s_callS0 (M' := M_X12_within) (as := [_, _, _]) 18 dX12_sweat_15 rfl cw_X12_174 rfl rfl (Nat.le_of_ble_eq_true rfl) (Nat.le_of_ble_eq_true rfl) (Nat.le_of_ble_eq_true rfl) ⟨rfl, rfl, rfl⟩ ?_
    refine c_X12_within (by omega) (by omega) (by omega) ?_
    refine s_ifb_ne 27 21 dX12_sweat_18 rfl rfl (fun h_18 => ?_) (fun h_18 => ?_)
    · skip
      exact absurd ⟨by assumption, by assumption⟩ hC
    refine s_aload_n 22 dX12_sweat_21 rfl rfl ?_
    refine s_iconst 23 dX12_sweat_22 rfl ?_
    refine s_callV0 (M' := M_X12_no) (as := [_]) 26 dX12_sweat_23 rfl cw_X12_193 rfl rfl sh_138 rfl (by decide) (Nat.le_of_ble_eq_true rfl) (Nat.le_of_ble_eq_true rfl) (Nat.le_of_ble_eq_true rfl) (Nat.le_of_ble_eq_true rfl) ⟨rfl, rfl, rfl⟩ ?_
    refine c_X12_no (by decide) ?_
    first | rw [show up (up (up I 138 0 0) 138 11 0) 138 11 1 = gd I 1 from gd_no] | rw [show up (up (up I 138 0 0) 138 11 0) 138 11 2 = gd I 2 from gd_no]
    refine s_iret dX12_sweat_26 rfl rfl ?_
    exact hno hC
