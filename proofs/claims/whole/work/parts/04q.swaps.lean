/-! swaps, by the reference -/
theorem TP_c {r : F1} {rd g cut : Int} {sc sc' : F1} (hr : WFr r) (hp : Perm (r 5) sc) (h : ∀ i, 0 ≤ i → i < r 5 → sc' i = sc i) : TP r rd g sc' cut ↔ TP r rd g sc cut := by
  unfold TP
  rw [MayP_c hr hp h]
def cdL (r : F1) (l : List Int) : Int := cdF (vL l) (r 5).toNat
/-- the queue in the memory -/
def MemQ (r : F1) (w sw : F1) (q : List (List Int × Nat)) : Prop := (∀ k, k < q.length → w k = cdL r (qa q k).1) ∧ (∀ p ∈ q, sw (cdL r p.1) = p.2) ∧ ∀ c, 0 ≤ c → c < 3125 → (∀ p ∈ q, cdL r p.1 ≠ c) → sw c = -1
theorem cdL_b {r : F1} (hr : WFr r) {l : List Int} (hl : l ∈ ordL r) : 0 ≤ cdL r l ∧ cdL r l < 3125 := by
  have e0 := hr.1
  have hp := (ordL_of hr hl).1
  exact cdF_3125 (by omega) (fun k a b => by have := hp.1 k a (by omega); omega)
theorem cdL_inj {r : F1} (hr : WFr r) {l m : List Int} (hl : l ∈ ordL r) (hm : m ∈ ordL r) (h : cdL r l = cdL r m) : l = m := by
  have e0 := hr.1
  have hp := (ordL_of hr hl).1
  have hq := (ordL_of hr hm).1
  exact ordL_ext hr hl hm (fun k a b => cdF_inj (fun k a b => by have := hp.1 k a (by omega); omega) (fun k a b => by have := hq.1 k a (by omega); omega) h k a (by omega))
noncomputable abbrev swapT (r s : F1) (g : Int) : List Int → Prop := fun l => TP r (-1) g (vL l) (s 12)
set_option maxHeartbeats 4000000 in
theorem c_X12_swaps {E : ET} {I : MI} {L : ML} {R : MR} {Q : Option AV → MI → ML → MR → Prop} {r s : F1} {g : Int} {HP : Prop} {a : List Int} (hT : Topo R) (er : I 141 = r) (es : I 143 = s) (erd : I 138 30 = -1) (ehp : I 138 14 = bI HP) (hr : HP → WFr r ∧ r 2 = g ∧ a ∈ ordL r ∧ ∀ k, 0 ≤ k → k < r 5 → s k = vL a k) (h : ∀ I', Eqo MS (gd I (pick HP 0 1)) I' → Q (some (vi (pick HP (swF r (swapT r s g) a) (-1)))) I' L R) : CT E M_X12_swaps 161 yX12_swaps [(vr (138))] I L R Q := by
  refine CT_of rfl rfl (fun h => by cases h) (Nat.le_of_ble_eq_true rfl) (fun X => ?_)
  show V X _ z0 0 [some (vr (138)), none, none, none, none, none, none] [] I L R _
  have main : HP → ∀ (f : Nat) (h0 : Nat) (q : List (List Int × Nat)) (w3 w4 w5 w6 : Option AV) (I1 : MI), 121 - h0 < f → Eqo MS (gd I 0) I1 → BF r (swapT r s g) a q h0 → MemQ r (I1 159) (I1 158) q →
      V X M_X12_swaps z0 69 [some (vr 138), some (vi (q.length : Nat)), some (vi (h0 : Nat)), w3, w4, w5, w6] [] I1 L R (RT X M_X12_swaps Q) := by
    intro hP f
    obtain ⟨hr, eg, ha, hs⟩ := hr hP
    have e0 := hr.1
    rw [pick_t hP, pick_t hP] at h
    induction f with
    | zero => intro h0 q w3 w4 w5 w6 I1 h1 h2 h3; have := h3.len hr; have := h3.le; omega
    | succ f ih =>
      intro h0 q w3 w4 w5 w6 I1 h1 h2 h3 h4
      have hlen := h3.len hr
      have hle := h3.le
      by_cases hh : h0 = q.length
      · have hF := (h3.done hh).v
        refine s_iload_n 70 dX12_swaps_69 rfl rfl ?_
        refine s_iload_n 71 dX12_swaps_70 rfl rfl ?_
        refine s_icmp_ge 226 74 dX12_swaps_71 rfl rfl (by first | omega | exact bI_r _ | exact iI_r _) (by first | omega | exact bI_r _ | exact iI_r _) (fun h_71 => ?_) (fun h_71 => by exfalso; omega)
        refine s_bipush 228 dX12_swaps_226 rfl (by decide) ?_
        refine s_iret dX12_swaps_228 rfl rfl ?_
        rw [← hF]; exact h I1 h2
      · have hlt : h0 < q.length := by omega
        obtain ⟨x, ex⟩ : ∃ x, x = (qa q h0).1 := ⟨_, rfl⟩
        obtain ⟨d, ed⟩ : ∃ d, d = (qa q h0).2 := ⟨_, rfl⟩
        have hxo : x ∈ ordL r := by rw [ex]; exact h3.om _ (qa_mem hlt)
        have hx := ordL_of hr hxo
        have hxb := cdL_b hr hxo
        have hxv : ∀ k, 0 ≤ k → k < r 5 → 0 ≤ vL x k ∧ vL x k < 5 := fun k z1 z2 => by have := hx.1.1 k z1 z2; omega
        have ew : I1 159 (h0 : Nat) = cdL r x := by rw [h4.1 h0 hlt, ex]
        have esw : I1 158 (cdL r x) = d := by rw [ex, ed]; exact h4.2.1 _ (qa_mem hlt)
        -- all that are one swap apart
        have pairs : ∀ (f2 : Nat) (i j : Int) (q2 : List (List Int × Nat)) (w6 : Option AV) (I1 : MI), (5 - i) * 8 + (5 - j) < (f2 : Int) → 0 ≤ i → i < j → i < r 5 → j ≤ r 5 → ¬ swapT r s g x → Eqo MS (gd I 0) I1 → BF r (swapT r s g) a q2 h0 → h0 < q2.length → qa q2 h0 = (x, d) → MemQ r (I1 159) (I1 158) q2 →
            (∀ i' j', 0 ≤ i' → i' < j' → j' < r 5 → (i' < i ∨ (i' = i ∧ j' < j)) → ∀ y ∈ ordL r, (∀ k, 0 ≤ k → k < r 5 → vL y k = tnF (vL x) i' j' k) → y ∈ q2.map Prod.fst) →
            V X M_X12_swaps z0 124 [some (vr 138), some (vi (q2.length : Nat)), some (vi (h0 : Nat)), some (vi (cdL r x)), some (vi i), some (vi j), w6] [] I1 L R (RT X M_X12_swaps Q) := by
          intro f2
          induction f2 with
          | zero => intro i j q2 w6 I1 k1 k2 k3 k4 k5; omega
          | succ f2 ih2 =>
            intro i j q2 w6 I1 k1 k2 k3 k4 k5 k6 k7 k8 k9 k10 k11 k12
            have hlen2 := k8.len hr
            have er1 : I1 141 = r := (k7 141 (by decide)).trans ((gd_n (by decide)).trans er)
            by_cases hj : j = r 5
            · by_cases hi : i + 1 < r 5
              · skip
                refine s_iload 126 dX12_swaps_124 rfl rfl ?_
                refine s_aload_n 127 dX12_swaps_126 rfl rfl ?_
                refine s_getR 130 dX12_swaps_127 rfl fl_X12_20 (fun _ _ _ _ => rfl) (T_X12_r hT) sh_138 (Nat.le_of_ble_eq_true rfl) ?_
                refine s_iconst 131 dX12_swaps_130 rfl ?_
                refine s_iald 132 dX12_swaps_131 rfl sh_141 (Nat.le_of_ble_eq_true rfl) (by omega) (by omega) (fun r_131 => ?_)
                rw [er1] at r_131 ⊢
                refine s_icmp_ge 214 135 dX12_swaps_132 rfl rfl (by first | omega | exact bI_r _ | exact iI_r _) (by first | omega | exact bI_r _ | exact iI_r _) (fun h_132 => ?_) (fun h_132 => by exfalso; omega)
                refine s_iinc (ls' := [_, _, _, _, _, _, _]) 217 dX12_swaps_214 rfl rfl (Nat.le_of_ble_eq_true rfl) rfl rfl ?_
                refine s_goto 107 dX12_swaps_217 rfl ?_
                refine s_iload 109 dX12_swaps_107 rfl rfl ?_
                refine s_aload_n 110 dX12_swaps_109 rfl rfl ?_
                refine s_getR 113 dX12_swaps_110 rfl fl_X12_20 (fun _ _ _ _ => rfl) (T_X12_r hT) sh_138 (Nat.le_of_ble_eq_true rfl) ?_
                refine s_iconst 114 dX12_swaps_113 rfl ?_
                refine s_iald 115 dX12_swaps_114 rfl sh_141 (Nat.le_of_ble_eq_true rfl) (by omega) (by omega) (fun r_114 => ?_)
                rw [er1] at r_114 ⊢
                refine s_icmp_ge 220 118 dX12_swaps_115 rfl rfl (by first | omega | exact bI_r _ | exact iI_r _) (by first | omega | exact bI_r _ | exact iI_r _) (fun h_115 => by exfalso; omega) (fun h_115 => ?_)
                refine s_iload 120 dX12_swaps_118 rfl rfl ?_
                refine s_iconst 121 dX12_swaps_120 rfl ?_
                refine s_iadd 122 dX12_swaps_121 rfl ?_
                refine s_istore (ls' := [_, _, _, _, _, _, _]) 124 dX12_swaps_122 rfl (Nat.le_of_ble_eq_true rfl) rfl rfl ?_
                refine ih2 (i + 1) (i + 1 + 1) q2 _ I1 (by omega) (by omega) (by omega) (by omega) (by omega) k6 k7 k8 k9 k10 k11 (fun i' j' z1 z2 z3 z4 y z5 z6 => k12 i' j' z1 z2 z3 (by omega) y z5 z6)
              · have hB : BF r (swapT r s g) a q2 (h0 + 1) := k8.next k9 (by rw [k10]; exact k6) (fun y hy => by
                  rw [k10] at hy
                  obtain ⟨y1, i', j', y2, y3, y4, y5⟩ := hy
                  exact k12 i' j' y2 y3 y4 (by omega) y y1 y5)
                refine s_iload 126 dX12_swaps_124 rfl rfl ?_
                refine s_aload_n 127 dX12_swaps_126 rfl rfl ?_
                refine s_getR 130 dX12_swaps_127 rfl fl_X12_20 (fun _ _ _ _ => rfl) (T_X12_r hT) sh_138 (Nat.le_of_ble_eq_true rfl) ?_
                refine s_iconst 131 dX12_swaps_130 rfl ?_
                refine s_iald 132 dX12_swaps_131 rfl sh_141 (Nat.le_of_ble_eq_true rfl) (by omega) (by omega) (fun r_131 => ?_)
                rw [er1] at r_131 ⊢
                refine s_icmp_ge 214 135 dX12_swaps_132 rfl rfl (by first | omega | exact bI_r _ | exact iI_r _) (by first | omega | exact bI_r _ | exact iI_r _) (fun h_132 => ?_) (fun h_132 => by exfalso; omega)
                refine s_iinc (ls' := [_, _, _, _, _, _, _]) 217 dX12_swaps_214 rfl rfl (Nat.le_of_ble_eq_true rfl) rfl rfl ?_
                refine s_goto 107 dX12_swaps_217 rfl ?_
                refine s_iload 109 dX12_swaps_107 rfl rfl ?_
                refine s_aload_n 110 dX12_swaps_109 rfl rfl ?_
                refine s_getR 113 dX12_swaps_110 rfl fl_X12_20 (fun _ _ _ _ => rfl) (T_X12_r hT) sh_138 (Nat.le_of_ble_eq_true rfl) ?_
                refine s_iconst 114 dX12_swaps_113 rfl ?_
                refine s_iald 115 dX12_swaps_114 rfl sh_141 (Nat.le_of_ble_eq_true rfl) (by omega) (by omega) (fun r_114 => ?_)
                rw [er1] at r_114 ⊢
                refine s_icmp_ge 220 118 dX12_swaps_115 rfl rfl (by first | omega | exact bI_r _ | exact iI_r _) (by first | omega | exact bI_r _ | exact iI_r _) (fun h_115 => ?_) (fun h_115 => by exfalso; omega)
                refine s_iinc (ls' := [_, _, _, _, _, _, _]) 223 dX12_swaps_220 rfl rfl (Nat.le_of_ble_eq_true rfl) rfl rfl ?_
                refine s_goto 69 dX12_swaps_223 rfl ?_
                exact ih (h0 + 1) q2 _ _ _ _ I1 (by omega) k7 hB k11
            · have hpt := tn_Perm hx.1 ⟨k2, k3⟩ (show j < r 5 by omega)
              have htb : ∀ k, 0 ≤ k → k < r 5 → 0 ≤ tnF (vL x) i j k ∧ tnF (vL x) i j k < 5 := fun k z1 z2 => by have := hpt.1 k z1 z2; omega
              have b208 : ∀ (q3 : List (List Int × Nat)) (w6 : Option AV) (I2 : MI), Eqo MS (gd I 0) I2 → BF r (swapT r s g) a q3 h0 → h0 < q3.length → qa q3 h0 = (x, d) → MemQ r (I2 159) (I2 158) q3 → (∀ y ∈ q2.map Prod.fst, y ∈ q3.map Prod.fst) → (∀ y ∈ ordL r, (∀ k, 0 ≤ k → k < r 5 → vL y k = tnF (vL x) i j k) → y ∈ q3.map Prod.fst) →
                  V X M_X12_swaps z0 208 [some (vr 138), some (vi (q3.length : Nat)), some (vi (h0 : Nat)), some (vi (cdL r x)), some (vi i), some (vi j), w6] [] I2 L R (RT X M_X12_swaps Q) := by
                intro q3 w6 I2 m1 m2 m3 m4 m5 m6 m7
                refine s_iinc (ls' := [_, _, _, _, _, _, _]) 211 dX12_swaps_208 rfl rfl (Nat.le_of_ble_eq_true rfl) rfl rfl ?_
                refine s_goto 124 dX12_swaps_211 rfl ?_
                refine ih2 i (j + 1) q3 _ I2 (by omega) k2 (by omega) k4 (by omega) k6 m1 m2 m3 m4 m5 (fun i' j' z1 z2 z3 z4 y z5 z6 => ?_)
                by_cases z7 : i' = i ∧ j' = j
                · rw [z7.1, z7.2] at z6; exact m7 y z5 z6
                · exact m6 y (k12 i' j' z1 z2 z3 (by omega) y z5 z6)
              refine s_iload 126 dX12_swaps_124 rfl rfl ?_
              refine s_aload_n 127 dX12_swaps_126 rfl rfl ?_
              refine s_getR 130 dX12_swaps_127 rfl fl_X12_20 (fun _ _ _ _ => rfl) (T_X12_r hT) sh_138 (Nat.le_of_ble_eq_true rfl) ?_
              refine s_iconst 131 dX12_swaps_130 rfl ?_
              refine s_iald 132 dX12_swaps_131 rfl sh_141 (Nat.le_of_ble_eq_true rfl) (by omega) (by omega) (fun r_131 => ?_)
              rw [er1] at r_131 ⊢
              refine s_icmp_ge 214 135 dX12_swaps_132 rfl rfl (by first | omega | exact bI_r _ | exact iI_r _) (by first | omega | exact bI_r _ | exact iI_r _) (fun h_132 => by exfalso; omega) (fun h_132 => ?_)
              refine s_aload_n 136 dX12_swaps_135 rfl rfl ?_
              refine s_iload_n 137 dX12_swaps_136 rfl rfl ?_
              refine s_callV0 (M' := M_X12_layRow) (as := [_]) 140 dX12_swaps_137 rfl cw_X12_399 rfl rfl sh_138 rfl (by decide) (Nat.le_of_ble_eq_true rfl) (Nat.le_of_ble_eq_true rfl) (Nat.le_of_ble_eq_true rfl) (Nat.le_of_ble_eq_true rfl) ⟨rfl, rfl, rfl⟩ ?_
              refine c_X12_layRow hT er1 hr hxv rfl (fun I2 m1 m2 => ?_)
              refine s_aload_n 141 dX12_swaps_140 rfl rfl ?_
              refine s_iload 143 dX12_swaps_141 rfl rfl ?_
              refine s_iload 145 dX12_swaps_143 rfl rfl ?_
              refine s_callV0 (M' := M_X12_turn) (as := [_, _]) 148 dX12_swaps_145 rfl cw_X12_296 rfl rfl sh_138 rfl (by decide) (Nat.le_of_ble_eq_true rfl) (Nat.le_of_ble_eq_true rfl) (Nat.le_of_ble_eq_true rfl) (Nat.le_of_ble_eq_true rfl) ⟨rfl, rfl, rfl⟩ ?_
              refine c_X12_turn (v := I2 148) hT rfl (by omega) (by omega) (fun I3 m3 m4 => ?_)
              have m5 : Eqo [148] I1 I3 := m1.tr m3
              have er3 : I3 141 = r := (m5 141 (by decide)).trans er1
              have m6 : ∀ k, 0 ≤ k → k < r 5 → I3 148 k = tnF (vL x) i j k := fun k z1 z2 => by
                rw [m4]
                unfold tnF
                rw [m2 k z1 z2, m2 i k2 k4, m2 j (by omega) (by omega)]
              have m7 : Eqo MS (gd I 0) I3 := k7.tr (m5.mo (by decide))
              have hcd := cdF_3125 (v := I3 148) (n := (r 5).toNat) (by omega) (fun k z1 z2 => by have := htb k z1 (by omega); rw [m6 k z1 (by omega)]; exact this)
              refine s_aload_n 149 dX12_swaps_148 rfl rfl ?_
              refine s_aload_n 150 dX12_swaps_149 rfl rfl ?_
              refine s_getR 153 dX12_swaps_150 rfl fl_X12_41 (fun _ _ _ _ => rfl) (T_X12_row hT) sh_138 (Nat.le_of_ble_eq_true rfl) ?_
              refine s_callV0 (M' := M_X12_codeOf) (as := [_]) 156 dX12_swaps_153 rfl cw_X12_395 rfl rfl sh_138 rfl (by decide) (Nat.le_of_ble_eq_true rfl) (Nat.le_of_ble_eq_true rfl) (Nat.le_of_ble_eq_true rfl) (Nat.le_of_ble_eq_true rfl) ⟨rfl, rfl, rfl⟩ ?_
              refine c_X12_codeOf hT er3 hr sh_148 (by decide) (by decide) rfl ?_
              refine s_istore (ls' := [_, _, _, _, _, _, _]) 158 dX12_swaps_156 rfl (Nat.le_of_ble_eq_true rfl) rfl rfl ?_
              skip
              have i58 : I3 158 = I1 158 := m5 158 (by decide)
              have i59 : I3 159 = I1 159 := m5 159 (by decide)
              have hyc : ∀ y ∈ ordL r, (∀ k, 0 ≤ k → k < r 5 → vL y k = tnF (vL x) i j k) → cdL r y = cdF (I3 148) (r 5).toNat := fun y _ z2 => cdF_c (fun k z3 z4 => by rw [z2 k z3 (by omega), m6 k z3 (by omega)])
              have hM3 : MemQ r (I3 159) (I3 158) q2 := by rw [i58, i59]; exact k11
              have b208o : ∀ w6, 0 ≤ I3 158 (cdF (I3 148) (r 5).toNat) ∨ ¬ OrdP r (I3 148) → V X M_X12_swaps z0 208 [some (vr 138), some (vi (q2.length : Nat)), some (vi (h0 : Nat)), some (vi (cdL r x)), some (vi i), some (vi j), w6] [] I3 L R (RT X M_X12_swaps Q) := by
                intro w6 hor
                refine b208 q2 w6 I3 m7 k8 k9 k10 hM3 (fun y z => z) (fun y y1 y2 => ?_)
                rcases hor with z | z
                · have e2 := hyc y y1 y2
                  apply Classical.byContradiction
                  intro hny
                  have := hM3.2.2 _ hcd.1 hcd.2 (fun p hp e3 => hny (by
                    rw [← e2] at e3
                    have := cdL_inj hr (k8.om p hp) y1 e3
                    exact List.mem_map.mpr ⟨p, hp, this⟩))
                  omega
                · exact absurd ((OrdP_c (fun k z1 z2 => by rw [m6 k z1 z2, y2 k z1 z2])).mpr (ordL_of hr y1).2.2) z
              have esw3 : I3 158 (cdL r x) = d := by
                have := hM3.2.1 _ (qa_mem k9)
                rw [k10] at this
                exact this
              have hd2 : d ≤ 120 := by
                have := k8.bd h0 k9
                rw [k10] at this
                simp at this
                omega
              have b182 : I3 158 (cdF (I3 148) (r 5).toNat) < 0 → OrdP r (I3 148) → V X M_X12_swaps z0 182 [some (vr 138), some (vi (q2.length : Nat)), some (vi (h0 : Nat)), some (vi (cdL r x)), some (vi i), some (vi j), some (vi (cdF (I3 148) (r 5).toNat))] [] I3 L R (RT X M_X12_swaps Q) := by
                intro z1 z2
                obtain ⟨y, y1, y2⟩ := ordL_all (v := I3 148) hr (hpt.c (fun k a b => m6 k a b)) z2
                have y3 : ∀ k, 0 ≤ k → k < r 5 → vL y k = tnF (vL x) i j k := fun k a b => by rw [y2 k a b, m6 k a b]
                have y4 := hyc y y1 y3
                have hny : y ∉ q2.map Prod.fst := by
                  intro hq
                  obtain ⟨p, p1, p2⟩ := List.mem_map.mp hq
                  have := hM3.2.1 p p1
                  rw [p2, y4] at this
                  omega
                have hS : Sw1 r (qa q2 h0).1 y := by rw [k10]; exact ⟨y1, i, j, k2, k3, by omega, y3⟩
                have hB := k8.add k9 hS hny
                have hlen3 := hB.len hr
                rw [k10] at hB hlen3
                simp at hlen3
                refine s_aload_n 183 dX12_swaps_182 rfl rfl ?_
                refine s_getR 186 dX12_swaps_183 rfl fl_X12_75 (fun _ _ _ _ => rfl) (T_X12_swapped hT) sh_138 (Nat.le_of_ble_eq_true rfl) ?_
                refine s_iload 188 dX12_swaps_186 rfl rfl ?_
                refine s_aload_n 189 dX12_swaps_188 rfl rfl ?_
                refine s_getR 192 dX12_swaps_189 rfl fl_X12_75 (fun _ _ _ _ => rfl) (T_X12_swapped hT) sh_138 (Nat.le_of_ble_eq_true rfl) ?_
                refine s_iload_n 193 dX12_swaps_192 rfl rfl ?_
                refine s_iald 194 dX12_swaps_193 rfl sh_158 (Nat.le_of_ble_eq_true rfl) (by omega) (by omega) (fun r_193 => ?_)
                refine s_iconst 195 dX12_swaps_194 rfl ?_
                refine s_iadd 196 dX12_swaps_195 rfl ?_
                refine s_iast 197 dX12_swaps_196 rfl sh_158 (Nat.le_of_ble_eq_true rfl) (by omega) (by omega) (by first | omega | exact bI_r _ | exact iI_r _) ?_
                refine s_aload_n 198 dX12_swaps_197 rfl rfl ?_
                refine s_getR 201 dX12_swaps_198 rfl fl_X12_78 (fun _ _ _ _ => rfl) (T_X12_waiting hT) sh_138 (Nat.le_of_ble_eq_true rfl) ?_
                refine s_iload_n 202 dX12_swaps_201 rfl rfl ?_
                refine s_iload 204 dX12_swaps_202 rfl rfl ?_
                refine s_iast 205 dX12_swaps_204 rfl sh_159 (Nat.le_of_ble_eq_true rfl) (by omega) (by omega) (by first | omega | exact bI_r _ | exact iI_r _) ?_
                refine s_iinc (ls' := [_, _, _, _, _, _, _]) 208 dX12_swaps_205 rfl rfl (Nat.le_of_ble_eq_true rfl) rfl rfl ?_
                rw [show (q2.length : Int) + 1 = ((q2 ++ [(y, d + 1)]).length : Nat) by simp]
                refine b208 (q2 ++ [(y, d + 1)]) (some (vi (cdF (I3 148) (r 5).toNat))) _ ((m7.st (by decide)).st (by decide)) hB (by simp; omega) (by rw [qa_app k9]; exact k10) ⟨fun k hk => ?_, fun p hp => ?_, fun c c1 c2 c3 => ?_⟩ (fun y hy => by rw [List.map_append]; exact List.mem_append.mpr (Or.inl hy)) (fun z z3 z4 => ?_)
                · rw [upd9, up_ne (by decide)]
                  have hk' : k < q2.length + 1 := by simpa using hk
                  by_cases e : k = q2.length
                  · rw [if_pos (by omega), e, qa_last]; exact y4.symm
                  · rw [if_neg (by omega), qa_app (by omega)]; exact hM3.1 k (by omega)
                · rw [up_ne (by decide), upd9]
                  rcases List.mem_append.mp hp with hq | hq
                  · rw [if_neg (fun e => hny ?_)]
                    · exact hM3.2.1 p hq
                    · rw [← y4] at e
                      exact List.mem_map.mpr ⟨p, hq, cdL_inj hr (k8.om p hq) y1 e⟩
                  · rw [List.mem_singleton.mp hq, if_pos y4]; show I3 158 (cdL r x) + 1 = ((d + 1 : Nat) : Int); rw [esw3]; rfl
                · rw [up_ne (by decide), upd9]
                  rw [if_neg (fun e => c3 (y, d + 1) (by simp) (by rw [e]; exact y4))]
                  exact hM3.2.2 c c1 c2 (fun p hp => c3 p (List.mem_append.mpr (Or.inl hp)))
                · rw [List.map_append]
                  exact List.mem_append.mpr (Or.inr (by simp; exact ordL_ext hr z3 y1 (fun k a b => by rw [z4 k a b, y3 k a b])))
              refine s_aload_n 159 dX12_swaps_158 rfl rfl ?_
              refine s_getR 162 dX12_swaps_159 rfl fl_X12_75 (fun _ _ _ _ => rfl) (T_X12_swapped hT) sh_138 (Nat.le_of_ble_eq_true rfl) ?_
              refine s_iload 164 dX12_swaps_162 rfl rfl ?_
              refine s_iald 165 dX12_swaps_164 rfl sh_158 (Nat.le_of_ble_eq_true rfl) (by omega) (by omega) (fun r_164 => ?_)
              refine s_if_ge 208 168 dX12_swaps_165 rfl rfl (by first | omega | exact bI_r _ | exact iI_r _) (fun h_165 => ?_) (fun h_165 => ?_)
              · skip
                first | exact b208o _ (Or.inl (by assumption)) | exact b208o _ (Or.inr (by assumption))
              refine s_aload_n 169 dX12_swaps_168 rfl rfl ?_
              refine s_aload_n 170 dX12_swaps_169 rfl rfl ?_
              refine s_getR 173 dX12_swaps_170 rfl fl_X12_41 (fun _ _ _ _ => rfl) (T_X12_row hT) sh_138 (Nat.le_of_ble_eq_true rfl) ?_
              refine s_callV0 (M' := M_X12_isOrder) (as := [_]) 176 dX12_swaps_173 rfl cw_X12_286 rfl rfl sh_138 rfl (by decide) (Nat.le_of_ble_eq_true rfl) (Nat.le_of_ble_eq_true rfl) (Nat.le_of_ble_eq_true rfl) (Nat.le_of_ble_eq_true rfl) ⟨rfl, rfl, rfl⟩ ?_
              refine c_X12_isOrder hT er3 hr sh_148 (by decide) (by decide) rfl (fun k z1 z2 => by have := htb k z1 z2; rw [m6 k z1 z2]; exact this) ?_
              refine s_ifb_ne 182 179 dX12_swaps_176 rfl rfl (fun h_176 => ?_) (fun h_176 => ?_)
              · skip
                exact b182 (by assumption) (by assumption)
              refine s_goto 208 dX12_swaps_179 rfl ?_
              first | exact b208o _ (Or.inl (by assumption)) | exact b208o _ (Or.inr (by assumption))
        have er1 : I1 141 = r := (h2 141 (by decide)).trans ((gd_n (by decide)).trans er)
        have es1 : I1 143 = s := (h2 143 (by decide)).trans ((gd_n (by decide)).trans es)
        have erd1 : I1 138 30 = -1 := (congrFun (h2 138 (by decide)) 30).trans ((gd_f (by decide)).trans erd)
        refine s_iload_n 70 dX12_swaps_69 rfl rfl ?_
        refine s_iload_n 71 dX12_swaps_70 rfl rfl ?_
        refine s_icmp_ge 226 74 dX12_swaps_71 rfl rfl (by first | omega | exact bI_r _ | exact iI_r _) (by first | omega | exact bI_r _ | exact iI_r _) (fun h_71 => by exfalso; omega) (fun h_71 => ?_)
        refine s_aload_n 75 dX12_swaps_74 rfl rfl ?_
        refine s_getR 78 dX12_swaps_75 rfl fl_X12_78 (fun _ _ _ _ => rfl) (T_X12_waiting hT) sh_138 (Nat.le_of_ble_eq_true rfl) ?_
        refine s_iload_n 79 dX12_swaps_78 rfl rfl ?_
        refine s_iald 80 dX12_swaps_79 rfl sh_159 (Nat.le_of_ble_eq_true rfl) (by omega) (by omega) (fun r_79 => ?_)
        rw [ew] at r_79 ⊢
        refine s_istore_n (ls' := [_, _, _, _, _, _, _]) 81 dX12_swaps_80 rfl (Nat.le_of_ble_eq_true rfl) rfl rfl ?_
        refine s_aload_n 82 dX12_swaps_81 rfl rfl ?_
        refine s_iload_n 83 dX12_swaps_82 rfl rfl ?_
        refine s_callV0 (M' := M_X12_layRow) (as := [_]) 86 dX12_swaps_83 rfl cw_X12_399 rfl rfl sh_138 rfl (by decide) (Nat.le_of_ble_eq_true rfl) (Nat.le_of_ble_eq_true rfl) (Nat.le_of_ble_eq_true rfl) (Nat.le_of_ble_eq_true rfl) ⟨rfl, rfl, rfl⟩ ?_
        refine c_X12_layRow hT er1 hr hxv rfl (fun I2 m1 m2 => ?_)
        have er2 : I2 141 = r := (m1 141 (by decide)).trans er1
        have es2 : I2 143 = s := (m1 143 (by decide)).trans es1
        have erd2 : I2 138 30 = -1 := (congrFun (m1 138 (by decide)) 30).trans erd1
        have hTc : TP r (-1) g (I2 148) (s 12) ↔ swapT r s g x := TP_c hr hx.1 m2
        refine s_aload_n 87 dX12_swaps_86 rfl rfl ?_
        refine s_aload_n 88 dX12_swaps_87 rfl rfl ?_
        refine s_getR 91 dX12_swaps_88 rfl fl_X12_41 (fun _ _ _ _ => rfl) (T_X12_row hT) sh_138 (Nat.le_of_ble_eq_true rfl) ?_
        refine s_callV0 (M' := M_X12_doTold) (as := [_]) 94 dX12_swaps_91 rfl cw_X12_392 rfl rfl sh_138 rfl (by decide) (Nat.le_of_ble_eq_true rfl) (Nat.le_of_ble_eq_true rfl) (Nat.le_of_ble_eq_true rfl) (Nat.le_of_ble_eq_true rfl) ⟨rfl, rfl, rfl⟩ ?_
        refine c_X12_doTold hT er2 es2 erd2 hr eg sh_148 (by decide) (by decide) (by decide) rfl (hx.1.c m2) (fun I3 m3 => ?_)
        have er3 : I3 141 = r := (m3 141 (by decide)).trans er2
        have i58 : I3 158 = I1 158 := (m3 158 (by decide)).trans (m1 158 (by decide))
        have i59 : I3 159 = I1 159 := (m3 159 (by decide)).trans (m1 159 (by decide))
        have m4 : Eqo MS (gd I 0) I3 := h2.tr ((m1.mo (by decide)).tr (m3.mo (by decide)))
        have esw3 : I3 158 (cdL r x) = d := by rw [i58]; exact esw
        have hF : swapT r s g x → swF r (swapT r s g) a = d := fun z => by rw [ed]; exact (h3.found hlt (by rw [← ex]; exact z)).v
        refine s_ifb_eq 104 97 dX12_swaps_94 rfl rfl (fun h_94 => ?_) (fun h_94 => ?_)
        rotate_left
        · skip
          refine s_aload_n 98 dX12_swaps_97 rfl rfl ?_
          refine s_getR 101 dX12_swaps_98 rfl fl_X12_75 (fun _ _ _ _ => rfl) (T_X12_swapped hT) sh_138 (Nat.le_of_ble_eq_true rfl) ?_
          refine s_iload_n 102 dX12_swaps_101 rfl rfl ?_
          refine s_iald 103 dX12_swaps_102 rfl sh_158 (Nat.le_of_ble_eq_true rfl) (by omega) (by omega) (fun r_102 => ?_)
          rw [esw3] at r_102 ⊢
          refine s_iret dX12_swaps_103 rfl rfl ?_
          rw [← hF (hTc.mp (by assumption))]; exact h I3 m4
        refine s_iconst 105 dX12_swaps_104 rfl ?_
        refine s_istore (ls' := [_, _, _, _, _, _, _]) 107 dX12_swaps_105 rfl (Nat.le_of_ble_eq_true rfl) rfl rfl ?_
        skip
        have hnT : ¬ swapT r s g x := fun z => absurd (hTc.mpr z) (by assumption)
        by_cases h5 : 0 + 1 < r 5 + 1
        · skip
          refine s_iload 109 dX12_swaps_107 rfl rfl ?_
          refine s_aload_n 110 dX12_swaps_109 rfl rfl ?_
          refine s_getR 113 dX12_swaps_110 rfl fl_X12_20 (fun _ _ _ _ => rfl) (T_X12_r hT) sh_138 (Nat.le_of_ble_eq_true rfl) ?_
          refine s_iconst 114 dX12_swaps_113 rfl ?_
          refine s_iald 115 dX12_swaps_114 rfl sh_141 (Nat.le_of_ble_eq_true rfl) (by omega) (by omega) (fun r_114 => ?_)
          rw [er3] at r_114 ⊢
          refine s_icmp_ge 220 118 dX12_swaps_115 rfl rfl (by first | omega | exact bI_r _ | exact iI_r _) (by first | omega | exact bI_r _ | exact iI_r _) (fun h_115 => by exfalso; omega) (fun h_115 => ?_)
          refine s_iload 120 dX12_swaps_118 rfl rfl ?_
          refine s_iconst 121 dX12_swaps_120 rfl ?_
          refine s_iadd 122 dX12_swaps_121 rfl ?_
          refine s_istore (ls' := [_, _, _, _, _, _, _]) 124 dX12_swaps_122 rfl (Nat.le_of_ble_eq_true rfl) rfl rfl ?_
          exact pairs 46 0 (0 + 1) q _ I3 (by omega) (by omega) (by omega) (by omega) (by omega) hnT m4 h3 hlt (by rw [ex, ed]) (by rw [i58, i59]; exact h4) (fun i' j' z1 z2 z3 z4 => by omega)
        · omega
  have fill : HP → ∀ (f : Nat) (k : Int) (I1 : MI), 3125 - k < (f : Int) → 0 ≤ k → k ≤ 3125 → Eqo MS (gd I 0) I1 → (∀ j, 0 ≤ j → j < k → I1 158 j = -1) → V X M_X12_swaps z0 19 [some (vr 138), some (vi k), none, none, none, none, none] [] I1 L R (RT X M_X12_swaps Q) := by
    intro hP f
    induction f with
    | zero => intro k I1 h1 h2 h3; omega
    | succ f ih =>
      intro k I1 h1 h2 h3 h4 h5
      obtain ⟨hr, eg, ha, hs⟩ := hr hP
      have e0 := hr.1
      have er1 : I1 141 = r := (h4 141 (by decide)).trans ((gd_n (by decide)).trans er)
      have es1 : I1 143 = s := (h4 143 (by decide)).trans ((gd_n (by decide)).trans es)
      have hb := cdL_b hr ha
      have hc : cdF s (r 5).toNat = cdL r a := cdF_c (fun k a b => hs k a (by omega))
      refine s_iload_n 20 dX12_swaps_19 rfl rfl ?_
      refine s_sipush 23 dX12_swaps_20 rfl (by decide) ?_
      refine s_icmp_ge 39 26 dX12_swaps_23 rfl rfl (by first | omega | exact bI_r _ | exact iI_r _) (by first | omega | exact bI_r _ | exact iI_r _) (fun h_23 => ?_) (fun h_23 => ?_)
      · skip
        refine s_iconst 40 dX12_swaps_39 rfl ?_
        refine s_istore_n (ls' := [_, _, _, _, _, _, _]) 41 dX12_swaps_40 rfl (Nat.le_of_ble_eq_true rfl) rfl rfl ?_
        refine s_aload_n 42 dX12_swaps_41 rfl rfl ?_
        refine s_getR 45 dX12_swaps_42 rfl fl_X12_78 (fun _ _ _ _ => rfl) (T_X12_waiting hT) sh_138 (Nat.le_of_ble_eq_true rfl) ?_
        refine s_iconst 46 dX12_swaps_45 rfl ?_
        refine s_aload_n 47 dX12_swaps_46 rfl rfl ?_
        refine s_aload_n 48 dX12_swaps_47 rfl rfl ?_
        refine s_getR 51 dX12_swaps_48 rfl fl_X12_26 (fun _ _ _ _ => rfl) (T_X12_st hT) sh_138 (Nat.le_of_ble_eq_true rfl) ?_
        refine s_callV0 (M' := M_X12_codeOf) (as := [_]) 54 dX12_swaps_51 rfl cw_X12_395 rfl rfl sh_138 rfl (by decide) (Nat.le_of_ble_eq_true rfl) (Nat.le_of_ble_eq_true rfl) (Nat.le_of_ble_eq_true rfl) (Nat.le_of_ble_eq_true rfl) ⟨rfl, rfl, rfl⟩ ?_
        refine c_X12_codeOf hT er1 hr sh_143 (by decide) (by decide) es1 ?_
        rw [hc]
        refine s_iast 55 dX12_swaps_54 rfl sh_159 (Nat.le_of_ble_eq_true rfl) (by omega) (by omega) (by first | omega | exact bI_r _ | exact iI_r _) ?_
        refine s_aload_n 56 dX12_swaps_55 rfl rfl ?_
        refine s_getR 59 dX12_swaps_56 rfl fl_X12_75 (fun _ _ _ _ => rfl) (T_X12_swapped hT) sh_138 (Nat.le_of_ble_eq_true rfl) ?_
        refine s_aload_n 60 dX12_swaps_59 rfl rfl ?_
        refine s_getR 63 dX12_swaps_60 rfl fl_X12_78 (fun _ _ _ _ => rfl) (T_X12_waiting hT) sh_138 (Nat.le_of_ble_eq_true rfl) ?_
        refine s_iconst 64 dX12_swaps_63 rfl ?_
        refine s_iald 65 dX12_swaps_64 rfl sh_159 (Nat.le_of_ble_eq_true rfl) (by omega) (by omega) (fun r_64 => ?_)
        rw [show up I1 159 0 (cdL r a) 159 0 = cdL r a from ups] at r_64 ⊢
        refine s_iconst 66 dX12_swaps_65 rfl ?_
        refine s_iast 67 dX12_swaps_66 rfl sh_158 (Nat.le_of_ble_eq_true rfl) (by omega) (by omega) (by first | omega | exact bI_r _ | exact iI_r _) ?_
        refine s_iconst 68 dX12_swaps_67 rfl ?_
        refine s_istore_n (ls' := [_, _, _, _, _, _, _]) 69 dX12_swaps_68 rfl (Nat.le_of_ble_eq_true rfl) rfl rfl ?_
        refine main hP 122 0 [(a, 0)] none none none none _ (by omega) ((h4.st (by decide)).st (by decide)) (BF.one ha) ⟨fun k hk => ?_, fun p hp => ?_, fun c c1 c2 c3 => ?_⟩
        · have ek : k = 0 := by simpa using hk
          subst ek
          rw [up_ne (by decide)]; exact ups
        · rw [List.mem_singleton.mp hp]; exact ups
        · rw [upn (fun e => c3 (a, 0) (by simp) e.symm), up_ne (by decide)]
          exact h5 c c1 (by omega)
      refine s_aload_n 27 dX12_swaps_26 rfl rfl ?_
      refine s_getR 30 dX12_swaps_27 rfl fl_X12_75 (fun _ _ _ _ => rfl) (T_X12_swapped hT) sh_138 (Nat.le_of_ble_eq_true rfl) ?_
      refine s_iload_n 31 dX12_swaps_30 rfl rfl ?_
      refine s_iconst 32 dX12_swaps_31 rfl ?_
      refine s_iast 33 dX12_swaps_32 rfl sh_158 (Nat.le_of_ble_eq_true rfl) (by omega) (by omega) (by first | omega | exact bI_r _ | exact iI_r _) ?_
      refine s_iinc (ls' := [_, _, _, _, _, _, _]) 36 dX12_swaps_33 rfl rfl (Nat.le_of_ble_eq_true rfl) rfl rfl ?_
      refine s_goto 19 dX12_swaps_36 rfl ?_
      refine ih (k + 1) _ (by omega) (by omega) (by omega) (h4.st (by decide)) (fun j a b => ?_)
      rw [upd9]
      by_cases ej : j = k
      · rw [if_pos ej]
      · rw [if_neg ej]; exact h5 j a (by omega)
  refine s_aload_n 1 dX12_swaps_0 rfl rfl ?_
  refine s_callV0 (M' := M_X12_good) (as := []) 4 dX12_swaps_1 rfl cw_X12_190 rfl rfl sh_138 rfl (by decide) (Nat.le_of_ble_eq_true rfl) (Nat.le_of_ble_eq_true rfl) (Nat.le_of_ble_eq_true rfl) (Nat.le_of_ble_eq_true rfl) ⟨rfl, rfl, rfl⟩ ?_
  refine c_X12_good ?_
  refine s_aload_n 5 dX12_swaps_4 rfl rfl ?_
  refine s_getI 8 dX12_swaps_5 rfl fl_X12_203 (fun _ _ _ _ => rfl) sh_138 (Nat.le_of_ble_eq_true rfl) (fun r_5 => ?_)
  rw [show up (up I 138 0 0) 138 11 0 138 14 = bI HP from (gd_f (by decide)).trans ehp]
  refine s_ifb_ne 17 11 dX12_swaps_8 rfl rfl (fun h_8 => ?_) (fun h_8 => ?_)
  · skip
    refine s_iconst 18 dX12_swaps_17 rfl ?_
    refine s_istore_n (ls' := [_, _, _, _, _, _, _]) 19 dX12_swaps_18 rfl (Nat.le_of_ble_eq_true rfl) rfl rfl ?_
    exact fill (by assumption) 3126 0 _ (by omega) (by omega) (by omega) Eqo.rf (fun j a b => by omega)
  refine s_aload_n 12 dX12_swaps_11 rfl rfl ?_
  refine s_iconst 13 dX12_swaps_12 rfl ?_
  refine s_callV0 (M' := M_X12_no) (as := [_]) 16 dX12_swaps_13 rfl cw_X12_193 rfl rfl sh_138 rfl (by decide) (Nat.le_of_ble_eq_true rfl) (Nat.le_of_ble_eq_true rfl) (Nat.le_of_ble_eq_true rfl) (Nat.le_of_ble_eq_true rfl) ⟨rfl, rfl, rfl⟩ ?_
  refine c_X12_no (by decide) ?_
  rw [show up (up (up I 138 0 0) 138 11 0) 138 11 1 = gd I 1 from gd_no]
  refine s_iret dX12_swaps_16 rfl rfl ?_
  rw [pick_f (by assumption), pick_f (by assumption)] at h
  exact h _ Eqo.rf
