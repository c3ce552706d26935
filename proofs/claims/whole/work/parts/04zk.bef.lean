/-! which SCENES come ahead of one, by the reference -/
def Anc (r : F1) (t : Int) : Nat → Int → Prop
  | 0, s => s = t
  | m + 1, s => ∃ u, 0 ≤ u ∧ u < 5 ∧ Anc r t m u ∧ hasI (r (49 + u)) s
/-- s is t, or comes ahead of it -/
def AncP (r : F1) (t s : Int) : Prop := ∃ m, Anc r t m s
theorem AncP.rf {r : F1} {t : Int} : AncP r t t := ⟨0, rfl⟩
theorem AncP.st {r : F1} {t u s : Int} (h : AncP r t u) (hu : 0 ≤ u ∧ u < 5) (hs : hasI (r (49 + u)) s) : AncP r t s := by
  obtain ⟨m, hm⟩ := h
  exact ⟨m + 1, u, hu.1, hu.2, hm, hs⟩
theorem Anc.in {r : F1} {t : Int} {S : Int → Prop} (h0 : S t) (hc : ∀ u, 0 ≤ u → u < 5 → S u → ∀ s, hasI (r (49 + u)) s → S s) : ∀ (m : Nat) (s : Int), Anc r t m s → S s
  | 0, s, h => by rw [show s = t from h]; exact h0
  | m + 1, s, h => by
    obtain ⟨u, u1, u2, u3, u4⟩ := h
    exact hc u u1 u2 (Anc.in h0 hc m u u3) s u4
theorem sub_of {x y : Int} (hx : -2147483648 ≤ x ∧ x ≤ 2147483647) (h : ∀ k, 0 ≤ k → k < 32 → hasI x k → hasI y k) : sub x y :=
  set_ext (iand_r _ _) hx (fun k a b => by rw [has_and ⟨a, b⟩]; exact ⟨fun z => z.1, fun z => ⟨z, h k a b z⟩⟩)
theorem sub_has {x y k : Int} (h : sub x y) (hk : 0 ≤ k ∧ k < 32) (hx : hasI x k) : hasI y k := by
  have e : iand x y = x := h
  rw [← e, has_and hk] at hx
  exact hx.2
theorem ior_32 {x y : Int} (hx : 0 ≤ x ∧ x < 32) (hy : 0 ≤ y ∧ y < 32) : 0 ≤ ior x y ∧ ior x y < 32 := by
  have := set_lt (n := 5) (by omega) (ior_r x y) (fun k h1 h2 h => by
    rcases (has_or ⟨by omega, h2⟩).mp h with z | z
    · exact has_lt (n := 5) (by omega) ⟨hx.1, by omega⟩ ⟨h1, h2⟩ z
    · exact has_lt (n := 5) (by omega) ⟨hy.1, by omega⟩ ⟨h1, h2⟩ z)
  omega
set_option maxHeartbeats 4000000 in
theorem c_X12_comesBefore {E : ET} {I : MI} {L : ML} {R : MR} {Q : Option AV → MI → ML → MR → Prop} {r : F1} {one two : Int} (hT : Topo R) (er : I 142 = r) (hr : ∀ s, 0 ≤ s → s < 5 → 0 ≤ r (49 + s) ∧ r (49 + s) < 32) (h1 : 0 ≤ one ∧ one < 5) (h2 : 0 ≤ two ∧ two < 5) (h : Q (some (vi (bI (AncP r two one)))) I L R) : CT E M_X12_comesBefore 161 yX12_comesBefore [(vr (138)), (vi (one)), (vi (two))] I L R Q := by
  refine CT_of rfl rfl (fun h => by cases h) (Nat.le_of_ble_eq_true rfl) (fun X => ?_)
  show V X _ z0 0 [some (vr (138)), some (vi (one)), some (vi (two)), none, none, none] [] I L R _
  have outer : ∀ (f : Nat) (S O : Int) (w5 : Option AV), 32 - O < (f : Int) → 0 ≤ S → S < 32 → 0 ≤ O → O ≤ S → hasI S two → (∀ k, 0 ≤ k → k < 32 → hasI S k → AncP r two k) → (S = O → ∀ u, 0 ≤ u → u < 5 → hasI S u → ∀ k, 0 ≤ k → k < 32 → hasI (r (49 + u)) k → hasI S k) →
      V X M_X12_comesBefore z0 7 [some (vr 138), some (vi one), some (vi two), some (vi S), some (vi O), w5] [] I L R (RT X M_X12_comesBefore Q) := by
    intro f
    induction f with
    | zero => intro S O w5 z1 z2 z3; omega
    | succ f ih =>
      intro S O w5 z1 z2 z3 z4 z5 z6 z7 z8
      have inner : ∀ (g : Nat) (s T : Int), 5 - s < (g : Int) → 0 ≤ s → s ≤ 5 → 0 ≤ T → T < 32 → (∀ k, 0 ≤ k → k < 32 → hasI S k → hasI T k) → (∀ k, 0 ≤ k → k < 32 → hasI T k → AncP r two k) → (∀ u, 0 ≤ u → u < s → hasI S u → ∀ k, 0 ≤ k → k < 32 → hasI (r (49 + u)) k → hasI T k) → S ≠ O →
          V X M_X12_comesBefore z0 19 [some (vr 138), some (vi one), some (vi two), some (vi T), some (vi S), some (vi s)] [] I L R (RT X M_X12_comesBefore Q) := by
        intro g
        induction g with
        | zero => intro s T y1 y2 y3; omega
        | succ g ihg =>
          intro s T y1 y2 y3 y4 y5 y6 y7 y8 hne
          have hST := sub_le (s := T) (o := S) ⟨y4, by omega⟩ (sub_of ⟨by omega, by omega⟩ y6)
          by_cases hs : s < 5
          · have hrs := hr s y2 hs
            have ht := ior_32 ⟨y4, y5⟩ hrs
            have ht0 := ior_32 (y := 0) ⟨y4, y5⟩ (by omega)
            by_cases hT1 : hasI T s
            · skip
              refine s_iload 21 dX12_comesBefore_19 rfl rfl ?_
              refine s_iconst 22 dX12_comesBefore_21 rfl ?_
              refine s_icmp_ge 57 25 dX12_comesBefore_22 rfl rfl (by first | omega | exact bI_r _ | exact iI_r _) (by first | omega | exact bI_r _ | exact iI_r _) (fun h_22 => by exfalso; omega) (fun h_22 => ?_)
              refine s_iload_n 26 dX12_comesBefore_25 rfl rfl ?_
              refine s_iload_n 27 dX12_comesBefore_26 rfl rfl ?_
              refine s_iload 29 dX12_comesBefore_27 rfl rfl ?_
              refine s_callS0 (M' := M_X12_has) (as := [_, _]) 32 dX12_comesBefore_29 rfl cw_X12_278 rfl rfl (Nat.le_of_ble_eq_true rfl) (Nat.le_of_ble_eq_true rfl) (Nat.le_of_ble_eq_true rfl) ⟨rfl, rfl, rfl⟩ ?_
              refine c_X12_has ?_
              refine s_ifb_eq 48 35 dX12_comesBefore_32 rfl rfl (fun h_32 => by exfalso; exact absurd hT1 h_32) (fun h_32 => ?_)
              refine s_aload_n 36 dX12_comesBefore_35 rfl rfl ?_
              refine s_getR 39 dX12_comesBefore_36 rfl fl_X12_23 (fun _ _ _ _ => rfl) (T_X12_fresh hT) sh_138 (Nat.le_of_ble_eq_true rfl) ?_
              refine s_bipush 41 dX12_comesBefore_39 rfl (by decide) ?_
              refine s_iload 43 dX12_comesBefore_41 rfl rfl ?_
              refine s_iadd 44 dX12_comesBefore_43 rfl ?_
              refine s_iald 45 dX12_comesBefore_44 rfl sh_142 (Nat.le_of_ble_eq_true rfl) (by omega) (by omega) (fun r_44 => ?_)
              rw [er] at r_44 ⊢
              refine s_goto 49 dX12_comesBefore_45 rfl ?_
              refine s_ior 50 dX12_comesBefore_49 rfl ?_
              refine s_istore_n (ls' := [_, _, _, _, _, _]) 51 dX12_comesBefore_50 rfl (Nat.le_of_ble_eq_true rfl) rfl rfl ?_
              refine s_iinc (ls' := [_, _, _, _, _, _]) 54 dX12_comesBefore_51 rfl rfl (Nat.le_of_ble_eq_true rfl) rfl rfl ?_
              refine s_goto 19 dX12_comesBefore_54 rfl ?_
              refine ihg (s + 1) _ (by omega) (by omega) (by omega) ht.1 ht.2 (fun k k1 k2 kk => (has_or ⟨k1, k2⟩).mpr (Or.inl (y6 k k1 k2 kk))) (fun k k1 k2 kk => ((has_or ⟨k1, k2⟩).mp kk).elim (fun q => y7 k k1 k2 q) (fun q => (y7 s y2 (by omega) hT1).st ⟨y2, hs⟩ q)) (fun u u1 u2 u3 k k1 k2 kk => (has_or ⟨k1, k2⟩).mpr ?_) hne
              by_cases e : u = s
              · subst e; exact Or.inr kk
              · exact Or.inl (y8 u u1 (by omega) u3 k k1 k2 kk)
            · skip
              refine s_iload 21 dX12_comesBefore_19 rfl rfl ?_
              refine s_iconst 22 dX12_comesBefore_21 rfl ?_
              refine s_icmp_ge 57 25 dX12_comesBefore_22 rfl rfl (by first | omega | exact bI_r _ | exact iI_r _) (by first | omega | exact bI_r _ | exact iI_r _) (fun h_22 => by exfalso; omega) (fun h_22 => ?_)
              refine s_iload_n 26 dX12_comesBefore_25 rfl rfl ?_
              refine s_iload_n 27 dX12_comesBefore_26 rfl rfl ?_
              refine s_iload 29 dX12_comesBefore_27 rfl rfl ?_
              refine s_callS0 (M' := M_X12_has) (as := [_, _]) 32 dX12_comesBefore_29 rfl cw_X12_278 rfl rfl (Nat.le_of_ble_eq_true rfl) (Nat.le_of_ble_eq_true rfl) (Nat.le_of_ble_eq_true rfl) ⟨rfl, rfl, rfl⟩ ?_
              refine c_X12_has ?_
              refine s_ifb_eq 48 35 dX12_comesBefore_32 rfl rfl (fun h_32 => ?_) (fun h_32 => by exfalso; exact absurd h_32 hT1)
              refine s_iconst 49 dX12_comesBefore_48 rfl ?_
              refine s_ior 50 dX12_comesBefore_49 rfl ?_
              refine s_istore_n (ls' := [_, _, _, _, _, _]) 51 dX12_comesBefore_50 rfl (Nat.le_of_ble_eq_true rfl) rfl rfl ?_
              refine s_iinc (ls' := [_, _, _, _, _, _]) 54 dX12_comesBefore_51 rfl rfl (Nat.le_of_ble_eq_true rfl) rfl rfl ?_
              refine s_goto 19 dX12_comesBefore_54 rfl ?_
              refine ihg (s + 1) _ (by omega) (by omega) (by omega) ht0.1 ht0.2 (fun k k1 k2 kk => (has_or ⟨k1, k2⟩).mpr (Or.inl (y6 k k1 k2 kk))) (fun k k1 k2 kk => ((has_or ⟨k1, k2⟩).mp kk).elim (fun q => y7 k k1 k2 q) (fun q => absurd q (has_0 ⟨k1, k2⟩))) (fun u u1 u2 u3 k k1 k2 kk => (has_or ⟨k1, k2⟩).mpr ?_) hne
              by_cases e : u = s
              · subst e; exact absurd (y6 u u1 (by omega) u3) hT1
              · exact Or.inl (y8 u u1 (by omega) u3 k k1 k2 kk)
          · skip
            refine s_iload 21 dX12_comesBefore_19 rfl rfl ?_
            refine s_iconst 22 dX12_comesBefore_21 rfl ?_
            refine s_icmp_ge 57 25 dX12_comesBefore_22 rfl rfl (by first | omega | exact bI_r _ | exact iI_r _) (by first | omega | exact bI_r _ | exact iI_r _) (fun h_22 => ?_) (fun h_22 => by exfalso; omega)
            refine s_goto 7 dX12_comesBefore_57 rfl ?_
            refine ih T S _ (by omega) y4 y5 z2 hST.2 (y6 two (by omega) (by omega) z6) y7 (fun e u u1 u2 u3 k k1 k2 kk => y8 u u1 (by omega) (by rw [← e]; exact u3) k k1 k2 kk)
      have fin : S = O → (hasI S one ↔ AncP r two one) := by
        intro e
        refine ⟨fun z => z7 one h1.1 (by omega) z, fun z => ?_⟩
        obtain ⟨m, hm⟩ := z
        have := Anc.in (r := r) (t := two) (S := fun s => 0 ≤ s → s < 32 → hasI S s) (fun _ _ => z6) (fun u u1 u2 u3 s hs s1 s2 => z8 e u u1 u2 (u3 u1 (by omega)) s s1 s2 hs) m one hm
        exact this h1.1 (by omega)
      refine s_iload_n 8 dX12_comesBefore_7 rfl rfl ?_
      refine s_iload 10 dX12_comesBefore_8 rfl rfl ?_
      refine s_icmp_eq 60 13 dX12_comesBefore_10 rfl rfl (by first | omega | exact bI_r _ | exact iI_r _) (by first | omega | exact bI_r _ | exact iI_r _) (fun h_10 => ?_) (fun h_10 => ?_)
      · skip
        refine s_iload_n 61 dX12_comesBefore_60 rfl rfl ?_
        refine s_iload_n 62 dX12_comesBefore_61 rfl rfl ?_
        refine s_callS0 (M' := M_X12_has) (as := [_, _]) 65 dX12_comesBefore_62 rfl cw_X12_278 rfl rfl (Nat.le_of_ble_eq_true rfl) (Nat.le_of_ble_eq_true rfl) (Nat.le_of_ble_eq_true rfl) ⟨rfl, rfl, rfl⟩ ?_
        refine c_X12_has ?_
        refine s_zret dX12_comesBefore_65 rfl (by first | omega | exact bI_b _) rfl ?_
        rw [bI_c (fin h_10)]; exact h
      refine s_iload_n 14 dX12_comesBefore_13 rfl rfl ?_
      refine s_istore (ls' := [_, _, _, _, _, _]) 16 dX12_comesBefore_14 rfl (Nat.le_of_ble_eq_true rfl) rfl rfl ?_
      refine s_iconst 17 dX12_comesBefore_16 rfl ?_
      refine s_istore (ls' := [_, _, _, _, _, _]) 19 dX12_comesBefore_17 rfl (Nat.le_of_ble_eq_true rfl) rfl rfl ?_
      exact inner 6 0 S (by omega) (by omega) (by omega) z2 z3 (fun k k1 k2 kk => kk) z7 (fun u u1 u2 => by omega) h_10
  have e1 : 0 ≤ ishl 1 two ∧ ishl 1 two < 32 := by
    have hc : two = 0 ∨ two = 1 ∨ two = 2 ∨ two = 3 ∨ two = 4 := by omega
    rcases hc with rfl | rfl | rfl | rfl | rfl <;> decide
  refine s_iconst 1 dX12_comesBefore_0 rfl ?_
  refine s_iload_n 2 dX12_comesBefore_1 rfl rfl ?_
  refine s_ishl 3 dX12_comesBefore_2 rfl ?_
  refine s_istore_n (ls' := [_, _, _, _, _, _]) 4 dX12_comesBefore_3 rfl (Nat.le_of_ble_eq_true rfl) rfl rfl ?_
  refine s_iconst 5 dX12_comesBefore_4 rfl ?_
  refine s_istore (ls' := [_, _, _, _, _, _]) 7 dX12_comesBefore_5 rfl (Nat.le_of_ble_eq_true rfl) rfl rfl ?_
  refine outer 33 (ishl 1 two) 0 _ (by omega) e1.1 e1.2 (by omega) e1.1 ((has_shl (by omega) (by omega)).mpr rfl) (fun k k1 k2 kk => ?_) (fun e => absurd e (fun z => ?_))
  · rw [(has_shl (by omega) ⟨k1, k2⟩).mp kk]; exact AncP.rf
  · have q := (has_shl (j := two) (k := two) (by omega) (by omega)).mpr rfl
    rw [z] at q
    exact has_0 (by omega) q
