/-! who CAN -/
def behP (r : F1) (k : Int) : Prop := r (54 + 7 * k + 6) = 1
def pupP (r : F1) (k : Int) : Prop := r (54 + 7 * k + 6) = 0 ∧ r (9 + r (54 + 7 * k + 0)) = 2
/-- BODILY, by the place in the row -/
def BodAt (r q : F1) (S : Int → Prop) (i : Int) : Prop := S (q i) ∧ ¬ behP r (q i) ∧ r (9 + r (54 + 7 * q i + 0)) ≠ 2 ∧ (r (9 + r (54 + 7 * q i + 0)) = 3 → ∀ j, 0 ≤ j → j < i → S (q j) → ¬ behP r (q j) → r (54 + 7 * q j + 0) ≠ r (54 + 7 * q i + 0))
def Bod (r q : F1) (S : Int → Prop) (k : Int) : Prop := ∃ i, 0 ≤ i ∧ i < r 7 ∧ q i = k ∧ BodAt r q S i
def meetP (b c : F1) (k l : Int) : Prop := b k < c l ∧ b l < c k
def MeetS (b c : F1) (n : Int) (A B : Int → Prop) : Prop := ∃ k l, 0 ≤ k ∧ k < n ∧ 0 ≤ l ∧ l < n ∧ A k ∧ k ≠ l ∧ B l ∧ meetP b c k l
def Chain (r : F1) (rd : Int) (b c q : F1) (S : Int → Prop) : Prop := ∀ i j, 0 ≤ i → i < j → j < r 7 → BodAt r q S i → BodAt r q S j → (∀ m, i < m → m < j → ¬ BodAt r q S m) → c (q i) + neF r rd (q i) (q j) ≤ b (q j)
def Can (r : F1) (rd : Int) (b c q : F1) (S : Int → Prop) : Prop :=
  ¬ MeetS b c (r 7) (fun k => S k ∧ behP r k) (fun k => (S k ∧ behP r k) ∨ Bod r q S k) ∧ ¬ MeetS b c (r 7) (fun k => S k ∧ pupP r k) (fun k => S k ∧ pupP r k) ∧ ¬ MeetS b c (r 7) (Bod r q S) (Bod r q S) ∧ Chain r rd b c q S
theorem MeetS_c {b c : F1} {n : Int} {A A' B B' : Int → Prop} (hA : ∀ k, 0 ≤ k → k < n → (A k ↔ A' k)) (hB : ∀ k, 0 ≤ k → k < n → (B k ↔ B' k)) : MeetS b c n A B ↔ MeetS b c n A' B' := by
  constructor
  · rintro ⟨k, l, h1, h2, h3, h4, h5, h6, h7, h8⟩
    exact ⟨k, l, h1, h2, h3, h4, (hA k h1 h2).mp h5, h6, (hB l h3 h4).mp h7, h8⟩
  · rintro ⟨k, l, h1, h2, h3, h4, h5, h6, h7, h8⟩
    exact ⟨k, l, h1, h2, h3, h4, (hA k h1 h2).mpr h5, h6, (hB l h3 h4).mpr h7, h8⟩
theorem neF_b {r : F1} {rd k l : Int} (hr : WFr r) (hk : 0 ≤ k ∧ k < r 7) (hl : 0 ≤ l ∧ l < r 7) : 0 ≤ neF r rd k l ∧ neF r rd k l ≤ 396 := by
  have e0 := hr.1
  have e1 := hr.2.2.2.1 k hk.1 hk.2
  have e2 := hr.2.2.2.1 l hl.1 hl.2
  have p1 := hr.2.1 (r (54 + 7 * k + 0)) (by omega) (by omega)
  have p2 := hr.2.1 (r (54 + 7 * l + 0)) (by omega) (by omega)
  have b1 := rdy_b (rd := rd) (p := r (54 + 7 * l + 0)) ⟨p2.2.2.2.2.1, p2.2.2.2.2.2.1⟩
  have b2 := rdy_b (rd := rd) (p := r (54 + 7 * k + 0)) ⟨p1.2.2.2.2.2.2.1, p1.2.2.2.2.2.2.2.1⟩
  have b3 := rdy_b (rd := rd) (p := r (54 + 7 * l + 0)) ⟨p2.2.2.2.2.2.2.2.2.1, p2.2.2.2.2.2.2.2.2.2⟩
  unfold neF chF
  generalize rdy rd (r (54 + 7 * l + 0)) (r (23 + r (54 + 7 * l + 0))) = x at *
  generalize rdy rd (r (54 + 7 * k + 0)) (r (30 + r (54 + 7 * k + 0))) = y at *
  generalize rdy rd (r (54 + 7 * l + 0)) (r (37 + r (54 + 7 * l + 0))) = w at *
  split <;> split <;> (try split) <;> (try split) <;> (try split) <;> omega
/-- BODILY ones of a set, as a set -/
def BodS (r q : F1) (S : Int → Prop) (B : Int) : Prop := (0 ≤ B ∧ B < 2 ^ 14) ∧ ∀ k, 0 ≤ k → k < 32 → (hasI B k ↔ Bod r q S k)
set_option maxHeartbeats 4000000 in
theorem c_X12_bodilyOf {E : ET} {I : MI} {L : ML} {R : MR} {Q : Option AV → MI → ML → MR → Prop} {r q : F1} {ons : Int} (hT : Topo R) (er : I 141 = r) (eq : I 152 = q) (hr : WFr r) (hq : Perm (r 7) q) (h : ∀ B, BodS r q (fun k => hasI ons k) B → Q (some (vi B)) I L R) : CT E M_X12_bodilyOf 161 yX12_bodilyOf [(vr (138)), (vi (ons))] I L R Q := by
  refine CT_of rfl rfl (fun h => by cases h) (Nat.le_of_ble_eq_true rfl) (fun X => ?_)
  show V X _ z0 0 [some (vr (138)), some (vi (ons)), none, none, none, none, none] [] I L R _
  have e0 := hr.1
  have loop : ∀ (f : Nat) (i set dead : Int) (w1 w2 : Option AV), r 7 - i < (f : Int) → 0 ≤ i → i ≤ r 7 → (-2147483648 ≤ set ∧ set ≤ 2147483647) → (∀ k, 0 ≤ k → k < 32 → (hasI set k ↔ ∃ j, 0 ≤ j ∧ j < i ∧ q j = k ∧ BodAt r q (fun k => hasI ons k) j)) →
      (∀ p, 0 ≤ p → p < 7 → (hasI dead p ↔ ∃ j, 0 ≤ j ∧ j < i ∧ hasI ons (q j) ∧ ¬ behP r (q j) ∧ r (9 + r (54 + 7 * q j + 0)) = 3 ∧ r (54 + 7 * q j + 0) = p)) →
      V X M_X12_bodilyOf z0 7 [some (vr 138), some (vi ons), some (vi set), some (vi dead), some (vi i), w1, w2] [] I L R (RT X M_X12_bodilyOf Q) := by
    intro f
    induction f with
    | zero => intro i set dead w1 w2 h1 h2 h3; omega
    | succ f ih =>
      intro i set dead w1 w2 h1 h2 h3 hs h5 h6
      refine s_iload 9 dX12_bodilyOf_7 rfl rfl ?_
      refine s_aload_n 10 dX12_bodilyOf_9 rfl rfl ?_
      refine s_getR 13 dX12_bodilyOf_10 rfl fl_X12_20 (fun _ _ _ _ => rfl) (T_X12_r hT) sh_138 (Nat.le_of_ble_eq_true rfl) ?_
      refine s_bipush 15 dX12_bodilyOf_13 rfl (by decide) ?_
      refine s_iald 16 dX12_bodilyOf_15 rfl sh_141 (Nat.le_of_ble_eq_true rfl) (by omega) (by omega) (fun r_15 => ?_)
      rw [er] at r_15 ⊢
      refine s_icmp_ge 139 19 dX12_bodilyOf_16 rfl rfl (by first | omega | exact bI_r _ | exact iI_r _) (by first | omega | exact bI_r _ | exact iI_r _) (fun h_16 => ?_) (fun h_16 => ?_)
      · skip
        refine s_iload_n 140 dX12_bodilyOf_139 rfl rfl ?_
        refine s_iret dX12_bodilyOf_140 rfl rfl ?_
        have ei : i = r 7 := by omega
        subst ei
        have hz : ∀ k, 0 ≤ k → k < 32 → (hasI set k ↔ Bod r q (fun k => hasI ons k) k) := fun k q1 q2 => by
          rw [h5 k q1 q2]
          exact ⟨fun ⟨j, a, b, c, d⟩ => ⟨j, a, b, c, d⟩, fun ⟨j, a, b, c, d⟩ => ⟨j, a, b, c, d⟩⟩
        refine h set ⟨set_lt (by omega) hs (fun k q1 q2 q3 => ?_), hz⟩
        obtain ⟨j, a, b, c, d⟩ := (hz k (by omega) q2).mp q3
        have := hq.1 j a b
        omega
      skip
      have e1 := hq.1 i h2 (by omega)
      have e2 := hr.2.2.2.1 (q i) e1.1 e1.2
      have e3 := hr.2.1 (r (54 + 7 * q i + 0)) (by omega) (by omega)
      -- not one more
      have next : ∀ (w1 w2 : Option AV), ¬ BodAt r q (fun k => hasI ons k) i → (hasI ons (q i) → ¬ behP r (q i) → r (9 + r (54 + 7 * q i + 0)) = 3 → hasI dead (r (54 + 7 * q i + 0))) → V X M_X12_bodilyOf z0 133 [some (vr 138), some (vi ons), some (vi set), some (vi dead), some (vi i), w1, w2] [] I L R (RT X M_X12_bodilyOf Q) := by
        intro w1 w2 hn hd
        refine s_iinc (ls' := [_, _, _, _, _, _, _]) 136 dX12_bodilyOf_133 rfl rfl (Nat.le_of_ble_eq_true rfl) rfl rfl ?_
        refine s_goto 7 dX12_bodilyOf_136 rfl ?_
        refine ih (i + 1) set dead w1 w2 (by omega) (by omega) (by omega) hs (fun k q1 q2 => ?_) (fun p q1 q2 => ?_)
        · rw [h5 k q1 q2]
          constructor
          · rintro ⟨j, a, b, c, d⟩
            exact ⟨j, a, by omega, c, d⟩
          · rintro ⟨j, a, b, c, d⟩
            by_cases ej : j = i
            · subst ej; exact absurd d hn
            · exact ⟨j, a, by omega, c, d⟩
        · rw [h6 p q1 q2]
          constructor
          · rintro ⟨j, a, b, c⟩
            exact ⟨j, a, by omega, c⟩
          · rintro ⟨j, a, b, c, d, e, g⟩
            by_cases ej : j = i
            · subst ej
              rw [← g]
              exact (h6 _ (by omega) (by omega)).mp (hd c d e)
            · exact ⟨j, a, by omega, c, d, e, g⟩
      -- one more
      have more : ∀ dead' : Int, BodAt r q (fun k => hasI ons k) i → (∀ p, 0 ≤ p → p < 7 → (hasI dead' p ↔ hasI dead p ∨ (r (9 + r (54 + 7 * q i + 0)) = 3 ∧ p = r (54 + 7 * q i + 0)))) → V X M_X12_bodilyOf z0 125 [some (vr (138)), some (vi (ons)), some (vi (set)), some (vi (dead)), some (vi (i)), some (vi (q i)), some (vi (r (54 + 7 * q i + 0)))] [(vi (dead'))] (I) L R (RT X M_X12_bodilyOf Q) := by
        intro dead' hb hd
        refine s_istore_n (ls' := [_, _, _, _, _, _, _]) 126 dX12_bodilyOf_125 rfl (Nat.le_of_ble_eq_true rfl) rfl rfl ?_
        refine s_iload_n 127 dX12_bodilyOf_126 rfl rfl ?_
        refine s_iconst 128 dX12_bodilyOf_127 rfl ?_
        refine s_iload 130 dX12_bodilyOf_128 rfl rfl ?_
        refine s_ishl 131 dX12_bodilyOf_130 rfl ?_
        refine s_ior 132 dX12_bodilyOf_131 rfl ?_
        refine s_istore_n (ls' := [_, _, _, _, _, _, _]) 133 dX12_bodilyOf_132 rfl (Nat.le_of_ble_eq_true rfl) rfl rfl ?_
        refine s_iinc (ls' := [_, _, _, _, _, _, _]) 136 dX12_bodilyOf_133 rfl rfl (Nat.le_of_ble_eq_true rfl) rfl rfl ?_
        refine s_goto 7 dX12_bodilyOf_136 rfl ?_
        refine ih (i + 1) _ dead' _ _ (by omega) (by omega) (by omega) (ior_r _ _) (fun k q1 q2 => ?_) (fun p q1 q2 => ?_)
        · rw [has_or ⟨q1, q2⟩, h5 k q1 q2, has_shl (by omega) ⟨q1, q2⟩]
          constructor
          · rintro (⟨j, a, b, c, d⟩ | rfl)
            · exact ⟨j, a, by omega, c, d⟩
            · exact ⟨i, h2, by omega, rfl, hb⟩
          · rintro ⟨j, a, b, c, d⟩
            by_cases ej : j = i
            · subst ej; exact Or.inr c.symm
            · exact Or.inl ⟨j, a, by omega, c, d⟩
        · rw [hd p q1 q2, h6 p q1 q2]
          constructor
          · rintro (⟨j, a, b, c⟩ | ⟨a, b⟩)
            · exact ⟨j, a, by omega, c⟩
            · exact ⟨i, h2, by omega, hb.1, hb.2.1, a, b.symm⟩
          · rintro ⟨j, a, b, c, d, e, g⟩
            by_cases ej : j = i
            · subst ej; exact Or.inr ⟨e, g.symm⟩
            · exact Or.inl ⟨j, a, by omega, c, d, e, g⟩
      refine s_aload_n 20 dX12_bodilyOf_19 rfl rfl ?_
      refine s_getR 23 dX12_bodilyOf_20 rfl fl_X12_53 (fun _ _ _ _ => rfl) (T_X12_inTime hT) sh_138 (Nat.le_of_ble_eq_true rfl) ?_
      refine s_iload 25 dX12_bodilyOf_23 rfl rfl ?_
      refine s_iald 26 dX12_bodilyOf_25 rfl sh_152 (Nat.le_of_ble_eq_true rfl) (by omega) (by omega) (fun r_25 => ?_)
      rw [eq] at r_25 ⊢
      refine s_istore (ls' := [_, _, _, _, _, _, _]) 28 dX12_bodilyOf_26 rfl (Nat.le_of_ble_eq_true rfl) rfl rfl ?_
      refine s_aload_n 29 dX12_bodilyOf_28 rfl rfl ?_
      refine s_iload 31 dX12_bodilyOf_29 rfl rfl ?_
      refine s_iconst 32 dX12_bodilyOf_31 rfl ?_
      refine s_callV0 (M' := M_X12_onOf) (as := [_, _]) 35 dX12_bodilyOf_32 rfl cw_X12_302 rfl rfl sh_138 rfl (by decide) (Nat.le_of_ble_eq_true rfl) (Nat.le_of_ble_eq_true rfl) (Nat.le_of_ble_eq_true rfl) (Nat.le_of_ble_eq_true rfl) ⟨rfl, rfl, rfl⟩ ?_
      refine c_X12_onOf hT er (by omega) (by omega) ?_
      refine s_istore (ls' := [_, _, _, _, _, _, _]) 37 dX12_bodilyOf_35 rfl (Nat.le_of_ble_eq_true rfl) rfl rfl ?_
      refine s_iload_n 38 dX12_bodilyOf_37 rfl rfl ?_
      refine s_iload 40 dX12_bodilyOf_38 rfl rfl ?_
      refine s_callS0 (M' := M_X12_has) (as := [_, _]) 43 dX12_bodilyOf_40 rfl cw_X12_278 rfl rfl (Nat.le_of_ble_eq_true rfl) (Nat.le_of_ble_eq_true rfl) (Nat.le_of_ble_eq_true rfl) ⟨rfl, rfl, rfl⟩ ?_
      refine c_X12_has ?_
      refine s_ifb_eq 133 46 dX12_bodilyOf_43 rfl rfl (fun h_43 => ?_) (fun h_43 => ?_)
      · skip
        exact next _ _ (fun z => by first | exact absurd z.1 (by assumption) | exact z.2.1 (by assumption) | exact z.2.2.1 (by assumption) | (obtain ⟨j, a, b, c, d, e, g⟩ := (h6 (r (54 + 7 * q i + 0)) (by omega) (by omega)).mp (by assumption); exact z.2.2.2 (by assumption) j a b c d g)) (fun z1 z2 z3 => by first | exact absurd z1 (by assumption) | exact absurd (by assumption) z2 | assumption | omega)
      refine s_aload_n 47 dX12_bodilyOf_46 rfl rfl ?_
      refine s_iload 49 dX12_bodilyOf_47 rfl rfl ?_
      refine s_bipush 51 dX12_bodilyOf_49 rfl (by decide) ?_
      refine s_callV0 (M' := M_X12_onOf) (as := [_, _]) 54 dX12_bodilyOf_51 rfl cw_X12_302 rfl rfl sh_138 rfl (by decide) (Nat.le_of_ble_eq_true rfl) (Nat.le_of_ble_eq_true rfl) (Nat.le_of_ble_eq_true rfl) (Nat.le_of_ble_eq_true rfl) ⟨rfl, rfl, rfl⟩ ?_
      refine c_X12_onOf hT er (by omega) (by omega) ?_
      refine s_iconst 55 dX12_bodilyOf_54 rfl ?_
      refine s_icmp_eq 133 58 dX12_bodilyOf_55 rfl rfl (by first | omega | exact bI_r _ | exact iI_r _) (by first | omega | exact bI_r _ | exact iI_r _) (fun h_55 => ?_) (fun h_55 => ?_)
      · skip
        exact next _ _ (fun z => by first | exact absurd z.1 (by assumption) | exact z.2.1 (by assumption) | exact z.2.2.1 (by assumption) | (obtain ⟨j, a, b, c, d, e, g⟩ := (h6 (r (54 + 7 * q i + 0)) (by omega) (by omega)).mp (by assumption); exact z.2.2.2 (by assumption) j a b c d g)) (fun z1 z2 z3 => by first | exact absurd z1 (by assumption) | exact absurd (by assumption) z2 | assumption | omega)
      refine s_aload_n 59 dX12_bodilyOf_58 rfl rfl ?_
      refine s_getR 62 dX12_bodilyOf_59 rfl fl_X12_20 (fun _ _ _ _ => rfl) (T_X12_r hT) sh_138 (Nat.le_of_ble_eq_true rfl) ?_
      refine s_bipush 64 dX12_bodilyOf_62 rfl (by decide) ?_
      refine s_iload 66 dX12_bodilyOf_64 rfl rfl ?_
      refine s_iadd 67 dX12_bodilyOf_66 rfl ?_
      refine s_iald 68 dX12_bodilyOf_67 rfl sh_141 (Nat.le_of_ble_eq_true rfl) (by omega) (by omega) (fun r_67 => ?_)
      rw [er] at r_67 ⊢
      refine s_iconst 69 dX12_bodilyOf_68 rfl ?_
      refine s_icmp_ne 75 72 dX12_bodilyOf_69 rfl rfl (by first | omega | exact bI_r _ | exact iI_r _) (by first | omega | exact bI_r _ | exact iI_r _) (fun h_69 => ?_) (fun h_69 => ?_)
      · skip
        refine s_aload_n 76 dX12_bodilyOf_75 rfl rfl ?_
        refine s_getR 79 dX12_bodilyOf_76 rfl fl_X12_20 (fun _ _ _ _ => rfl) (T_X12_r hT) sh_138 (Nat.le_of_ble_eq_true rfl) ?_
        refine s_bipush 81 dX12_bodilyOf_79 rfl (by decide) ?_
        refine s_iload 83 dX12_bodilyOf_81 rfl rfl ?_
        refine s_iadd 84 dX12_bodilyOf_83 rfl ?_
        refine s_iald 85 dX12_bodilyOf_84 rfl sh_141 (Nat.le_of_ble_eq_true rfl) (by omega) (by omega) (fun r_84 => ?_)
        rw [er] at r_84 ⊢
        refine s_iconst 86 dX12_bodilyOf_85 rfl ?_
        refine s_icmp_ne 101 89 dX12_bodilyOf_86 rfl rfl (by first | omega | exact bI_r _ | exact iI_r _) (by first | omega | exact bI_r _ | exact iI_r _) (fun h_86 => ?_) (fun h_86 => ?_)
        · skip
          refine s_iload_n 102 dX12_bodilyOf_101 rfl rfl ?_
          refine s_aload_n 103 dX12_bodilyOf_102 rfl rfl ?_
          refine s_getR 106 dX12_bodilyOf_103 rfl fl_X12_20 (fun _ _ _ _ => rfl) (T_X12_r hT) sh_138 (Nat.le_of_ble_eq_true rfl) ?_
          refine s_bipush 108 dX12_bodilyOf_106 rfl (by decide) ?_
          refine s_iload 110 dX12_bodilyOf_108 rfl rfl ?_
          refine s_iadd 111 dX12_bodilyOf_110 rfl ?_
          refine s_iald 112 dX12_bodilyOf_111 rfl sh_141 (Nat.le_of_ble_eq_true rfl) (by omega) (by omega) (fun r_111 => ?_)
          rw [er] at r_111 ⊢
          refine s_iconst 113 dX12_bodilyOf_112 rfl ?_
          refine s_icmp_ne 123 116 dX12_bodilyOf_113 rfl rfl (by first | omega | exact bI_r _ | exact iI_r _) (by first | omega | exact bI_r _ | exact iI_r _) (fun h_113 => ?_) (fun h_113 => ?_)
          · skip
            refine s_iconst 124 dX12_bodilyOf_123 rfl ?_
            refine s_ior 125 dX12_bodilyOf_124 rfl ?_
            refine more _ ⟨by assumption, by assumption, by assumption, fun z => ?_⟩ (fun p q1 q2 => ?_)
            · first | exact absurd z (by assumption) | (intro j a b c d g; exact (by assumption : ¬ hasI dead (r (54 + 7 * q i + 0))) ((h6 (r (54 + 7 * q i + 0)) (by omega) (by omega)).mpr ⟨j, a, b, c, d, by rw [g]; exact z, g⟩))
            · rw [has_or ⟨q1, by omega⟩]
              first | (rw [has_shl (by omega) ⟨q1, by omega⟩]; constructor <;> (rintro (z | z) <;> first | exact Or.inl z | exact Or.inr ⟨by assumption, z⟩ | exact Or.inr z.2)) | (constructor <;> (rintro (z | z) <;> first | exact Or.inl z | exact absurd z (has_0 ⟨q1, by omega⟩) | exact absurd z.1 (by assumption)))
          refine s_iconst 117 dX12_bodilyOf_116 rfl ?_
          refine s_iload 119 dX12_bodilyOf_117 rfl rfl ?_
          refine s_ishl 120 dX12_bodilyOf_119 rfl ?_
          refine s_goto 124 dX12_bodilyOf_120 rfl ?_
          refine s_ior 125 dX12_bodilyOf_124 rfl ?_
          refine more _ ⟨by assumption, by assumption, by assumption, fun z => ?_⟩ (fun p q1 q2 => ?_)
          · first | exact absurd z (by assumption) | (intro j a b c d g; exact (by assumption : ¬ hasI dead (r (54 + 7 * q i + 0))) ((h6 (r (54 + 7 * q i + 0)) (by omega) (by omega)).mpr ⟨j, a, b, c, d, by rw [g]; exact z, g⟩))
          · rw [has_or ⟨q1, by omega⟩]
            first | (rw [has_shl (by omega) ⟨q1, by omega⟩]; constructor <;> (rintro (z | z) <;> first | exact Or.inl z | exact Or.inr ⟨by assumption, z⟩ | exact Or.inr z.2)) | (constructor <;> (rintro (z | z) <;> first | exact Or.inl z | exact absurd z (has_0 ⟨q1, by omega⟩) | exact absurd z.1 (by assumption)))
        refine s_iload_n 90 dX12_bodilyOf_89 rfl rfl ?_
        refine s_iload 92 dX12_bodilyOf_90 rfl rfl ?_
        refine s_callS0 (M' := M_X12_has) (as := [_, _]) 95 dX12_bodilyOf_92 rfl cw_X12_278 rfl rfl (Nat.le_of_ble_eq_true rfl) (Nat.le_of_ble_eq_true rfl) (Nat.le_of_ble_eq_true rfl) ⟨rfl, rfl, rfl⟩ ?_
        refine c_X12_has ?_
        refine s_ifb_eq 101 98 dX12_bodilyOf_95 rfl rfl (fun h_95 => ?_) (fun h_95 => ?_)
        · skip
          refine s_iload_n 102 dX12_bodilyOf_101 rfl rfl ?_
          refine s_aload_n 103 dX12_bodilyOf_102 rfl rfl ?_
          refine s_getR 106 dX12_bodilyOf_103 rfl fl_X12_20 (fun _ _ _ _ => rfl) (T_X12_r hT) sh_138 (Nat.le_of_ble_eq_true rfl) ?_
          refine s_bipush 108 dX12_bodilyOf_106 rfl (by decide) ?_
          refine s_iload 110 dX12_bodilyOf_108 rfl rfl ?_
          refine s_iadd 111 dX12_bodilyOf_110 rfl ?_
          refine s_iald 112 dX12_bodilyOf_111 rfl sh_141 (Nat.le_of_ble_eq_true rfl) (by omega) (by omega) (fun r_111 => ?_)
          rw [er] at r_111 ⊢
          refine s_iconst 113 dX12_bodilyOf_112 rfl ?_
          refine s_icmp_ne 123 116 dX12_bodilyOf_113 rfl rfl (by first | omega | exact bI_r _ | exact iI_r _) (by first | omega | exact bI_r _ | exact iI_r _) (fun h_113 => ?_) (fun h_113 => ?_)
          · skip
            refine s_iconst 124 dX12_bodilyOf_123 rfl ?_
            refine s_ior 125 dX12_bodilyOf_124 rfl ?_
            refine more _ ⟨by assumption, by assumption, by assumption, fun z => ?_⟩ (fun p q1 q2 => ?_)
            · first | exact absurd z (by assumption) | (intro j a b c d g; exact (by assumption : ¬ hasI dead (r (54 + 7 * q i + 0))) ((h6 (r (54 + 7 * q i + 0)) (by omega) (by omega)).mpr ⟨j, a, b, c, d, by rw [g]; exact z, g⟩))
            · rw [has_or ⟨q1, by omega⟩]
              first | (rw [has_shl (by omega) ⟨q1, by omega⟩]; constructor <;> (rintro (z | z) <;> first | exact Or.inl z | exact Or.inr ⟨by assumption, z⟩ | exact Or.inr z.2)) | (constructor <;> (rintro (z | z) <;> first | exact Or.inl z | exact absurd z (has_0 ⟨q1, by omega⟩) | exact absurd z.1 (by assumption)))
          refine s_iconst 117 dX12_bodilyOf_116 rfl ?_
          refine s_iload 119 dX12_bodilyOf_117 rfl rfl ?_
          refine s_ishl 120 dX12_bodilyOf_119 rfl ?_
          refine s_goto 124 dX12_bodilyOf_120 rfl ?_
          refine s_ior 125 dX12_bodilyOf_124 rfl ?_
          refine more _ ⟨by assumption, by assumption, by assumption, fun z => ?_⟩ (fun p q1 q2 => ?_)
          · first | exact absurd z (by assumption) | (intro j a b c d g; exact (by assumption : ¬ hasI dead (r (54 + 7 * q i + 0))) ((h6 (r (54 + 7 * q i + 0)) (by omega) (by omega)).mpr ⟨j, a, b, c, d, by rw [g]; exact z, g⟩))
          · rw [has_or ⟨q1, by omega⟩]
            first | (rw [has_shl (by omega) ⟨q1, by omega⟩]; constructor <;> (rintro (z | z) <;> first | exact Or.inl z | exact Or.inr ⟨by assumption, z⟩ | exact Or.inr z.2)) | (constructor <;> (rintro (z | z) <;> first | exact Or.inl z | exact absurd z (has_0 ⟨q1, by omega⟩) | exact absurd z.1 (by assumption)))
        refine s_goto 133 dX12_bodilyOf_98 rfl ?_
        exact next _ _ (fun z => by first | exact absurd z.1 (by assumption) | exact z.2.1 (by assumption) | exact z.2.2.1 (by assumption) | (obtain ⟨j, a, b, c, d, e, g⟩ := (h6 (r (54 + 7 * q i + 0)) (by omega) (by omega)).mp (by assumption); exact z.2.2.2 (by assumption) j a b c d g)) (fun z1 z2 z3 => by first | exact absurd z1 (by assumption) | exact absurd (by assumption) z2 | assumption | omega)
      refine s_goto 133 dX12_bodilyOf_72 rfl ?_
      exact next _ _ (fun z => by first | exact absurd z.1 (by assumption) | exact z.2.1 (by assumption) | exact z.2.2.1 (by assumption) | (obtain ⟨j, a, b, c, d, e, g⟩ := (h6 (r (54 + 7 * q i + 0)) (by omega) (by omega)).mp (by assumption); exact z.2.2.2 (by assumption) j a b c d g)) (fun z1 z2 z3 => by first | exact absurd z1 (by assumption) | exact absurd (by assumption) z2 | assumption | omega)
  refine s_iconst 1 dX12_bodilyOf_0 rfl ?_
  refine s_istore_n (ls' := [_, _, _, _, _, _, _]) 2 dX12_bodilyOf_1 rfl (Nat.le_of_ble_eq_true rfl) rfl rfl ?_
  refine s_iconst 3 dX12_bodilyOf_2 rfl ?_
  refine s_istore_n (ls' := [_, _, _, _, _, _, _]) 4 dX12_bodilyOf_3 rfl (Nat.le_of_ble_eq_true rfl) rfl rfl ?_
  refine s_iconst 5 dX12_bodilyOf_4 rfl ?_
  refine s_istore (ls' := [_, _, _, _, _, _, _]) 7 dX12_bodilyOf_5 rfl (Nat.le_of_ble_eq_true rfl) rfl rfl ?_
  refine loop (r 7 + 1).toNat 0 0 0 none none (by omega) (by omega) (by omega) (by omega) (fun k q1 q2 => ?_) (fun p q1 q2 => ?_)
  · exact ⟨fun z => absurd z (has_0 ⟨q1, q2⟩), fun ⟨j, a, b, _⟩ => by omega⟩
  · exact ⟨fun z => absurd z (has_0 ⟨q1, by omega⟩), fun ⟨j, a, b, _⟩ => by omega⟩
set_option maxHeartbeats 4000000 in
theorem c_X12_doMeetSets {E : ET} {I : MI} {L : ML} {R : MR} {Q : Option AV → MI → ML → MR → Prop} {r b c : F1} {one oth : Int} (hT : Topo R) (er : I 141 = r) (eb : I 150 = b) (ec : I 151 = c) (hr : WFr r) (h : Q (some (vi (bI (MeetS b c (r 7) (fun k => hasI one k) (fun k => hasI oth k))))) I L R) : CT E M_X12_doMeetSets 161 yX12_doMeetSets [(vr (138)), (vi (one)), (vi (oth))] I L R Q := by
  refine CT_of rfl rfl (fun h => by cases h) (Nat.le_of_ble_eq_true rfl) (fun X => ?_)
  show V X _ z0 0 [some (vr (138)), some (vi (one)), some (vi (oth)), none, none, none] [] I L R _
  have e0 := hr.1
  obtain ⟨U, eU⟩ : ∃ U : Int → Prop, U = fun k => ∃ a l, 0 ≤ a ∧ a < k ∧ 0 ≤ l ∧ l < r 7 ∧ hasI one a ∧ a ≠ l ∧ hasI oth l ∧ meetP b c a l := ⟨_, rfl⟩
  obtain ⟨T, eT⟩ : ∃ T : Int → Int → Prop, T = fun k m => ∃ l, 0 ≤ l ∧ l < m ∧ hasI one k ∧ k ≠ l ∧ hasI oth l ∧ meetP b c k l := ⟨_, rfl⟩
  have U0 : ¬ U 0 := by rw [eU]; rintro ⟨a, l, h1, h2, _⟩; omega
  have T0 : ∀ k, ¬ T k 0 := by intro k; rw [eT]; rintro ⟨l, h1, h2, _⟩; omega
  have US : ∀ k, 0 ≤ k → (U (k + 1) ↔ U k ∨ T k (r 7)) := by
    intro k hk
    rw [eU, eT]
    constructor
    · rintro ⟨a, l, h1, h2, h3, h4, h5⟩
      by_cases e : a = k
      · subst e; exact Or.inr ⟨l, h3, h4, h5⟩
      · exact Or.inl ⟨a, l, h1, by omega, h3, h4, h5⟩
    · rintro (⟨a, l, h1, h2, h3⟩ | ⟨l, h1, h2, h3⟩)
      · exact ⟨a, l, h1, by omega, h3⟩
      · exact ⟨k, l, hk, by omega, h1, h2, h3⟩
  have TS : ∀ k m, 0 ≤ m → (T k (m + 1) ↔ T k m ∨ (hasI one k ∧ k ≠ m ∧ hasI oth m ∧ meetP b c k m)) := by
    intro k m hm
    rw [eT]
    constructor
    · rintro ⟨l, h1, h2, h3⟩
      by_cases e : l = m
      · subst e; exact Or.inr h3
      · exact Or.inl ⟨l, h1, by omega, h3⟩
    · rintro (⟨l, h1, h2, h3⟩ | h3)
      · exact ⟨l, h1, by omega, h3⟩
      · exact ⟨m, hm, by omega, h3⟩
  have UE : MeetS b c (r 7) (fun k => hasI one k) (fun k => hasI oth k) ↔ U (r 7) := by
    rw [eU]
    exact Iff.rfl
  rw [bI_c UE] at h
  clear eU eT UE
  have loop1 : ∀ (f : Nat) (k : Int) (w : Option AV), r 7 - k < (f : Int) → 0 ≤ k → k ≤ r 7 → V X M_X12_doMeetSets z0 5 [some (vr 138), some (vi one), some (vi oth), some (vi (bI (U k))), some (vi k), w] [] I L R (RT X M_X12_doMeetSets Q) := by
    intro f
    induction f with
    | zero => intro k w h1 h2 h3; omega
    | succ f ih =>
      intro k w h1 h2 h3
      refine s_iload 7 dX12_doMeetSets_5 rfl rfl ?_
      refine s_aload_n 8 dX12_doMeetSets_7 rfl rfl ?_
      refine s_getR 11 dX12_doMeetSets_8 rfl fl_X12_20 (fun _ _ _ _ => rfl) (T_X12_r hT) sh_138 (Nat.le_of_ble_eq_true rfl) ?_
      refine s_bipush 13 dX12_doMeetSets_11 rfl (by decide) ?_
      refine s_iald 14 dX12_doMeetSets_13 rfl sh_141 (Nat.le_of_ble_eq_true rfl) (by omega) (by omega) (fun r_13 => ?_)
      rw [er] at r_13 ⊢
      refine s_icmp_ge 90 17 dX12_doMeetSets_14 rfl rfl (by first | omega | exact bI_r _ | exact iI_r _) (by first | omega | exact bI_r _ | exact iI_r _) (fun h_14 => ?_) (fun h_14 => ?_)
      · skip
        refine s_iload_n 91 dX12_doMeetSets_90 rfl rfl ?_
        refine s_zret dX12_doMeetSets_91 rfl (by first | omega | exact bI_b _) rfl ?_
        have ek : k = r 7 := by omega
        subst ek
        exact h
      skip
      have exit1 : ∀ (P : Prop) (w : Option AV), (P ↔ U k ∨ T k (r 7)) → V X M_X12_doMeetSets z0 84 [some (vr 138), some (vi one), some (vi oth), some (vi (bI P)), some (vi k), w] [] I L R (RT X M_X12_doMeetSets Q) := by
        intro P w hP
        refine s_iinc (ls' := [_, _, _, _, _, _]) 87 dX12_doMeetSets_84 rfl rfl (Nat.le_of_ble_eq_true rfl) rfl rfl ?_
        refine s_goto 5 dX12_doMeetSets_87 rfl ?_
        rw [bI_c (hP.trans (US k h2).symm)]
        exact ih (k + 1) w (by omega) (by omega) (by omega)
      have loop2 : ∀ (g : Nat) (m : Int), r 7 - m < (g : Int) → 0 ≤ m → m ≤ r 7 → V X M_X12_doMeetSets z0 20 [some (vr (138)), some (vi (one)), some (vi (oth)), some (vi (bI (U k ∨ T k m))), some (vi (k)), some (vi (m))] [] (I) L R (RT X M_X12_doMeetSets Q) := by
        intro g
        induction g with
        | zero => intro m k1 k2 k3; omega
        | succ g ih2 =>
          intro m k1 k2 k3
          refine s_iload 22 dX12_doMeetSets_20 rfl rfl ?_
          refine s_aload_n 23 dX12_doMeetSets_22 rfl rfl ?_
          refine s_getR 26 dX12_doMeetSets_23 rfl fl_X12_20 (fun _ _ _ _ => rfl) (T_X12_r hT) sh_138 (Nat.le_of_ble_eq_true rfl) ?_
          refine s_bipush 28 dX12_doMeetSets_26 rfl (by decide) ?_
          refine s_iald 29 dX12_doMeetSets_28 rfl sh_141 (Nat.le_of_ble_eq_true rfl) (by omega) (by omega) (fun r_28 => ?_)
          rw [er] at r_28 ⊢
          refine s_icmp_ge 84 32 dX12_doMeetSets_29 rfl rfl (by first | omega | exact bI_r _ | exact iI_r _) (by first | omega | exact bI_r _ | exact iI_r _) (fun h_29 => ?_) (fun h_29 => ?_)
          · skip
            refine exit1 _ _ ?_
            rw [show m = r 7 by omega]
          skip
          have join : ∀ v, v = bI (U k ∨ T k (m + 1)) → V X M_X12_doMeetSets z0 77 [some (vr (138)), some (vi (one)), some (vi (oth)), some (vi (bI (U k ∨ T k m))), some (vi (k)), some (vi (m))] [(vi (v))] (I) L R (RT X M_X12_doMeetSets Q) := by
            intro v hv
            subst hv
            refine s_istore_n (ls' := [_, _, _, _, _, _]) 78 dX12_doMeetSets_77 rfl (Nat.le_of_ble_eq_true rfl) rfl rfl ?_
            refine s_iinc (ls' := [_, _, _, _, _, _]) 81 dX12_doMeetSets_78 rfl rfl (Nat.le_of_ble_eq_true rfl) rfl rfl ?_
            refine s_goto 20 dX12_doMeetSets_81 rfl ?_
            exact ih2 (m + 1) (by omega) (by omega) (by omega)
          have hT9 := TS k m k2
          refine s_iload_n 33 dX12_doMeetSets_32 rfl rfl ?_
          refine s_iload 35 dX12_doMeetSets_33 rfl rfl ?_
          refine s_callS0 (M' := M_X12_has) (as := [_, _]) 38 dX12_doMeetSets_35 rfl cw_X12_278 rfl rfl (Nat.le_of_ble_eq_true rfl) (Nat.le_of_ble_eq_true rfl) (Nat.le_of_ble_eq_true rfl) ⟨rfl, rfl, rfl⟩ ?_
          refine c_X12_has ?_
          refine s_ifb_eq 84 41 dX12_doMeetSets_38 rfl rfl (fun h_38 => ?_) (fun h_38 => ?_)
          · skip
            refine exit1 _ _ ?_
            have hn : ∀ j, 0 ≤ j → ¬ T k j := by
              intro j hj z
              have : ∀ n : Nat, ¬ T k n := by
                intro n
                induction n with
                | zero => exact T0 k
                | succ n ihn => intro z; rcases (TS k n (by omega)).mp (by simpa using z) with q | q; exact ihn q; exact absurd q.1 (by assumption)
              exact this j.toNat (by rw [show ((j.toNat : Nat) : Int) = j by omega]; exact z)
            exact ⟨fun z => z.elim Or.inl (fun q => absurd q (hn m k2)), fun z => z.elim Or.inl (fun q => absurd q (hn _ (by omega)))⟩
          refine s_iload_n 42 dX12_doMeetSets_41 rfl rfl ?_
          refine s_ifb_ne 72 45 dX12_doMeetSets_42 rfl rfl (fun h_42 => ?_) (fun h_42 => ?_)
          · skip
            refine s_iconst 73 dX12_doMeetSets_72 rfl ?_
            refine s_goto 77 dX12_doMeetSets_73 rfl ?_
            refine join _ ?_
            first | (rw [bI_t]; first | exact (by assumption : U k ∨ T k m).elim Or.inl (fun z => Or.inr (hT9.mpr (Or.inl z))) | exact Or.inr (hT9.mpr (Or.inr ⟨by assumption, by assumption, by assumption, by assumption⟩))) | (rw [bI_f]; rintro (z | z); exact absurd (Or.inl z) (by assumption : ¬ (U k ∨ T k m)); rcases hT9.mp z with q | ⟨q1, q2, q3, q4⟩; exact absurd (Or.inr q) (by assumption : ¬ (U k ∨ T k m)); contradiction)
          refine s_iload 47 dX12_doMeetSets_45 rfl rfl ?_
          refine s_iload 49 dX12_doMeetSets_47 rfl rfl ?_
          refine s_icmp_eq 76 52 dX12_doMeetSets_49 rfl rfl (by first | omega | exact bI_r _ | exact iI_r _) (by first | omega | exact bI_r _ | exact iI_r _) (fun h_49 => ?_) (fun h_49 => ?_)
          · skip
            refine s_iconst 77 dX12_doMeetSets_76 rfl ?_
            refine join _ ?_
            first | (rw [bI_t]; first | exact (by assumption : U k ∨ T k m).elim Or.inl (fun z => Or.inr (hT9.mpr (Or.inl z))) | exact Or.inr (hT9.mpr (Or.inr ⟨by assumption, by assumption, by assumption, by assumption⟩))) | (rw [bI_f]; rintro (z | z); exact absurd (Or.inl z) (by assumption : ¬ (U k ∨ T k m)); rcases hT9.mp z with q | ⟨q1, q2, q3, q4⟩; exact absurd (Or.inr q) (by assumption : ¬ (U k ∨ T k m)); contradiction)
          refine s_iload_n 53 dX12_doMeetSets_52 rfl rfl ?_
          refine s_iload 55 dX12_doMeetSets_53 rfl rfl ?_
          refine s_callS0 (M' := M_X12_has) (as := [_, _]) 58 dX12_doMeetSets_55 rfl cw_X12_278 rfl rfl (Nat.le_of_ble_eq_true rfl) (Nat.le_of_ble_eq_true rfl) (Nat.le_of_ble_eq_true rfl) ⟨rfl, rfl, rfl⟩ ?_
          refine c_X12_has ?_
          refine s_ifb_eq 76 61 dX12_doMeetSets_58 rfl rfl (fun h_58 => ?_) (fun h_58 => ?_)
          · skip
            refine s_iconst 77 dX12_doMeetSets_76 rfl ?_
            refine join _ ?_
            first | (rw [bI_t]; first | exact (by assumption : U k ∨ T k m).elim Or.inl (fun z => Or.inr (hT9.mpr (Or.inl z))) | exact Or.inr (hT9.mpr (Or.inr ⟨by assumption, by assumption, by assumption, by assumption⟩))) | (rw [bI_f]; rintro (z | z); exact absurd (Or.inl z) (by assumption : ¬ (U k ∨ T k m)); rcases hT9.mp z with q | ⟨q1, q2, q3, q4⟩; exact absurd (Or.inr q) (by assumption : ¬ (U k ∨ T k m)); contradiction)
          refine s_aload_n 62 dX12_doMeetSets_61 rfl rfl ?_
          refine s_iload 64 dX12_doMeetSets_62 rfl rfl ?_
          refine s_iload 66 dX12_doMeetSets_64 rfl rfl ?_
          refine s_callV0 (M' := M_X12_doMeet) (as := [_, _]) 69 dX12_doMeetSets_66 rfl cw_X12_324 rfl rfl sh_138 rfl (by decide) (Nat.le_of_ble_eq_true rfl) (Nat.le_of_ble_eq_true rfl) (Nat.le_of_ble_eq_true rfl) (Nat.le_of_ble_eq_true rfl) ⟨rfl, rfl, rfl⟩ ?_
          refine c_X12_doMeet hT eb ec (by omega) (by omega) ?_
          refine s_ifb_eq 76 72 dX12_doMeetSets_69 rfl rfl (fun h_69 => ?_) (fun h_69 => ?_)
          · skip
            refine s_iconst 77 dX12_doMeetSets_76 rfl ?_
            refine join _ ?_
            first | (rw [bI_t]; first | exact (by assumption : U k ∨ T k m).elim Or.inl (fun z => Or.inr (hT9.mpr (Or.inl z))) | exact Or.inr (hT9.mpr (Or.inr ⟨by assumption, by assumption, by assumption, by assumption⟩))) | (rw [bI_f]; rintro (z | z); exact absurd (Or.inl z) (by assumption : ¬ (U k ∨ T k m)); rcases hT9.mp z with q | ⟨q1, q2, q3, q4⟩; exact absurd (Or.inr q) (by assumption : ¬ (U k ∨ T k m)); contradiction)
          refine s_iconst 73 dX12_doMeetSets_72 rfl ?_
          refine s_goto 77 dX12_doMeetSets_73 rfl ?_
          refine join _ ?_
          first | (rw [bI_t]; first | exact (by assumption : U k ∨ T k m).elim Or.inl (fun z => Or.inr (hT9.mpr (Or.inl z))) | exact Or.inr (hT9.mpr (Or.inr ⟨by assumption, by assumption, by assumption, by assumption⟩))) | (rw [bI_f]; rintro (z | z); exact absurd (Or.inl z) (by assumption : ¬ (U k ∨ T k m)); rcases hT9.mp z with q | ⟨q1, q2, q3, q4⟩; exact absurd (Or.inr q) (by assumption : ¬ (U k ∨ T k m)); contradiction)
      refine s_iconst 18 dX12_doMeetSets_17 rfl ?_
      refine s_istore (ls' := [_, _, _, _, _, _]) 20 dX12_doMeetSets_18 rfl (Nat.le_of_ble_eq_true rfl) rfl rfl ?_
      have := loop2 (r 7 + 1).toNat 0 (by omega) (by omega) (by omega)
      rw [bI_c (show U k ∨ T k 0 ↔ U k from ⟨fun z => z.elim id (fun q => absurd q (T0 k)), Or.inl⟩)] at this
      exact this
  refine s_iconst 1 dX12_doMeetSets_0 rfl ?_
  refine s_istore_n (ls' := [_, _, _, _, _, _]) 2 dX12_doMeetSets_1 rfl (Nat.le_of_ble_eq_true rfl) rfl rfl ?_
  refine s_iconst 3 dX12_doMeetSets_2 rfl ?_
  refine s_istore (ls' := [_, _, _, _, _, _]) 5 dX12_doMeetSets_3 rfl (Nat.le_of_ble_eq_true rfl) rfl rfl ?_
  have := loop1 (r 7 + 1).toNat 0 none (by omega) (by omega) (by omega)
  rw [bI_f U0] at this
  exact this
set_option maxHeartbeats 4000000 in
theorem c_X12_canHave {E : ET} {I : MI} {L : ML} {R : MR} {Q : Option AV → MI → ML → MR → Prop} {r b c q : F1} {rd ons : Int} (hT : Topo R) (er : I 141 = r) (erd : I 138 30 = rd) (eb : I 150 = b) (ec : I 151 = c) (eq : I 152 = q) (hr : WFr r) (hq : Perm (r 7) q) (hb : ∀ k, 0 ≤ k → k < r 7 → 0 ≤ b k ∧ b k ≤ 4000 ∧ 0 ≤ c k ∧ c k ≤ 4000) (h : Q (some (vi (bI (Can r rd b c q (fun k => hasI ons k))))) I L R) : CT E M_X12_canHave 161 yX12_canHave [(vr (138)), (vi (ons))] I L R Q := by
  refine CT_of rfl rfl (fun h => by cases h) (Nat.le_of_ble_eq_true rfl) (fun X => ?_)
  show V X _ z0 0 [some (vr (138)), some (vi (ons)), none, none, none, none, none, none] [] I L R _
  have e0 := hr.1
  refine s_aload_n 1 dX12_canHave_0 rfl rfl ?_
  refine s_iload_n 2 dX12_canHave_1 rfl rfl ?_
  refine s_callV0 (M' := M_X12_behindOf) (as := [_]) 5 dX12_canHave_2 rfl cw_X12_327 rfl rfl sh_138 rfl (by decide) (Nat.le_of_ble_eq_true rfl) (Nat.le_of_ble_eq_true rfl) (Nat.le_of_ble_eq_true rfl) (Nat.le_of_ble_eq_true rfl) ⟨rfl, rfl, rfl⟩ ?_
  refine c_X12_behindOf hT er hr ?_
  refine s_istore_n (ls' := [_, _, _, _, _, _, _, _]) 6 dX12_canHave_5 rfl (Nat.le_of_ble_eq_true rfl) rfl rfl ?_
  refine s_aload_n 7 dX12_canHave_6 rfl rfl ?_
  refine s_iload_n 8 dX12_canHave_7 rfl rfl ?_
  refine s_callV0 (M' := M_X12_bodilyOf) (as := [_]) 11 dX12_canHave_8 rfl cw_X12_330 rfl rfl sh_138 rfl (by decide) (Nat.le_of_ble_eq_true rfl) (Nat.le_of_ble_eq_true rfl) (Nat.le_of_ble_eq_true rfl) (Nat.le_of_ble_eq_true rfl) ⟨rfl, rfl, rfl⟩ ?_
  refine c_X12_bodilyOf hT er eq hr hq (fun B hB => ?_)
  refine s_istore_n (ls' := [_, _, _, _, _, _, _, _]) 12 dX12_canHave_11 rfl (Nat.le_of_ble_eq_true rfl) rfl rfl ?_
  refine s_aload_n 13 dX12_canHave_12 rfl rfl ?_
  refine s_iload_n 14 dX12_canHave_13 rfl rfl ?_
  refine s_callV0 (M' := M_X12_puppetsOf) (as := [_]) 17 dX12_canHave_14 rfl cw_X12_333 rfl rfl sh_138 rfl (by decide) (Nat.le_of_ble_eq_true rfl) (Nat.le_of_ble_eq_true rfl) (Nat.le_of_ble_eq_true rfl) (Nat.le_of_ble_eq_true rfl) ⟨rfl, rfl, rfl⟩ ?_
  refine c_X12_puppetsOf hT er hr ?_
  refine s_istore (ls' := [_, _, _, _, _, _, _, _]) 19 dX12_canHave_17 rfl (Nat.le_of_ble_eq_true rfl) rfl rfl ?_
  skip
  have hA : ∀ k, 0 ≤ k → k < r 7 → (hasI (setOf (fun k => hasI ons k ∧ r (54 + 7 * k + 6) = 1) (r 7).toNat) k ↔ hasI ons k ∧ behP r k) := fun k q1 q2 => by
    rw [has_setOf (by omega) (by omega)]
    exact ⟨fun z => z.2, fun z => ⟨by omega, z⟩⟩
  have hP : ∀ k, 0 ≤ k → k < r 7 → (hasI (setOf (fun k => hasI ons k ∧ r (54 + 7 * k + 6) = 0 ∧ r (9 + r (54 + 7 * k + 0)) = 2) (r 7).toNat) k ↔ hasI ons k ∧ pupP r k) := fun k q1 q2 => by
    rw [has_setOf (by omega) (by omega)]
    exact ⟨fun z => z.2, fun z => ⟨by omega, z⟩⟩
  have hB2 : ∀ k, 0 ≤ k → k < r 7 → (hasI B k ↔ Bod r q (fun k => hasI ons k) k) := fun k q1 q2 => hB.2 k q1 (by omega)
  have m1 : MeetS b c (r 7) (fun k => hasI (setOf (fun k => hasI ons k ∧ r (54 + 7 * k + 6) = 1) (r 7).toNat) k) (fun k => hasI (ior (setOf (fun k => hasI ons k ∧ r (54 + 7 * k + 6) = 1) (r 7).toNat) B) k) ↔ MeetS b c (r 7) (fun k => hasI ons k ∧ behP r k) (fun k => (hasI ons k ∧ behP r k) ∨ Bod r q (fun k => hasI ons k) k) :=
    MeetS_c hA (fun k q1 q2 => by rw [has_or ⟨q1, by omega⟩, hA k q1 q2, hB2 k q1 q2])
  have m2 := MeetS_c (b := b) (c := c) hP hP
  have m3 := MeetS_c (b := b) (c := c) hB2 hB2
  obtain ⟨A9, eA⟩ : ∃ x, x = setOf (fun k => hasI ons k ∧ r (54 + 7 * k + 6) = 1) (r 7).toNat := ⟨_, rfl⟩
  obtain ⟨P9, eP⟩ : ∃ x, x = setOf (fun k => hasI ons k ∧ r (54 + 7 * k + 6) = 0 ∧ r (9 + r (54 + 7 * k + 0)) = 2) (r 7).toNat := ⟨_, rfl⟩
  rw [← eA] at m1 hA ⊢
  rw [← eP] at m2 hP ⊢
  clear eA eP
  -- the row
  have hBod : ∀ i, 0 ≤ i → i < r 7 → (hasI B (q i) ↔ BodAt r q (fun k => hasI ons k) i) := by
    intro i q1 q2
    have qi := hq.1 i q1 q2
    rw [hB2 _ qi.1 qi.2]
    constructor
    · rintro ⟨j, a1, a2, a3, a4⟩
      have := hq.2.1 j i a1 a2 q1 q2 a3
      subst this
      exact a4
    · intro z
      exact ⟨i, q1, q2, rfl, z⟩
  have loop : ∀ (f : Nat) (i last j : Int) (w : Option AV), r 7 - i < (f : Int) → 0 ≤ i → i ≤ r 7 →
      (¬ MeetS b c (r 7) (fun k => hasI ons k ∧ behP r k) (fun k => (hasI ons k ∧ behP r k) ∨ Bod r q (fun k => hasI ons k) k) ∧ ¬ MeetS b c (r 7) (fun k => hasI ons k ∧ pupP r k) (fun k => hasI ons k ∧ pupP r k) ∧ ¬ MeetS b c (r 7) (Bod r q (fun k => hasI ons k)) (Bod r q (fun k => hasI ons k))) →
      ((last = -1 ∧ ∀ m, 0 ≤ m → m < i → ¬ BodAt r q (fun k => hasI ons k) m) ∨ (0 ≤ j ∧ j < i ∧ last = q j ∧ BodAt r q (fun k => hasI ons k) j ∧ ∀ m, j < m → m < i → ¬ BodAt r q (fun k => hasI ons k) m)) →
      (∀ i' j', 0 ≤ i' → i' < j' → j' < i → BodAt r q (fun k => hasI ons k) i' → BodAt r q (fun k => hasI ons k) j' → (∀ m, i' < m → m < j' → ¬ BodAt r q (fun k => hasI ons k) m) → c (q i') + neF r rd (q i') (q j') ≤ b (q j')) →
      V X M_X12_canHave z0 58 [some (vr 138), some (vi ons), some (vi A9), some (vi B), some (vi P9), some (vi last), some (vi i), w] [] I L R (RT X M_X12_canHave Q) := by
    intro f
    induction f with
    | zero => intro i last j w h1 h2 h3; omega
    | succ f ih =>
      intro i last j w h1 h2 h3 hm hl hc
      refine s_iload 60 dX12_canHave_58 rfl rfl ?_
      refine s_aload_n 61 dX12_canHave_60 rfl rfl ?_
      refine s_getR 64 dX12_canHave_61 rfl fl_X12_20 (fun _ _ _ _ => rfl) (T_X12_r hT) sh_138 (Nat.le_of_ble_eq_true rfl) ?_
      refine s_bipush 66 dX12_canHave_64 rfl (by decide) ?_
      refine s_iald 67 dX12_canHave_66 rfl sh_141 (Nat.le_of_ble_eq_true rfl) (by omega) (by omega) (fun r_66 => ?_)
      rw [er] at r_66 ⊢
      refine s_icmp_ge 134 70 dX12_canHave_67 rfl rfl (by first | omega | exact bI_r _ | exact iI_r _) (by first | omega | exact bI_r _ | exact iI_r _) (fun h_67 => ?_) (fun h_67 => ?_)
      · skip
        refine s_iconst 135 dX12_canHave_134 rfl ?_
        refine s_zret dX12_canHave_135 rfl (by first | omega | exact bI_b _) rfl ?_
        have ei : i = r 7 := by omega
        subst ei
        exact ret_t ⟨hm.1, hm.2.1, hm.2.2, fun i' j' a1 a2 a3 => hc i' j' a1 a2 a3⟩ h
      skip
      have e1 := hq.1 i h2 (by omega)
      have e2 := hb (q i) e1.1 e1.2
      have hB9 := hBod i h2 (by omega)
      -- behind one
      have next : ∀ w, BodAt r q (fun k => hasI ons k) i → (∀ i', 0 ≤ i' → i' < i → BodAt r q (fun k => hasI ons k) i' → (∀ m, i' < m → m < i → ¬ BodAt r q (fun k => hasI ons k) m) → c (q i') + neF r rd (q i') (q i) ≤ b (q i)) → V X M_X12_canHave z0 128 [some (vr 138), some (vi ons), some (vi A9), some (vi B), some (vi P9), some (vi (q i)), some (vi i), w] [] I L R (RT X M_X12_canHave Q) := by
        intro w hbi hci
        refine s_iinc (ls' := [_, _, _, _, _, _, _, _]) 131 dX12_canHave_128 rfl rfl (Nat.le_of_ble_eq_true rfl) rfl rfl ?_
        refine s_goto 58 dX12_canHave_131 rfl ?_
        refine ih (i + 1) (q i) i w (by omega) (by omega) (by omega) hm (Or.inr ⟨h2, by omega, rfl, hbi, fun m a1 a2 => by omega⟩) (fun i' j' a1 a2 a3 a4 a5 a6 => ?_)
        by_cases ej : j' = i
        · subst ej; exact hci i' a1 a2 a4 a6
        · exact hc i' j' a1 a2 (by omega) a4 a5 a6
      refine s_aload_n 71 dX12_canHave_70 rfl rfl ?_
      refine s_getR 74 dX12_canHave_71 rfl fl_X12_53 (fun _ _ _ _ => rfl) (T_X12_inTime hT) sh_138 (Nat.le_of_ble_eq_true rfl) ?_
      refine s_iload 76 dX12_canHave_74 rfl rfl ?_
      refine s_iald 77 dX12_canHave_76 rfl sh_152 (Nat.le_of_ble_eq_true rfl) (by omega) (by omega) (fun r_76 => ?_)
      rw [eq] at r_76 ⊢
      refine s_istore (ls' := [_, _, _, _, _, _, _, _]) 79 dX12_canHave_77 rfl (Nat.le_of_ble_eq_true rfl) rfl rfl ?_
      refine s_iload_n 80 dX12_canHave_79 rfl rfl ?_
      refine s_iload 82 dX12_canHave_80 rfl rfl ?_
      refine s_callS0 (M' := M_X12_has) (as := [_, _]) 85 dX12_canHave_82 rfl cw_X12_278 rfl rfl (Nat.le_of_ble_eq_true rfl) (Nat.le_of_ble_eq_true rfl) (Nat.le_of_ble_eq_true rfl) ⟨rfl, rfl, rfl⟩ ?_
      refine c_X12_has ?_
      refine s_ifb_ne 91 88 dX12_canHave_85 rfl rfl (fun h_85 => ?_) (fun h_85 => ?_)
      rotate_left
      · skip
        refine s_goto 128 dX12_canHave_88 rfl ?_
        refine s_iinc (ls' := [_, _, _, _, _, _, _, _]) 131 dX12_canHave_128 rfl rfl (Nat.le_of_ble_eq_true rfl) rfl rfl ?_
        refine s_goto 58 dX12_canHave_131 rfl ?_
        have hnb : ¬ BodAt r q (fun k => hasI ons k) i := fun z => (by assumption : ¬ hasI B (q i)) (hB9.mpr z)
        refine ih (i + 1) last j _ (by omega) (by omega) (by omega) hm ?_ (fun i' j' a1 a2 a3 a4 a5 a6 => ?_)
        · rcases hl with ⟨g1, g2⟩ | ⟨g1, g2, g3, g4, g5⟩
          · refine Or.inl ⟨g1, fun m a1 a2 => ?_⟩
            by_cases em : m = i
            · subst em; exact hnb
            · exact g2 m a1 (by omega)
          · refine Or.inr ⟨g1, by omega, g3, g4, fun m a1 a2 => ?_⟩
            by_cases em : m = i
            · subst em; exact hnb
            · exact g5 m a1 (by omega)
        · by_cases ej : j' = i
          · subst ej; exact absurd a5 hnb
          · exact hc i' j' a1 a2 (by omega) a4 a5 a6
      skip
      have hbi := hB9.mp (by assumption)
      rcases hl with ⟨hl1, hl2⟩ | ⟨hj1, hj2, hj3, hj4, hj5⟩
      · skip
        refine s_iload 93 dX12_canHave_91 rfl rfl ?_
        refine s_if_lt 124 96 dX12_canHave_93 rfl rfl (by first | omega | exact bI_r _ | exact iI_r _) (fun h_93 => ?_) (fun h_93 => by exfalso; omega)
        refine s_iload 126 dX12_canHave_124 rfl rfl ?_
        refine s_istore (ls' := [_, _, _, _, _, _, _, _]) 128 dX12_canHave_126 rfl (Nat.le_of_ble_eq_true rfl) rfl rfl ?_
        exact next _ hbi (fun i' a1 a2 a3 a4 => absurd a3 (hl2 i' a1 a2))
      · have e3 := hq.1 j hj1 (by omega)
        have e4 := hb (q j) e3.1 e3.2
        have e5 := neF_b (rd := rd) hr e3 e1
        have hon : ∀ i', 0 ≤ i' → i' < i → BodAt r q (fun k => hasI ons k) i' → (∀ m, i' < m → m < i → ¬ BodAt r q (fun k => hasI ons k) m) → i' = j := by
          intro i' a1 a2 a3 a4
          rcases Int.lt_trichotomy i' j with g | g | g
          · exact absurd hj4 (a4 j g hj2)
          · exact g
          · exact absurd a3 (hj5 i' g a2)
        subst hj3
        refine s_iload 93 dX12_canHave_91 rfl rfl ?_
        refine s_if_lt 124 96 dX12_canHave_93 rfl rfl (by first | omega | exact bI_r _ | exact iI_r _) (fun h_93 => by exfalso; omega) (fun h_93 => ?_)
        refine s_aload_n 97 dX12_canHave_96 rfl rfl ?_
        refine s_getR 100 dX12_canHave_97 rfl fl_X12_47 (fun _ _ _ _ => rfl) (T_X12_begin hT) sh_138 (Nat.le_of_ble_eq_true rfl) ?_
        refine s_iload 102 dX12_canHave_100 rfl rfl ?_
        refine s_iald 103 dX12_canHave_102 rfl sh_150 (Nat.le_of_ble_eq_true rfl) (by omega) (by omega) (fun r_102 => ?_)
        rw [eb] at r_102 ⊢
        refine s_aload_n 104 dX12_canHave_103 rfl rfl ?_
        refine s_getR 107 dX12_canHave_104 rfl fl_X12_50 (fun _ _ _ _ => rfl) (T_X12_close hT) sh_138 (Nat.le_of_ble_eq_true rfl) ?_
        refine s_iload 109 dX12_canHave_107 rfl rfl ?_
        refine s_iald 110 dX12_canHave_109 rfl sh_151 (Nat.le_of_ble_eq_true rfl) (by omega) (by omega) (fun r_109 => ?_)
        rw [ec] at r_109 ⊢
        refine s_aload_n 111 dX12_canHave_110 rfl rfl ?_
        refine s_iload 113 dX12_canHave_111 rfl rfl ?_
        refine s_iload 115 dX12_canHave_113 rfl rfl ?_
        refine s_callV0 (M' := M_X12_needOf) (as := [_, _]) 118 dX12_canHave_115 rfl cw_X12_321 rfl rfl sh_138 rfl (by decide) (Nat.le_of_ble_eq_true rfl) (Nat.le_of_ble_eq_true rfl) (Nat.le_of_ble_eq_true rfl) (Nat.le_of_ble_eq_true rfl) ⟨rfl, rfl, rfl⟩ ?_
        refine c_X12_needOf hT er erd hr (by omega) (by omega) ?_
        refine s_iadd 119 dX12_canHave_118 rfl ?_
        refine s_icmp_ge 124 122 dX12_canHave_119 rfl rfl (by first | omega | exact bI_r _ | exact iI_r _) (by first | omega | exact bI_r _ | exact iI_r _) (fun h_119 => ?_) (fun h_119 => ?_)
        · skip
          refine s_iload 126 dX12_canHave_124 rfl rfl ?_
          refine s_istore (ls' := [_, _, _, _, _, _, _, _]) 128 dX12_canHave_126 rfl (Nat.le_of_ble_eq_true rfl) rfl rfl ?_
          refine next _ hbi (fun i' a1 a2 a3 a4 => ?_)
          rw [hon i' a1 a2 a3 a4]
          omega
        refine s_iconst 123 dX12_canHave_122 rfl ?_
        refine s_zret dX12_canHave_123 rfl (by first | omega | exact bI_b _) rfl ?_
        refine ret_f (fun z => ?_) h
        have := z.2.2.2 j i hj1 hj2 (by omega) hj4 hbi hj5
        omega
  have fin : ∀ P : Prop, (Can r rd b c q (fun k => hasI ons k) → ¬ P) → P → Q (some (vi 0)) I L R := fun P h1 h2 => ret_f (fun z => h1 z h2) h
  refine s_aload_n 20 dX12_canHave_19 rfl rfl ?_
  refine s_iload_n 21 dX12_canHave_20 rfl rfl ?_
  refine s_iload_n 22 dX12_canHave_21 rfl rfl ?_
  refine s_iload_n 23 dX12_canHave_22 rfl rfl ?_
  refine s_ior 24 dX12_canHave_23 rfl ?_
  refine s_callV0 (M' := M_X12_doMeetSets) (as := [_, _]) 27 dX12_canHave_24 rfl cw_X12_336 rfl rfl sh_138 rfl (by decide) (Nat.le_of_ble_eq_true rfl) (Nat.le_of_ble_eq_true rfl) (Nat.le_of_ble_eq_true rfl) (Nat.le_of_ble_eq_true rfl) ⟨rfl, rfl, rfl⟩ ?_
  refine c_X12_doMeetSets hT er eb ec hr ?_
  rw [bI_c m1]
  refine s_ifb_ne 50 30 dX12_canHave_27 rfl rfl (fun h_27 => ?_) (fun h_27 => ?_)
  · skip
    refine s_iconst 51 dX12_canHave_50 rfl ?_
    refine s_zret dX12_canHave_51 rfl (by first | omega | exact bI_b _) rfl ?_
    first | exact fin _ (fun z => z.1) (by assumption) | exact fin _ (fun z => z.2.1) (by assumption) | exact fin _ (fun z => z.2.2.1) (by assumption)
  refine s_aload_n 31 dX12_canHave_30 rfl rfl ?_
  refine s_iload 33 dX12_canHave_31 rfl rfl ?_
  refine s_iload 35 dX12_canHave_33 rfl rfl ?_
  refine s_callV0 (M' := M_X12_doMeetSets) (as := [_, _]) 38 dX12_canHave_35 rfl cw_X12_336 rfl rfl sh_138 rfl (by decide) (Nat.le_of_ble_eq_true rfl) (Nat.le_of_ble_eq_true rfl) (Nat.le_of_ble_eq_true rfl) (Nat.le_of_ble_eq_true rfl) ⟨rfl, rfl, rfl⟩ ?_
  refine c_X12_doMeetSets hT er eb ec hr ?_
  rw [bI_c m2]
  refine s_ifb_ne 50 41 dX12_canHave_38 rfl rfl (fun h_38 => ?_) (fun h_38 => ?_)
  · skip
    refine s_iconst 51 dX12_canHave_50 rfl ?_
    refine s_zret dX12_canHave_51 rfl (by first | omega | exact bI_b _) rfl ?_
    first | exact fin _ (fun z => z.1) (by assumption) | exact fin _ (fun z => z.2.1) (by assumption) | exact fin _ (fun z => z.2.2.1) (by assumption)
  refine s_aload_n 42 dX12_canHave_41 rfl rfl ?_
  refine s_iload_n 43 dX12_canHave_42 rfl rfl ?_
  refine s_iload_n 44 dX12_canHave_43 rfl rfl ?_
  refine s_callV0 (M' := M_X12_doMeetSets) (as := [_, _]) 47 dX12_canHave_44 rfl cw_X12_336 rfl rfl sh_138 rfl (by decide) (Nat.le_of_ble_eq_true rfl) (Nat.le_of_ble_eq_true rfl) (Nat.le_of_ble_eq_true rfl) (Nat.le_of_ble_eq_true rfl) ⟨rfl, rfl, rfl⟩ ?_
  refine c_X12_doMeetSets hT er eb ec hr ?_
  rw [bI_c m3]
  refine s_ifb_eq 52 50 dX12_canHave_47 rfl rfl (fun h_47 => ?_) (fun h_47 => ?_)
  · skip
    refine s_iconst 53 dX12_canHave_52 rfl ?_
    refine s_istore (ls' := [_, _, _, _, _, _, _, _]) 55 dX12_canHave_53 rfl (Nat.le_of_ble_eq_true rfl) rfl rfl ?_
    refine s_iconst 56 dX12_canHave_55 rfl ?_
    refine s_istore (ls' := [_, _, _, _, _, _, _, _]) 58 dX12_canHave_56 rfl (Nat.le_of_ble_eq_true rfl) rfl rfl ?_
    refine loop (r 7 + 1).toNat 0 (-1) 0 none (by omega) (by omega) (by omega) ⟨by assumption, by assumption, by assumption⟩ (Or.inl ⟨rfl, fun m a1 a2 => by omega⟩) (fun i' j' a1 a2 a3 => by omega)
  refine s_iconst 51 dX12_canHave_50 rfl ?_
  refine s_zret dX12_canHave_51 rfl (by first | omega | exact bI_b _) rfl ?_
  first | exact fin _ (fun z => z.1) (by assumption) | exact fin _ (fun z => z.2.1) (by assumption) | exact fin _ (fun z => z.2.2.1) (by assumption)
