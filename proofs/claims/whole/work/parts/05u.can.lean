/-! a NIGHT: BODILY ones, who CAN -/
theorem and_bit {x k : Int} (hk : 0 ≤ k ∧ k < 32) : iand x (ishl 1 k) ≠ 0 ↔ hasI x k := by
  rw [set_ne0 (iand_r _ _)]
  constructor
  · rintro ⟨j, j1, j2, j3⟩
    rw [has_and ⟨j1, j2⟩, has_shl hk ⟨j1, j2⟩] at j3
    rw [← j3.2]; exact j3.1
  · intro h
    exact ⟨k, hk.1, hk.2, (has_and hk).mpr ⟨h, (has_shl hk hk).mpr rfl⟩⟩
theorem and_ne {x y : Int} : iand x y ≠ 0 ↔ ∃ k, 0 ≤ k ∧ k < 32 ∧ hasI x k ∧ hasI y k := by
  rw [set_ne0 (iand_r _ _)]
  constructor
  · rintro ⟨j, j1, j2, j3⟩
    exact ⟨j, j1, j2, (has_and ⟨j1, j2⟩).mp j3⟩
  · rintro ⟨j, j1, j2, j3⟩
    exact ⟨j, j1, j2, (has_and ⟨j1, j2⟩).mpr j3⟩
theorem chain_le {r b c q : F1} {rd : Int} {S : Int → Prop} (hr : WFr r) (hq : Perm (r 7) q) (hbc : ∀ k, 0 ≤ k → k < r 7 → b k < c k) (h : Chain r rd b c q S) : ∀ (n : Nat) (i j : Int), j - i ≤ (n : Int) → 0 ≤ i → i < j → j < r 7 → BodAt r q S i → BodAt r q S j → c (q i) ≤ b (q j)
  | 0, i, j, h1, h2, h3, h4, h5, h6 => by omega
  | n + 1, i, j, h1, h2, h3, h4, h5, h6 => by
    by_cases e : ∃ m, i < m ∧ m < j ∧ BodAt r q S m
    · obtain ⟨m, m1, m2, m3⟩ := e
      have a := chain_le hr hq hbc h n i m (by omega) h2 m1 (by omega) h5 m3
      have b := chain_le hr hq hbc h n m j (by omega) (by omega) m2 h4 m3 h6
      have qm := hq.1 m (by omega) (by omega)
      have := hbc (q m) qm.1 qm.2
      omega
    · have a := h i j h2 h3 h4 h5 h6 (fun m m1 m2 m3 => e ⟨m, m1, m2, m3⟩)
      have qi := hq.1 i h2 (by omega)
      have qj := hq.1 j (by omega) h4
      have := neF_b (rd := rd) hr qi qj
      omega
theorem chain_nm {r b c q : F1} {rd : Int} {S : Int → Prop} (hr : WFr r) (hq : Perm (r 7) q) (hbc : ∀ k, 0 ≤ k → k < r 7 → b k < c k) (h : Chain r rd b c q S) : ¬ MeetS b c (r 7) (Bod r q S) (Bod r q S) := by
  rintro ⟨k, l, h1, h2, h3, h4, ⟨i, i1, i2, i3, i4⟩, h6, ⟨j, j1, j2, j3, j4⟩, h8⟩
  subst i3; subst j3
  rcases Int.lt_trichotomy i j with e | e | e
  · have := chain_le hr hq hbc h 20 i j (by have := hr.1; omega) i1 e j2 i4 j4
    unfold meetP at h8; omega
  · subst e; exact h6 rfl
  · have := chain_le hr hq hbc h 20 j i (by have := hr.1; omega) j1 e i2 j4 i4
    unfold meetP at h8; omega
def NtV (I : MI) (N : Nat) (r : F1) (rd g : Int) (sc : F1) (cut : Int) : Prop := NeP I N r rd ∧ LdS I N r g sc ∧ LdR I N r g sc ∧ LdM I N r g sc ∧ I N 11 = cut
theorem NtV.c {I I' : MI} {N : Nat} {r : F1} {rd g : Int} {sc : F1} {cut : Int} (hr : 0 ≤ r 7 ∧ r 7 ≤ 14) (h : NtV I N r rd g sc cut) (e : ∀ c, (c = N ∨ (N + 3 ≤ c ∧ c ≤ N + 21)) → I' c = I c) : NtV I' N r rd g sc cut := by
  obtain ⟨a, ⟨b1, b2⟩, c, d, f⟩ := h
  refine ⟨fun x y x1 x2 y1 y2 => ?_, ⟨fun s s1 s2 => ?_, fun k k1 k2 => ?_⟩, fun i i1 i2 => ?_, fun k k1 k2 => ?_, ?_⟩
  · rw [e (N + 3 + x.toNat) (by omega)]; exact a x y x1 x2 y1 y2
  · rw [e (N + 18) (by omega)]; exact b1 s s1 s2
  · rw [e (N + 19) (by omega), e (N + 20) (by omega)]; exact b2 k k1 k2
  · rw [e (N + 21) (by omega)]; exact c i i1 i2
  · rw [e (N + 17) (by omega)]; exact d k k1 k2
  · rw [e N (by omega)]; exact f
theorem NtV.bc {r : F1} {g : Int} {sc : F1} (hr : WFr r) (hsc : Perm (r 5) sc) (hg : 0 ≤ g ∧ g ≤ 99) : ∀ k, 0 ≤ k → k < r 7 → 0 ≤ bgF r g sc k ∧ bgF r g sc k ≤ 4000 ∧ 0 ≤ clF r g sc k ∧ clF r g sc k ≤ 4000 := fun k a b => by
  have := bc_b hr hsc hg (k := k) ⟨a, b⟩
  omega
theorem sq_P {r sc : F1} {g : Int} (hr : WFr r) : Perm (r 7) (sqF r g sc) := by
  have h := srF_in (bgF r g sc) (r 7).toNat
  have e : (((r 7).toNat : Nat) : Int) = r 7 := by have := hr.1; omega
  rw [e] at h
  exact h
set_option maxHeartbeats 4000000 in
theorem c_X4_spare {E : ET} {I : MI} {L : ML} {R : MR} {Q : Option AV → MI → ML → MR → Prop} {N : Nat} {r sc : F1} {rd g cut k l : Int} (hT : Topo R) (hN : isN N) (hr : WFr r) (hV : NtV I N r rd g sc cut) (hk : 0 ≤ k ∧ k < r 7) (hl : 0 ≤ l ∧ l < r 7) (h : Q (some (vi (bgF r g sc l - clF r g sc k - neF r rd k l))) I L R) : CT E M_X4_spare 161 yX4_spare [(vr (N)), (vi (k)), (vi (l))] I L R Q := by
  refine CT_of rfl rfl (fun h => by cases h) (Nat.le_of_ble_eq_true rfl) (fun X => ?_)
  show V X _ z0 0 [some (vr (N)), some (vi (k)), some (vi (l))] [] I L R _
  have e0 := hr.1
  have a1 := hV.2.1.2 l hl.1 hl.2
  have a2 := hV.2.1.2 k hk.1 hk.2
  have a3 := hV.1 k l hk.1 hk.2 hl.1 hl.2
  refine s_aload_n 1 dX4_spare_0 rfl rfl ?_
  refine s_getR 4 dX4_spare_1 rfl fl_X4_23 (fun _ _ _ _ => rfl) (T_X4_onBegins hT hN) (isN_sh hN) (isN_lt hN) ?_
  refine s_iload_n 5 dX4_spare_4 rfl rfl ?_
  refine s_iald 6 dX4_spare_5 rfl (shN_onBegins hN) (ltN_onBegins hN) (by omega) (by omega) (fun r_5 => ?_)
  rw [a1.1]
  refine s_aload_n 7 dX4_spare_6 rfl rfl ?_
  refine s_getR 10 dX4_spare_7 rfl fl_X4_26 (fun _ _ _ _ => rfl) (T_X4_onEnds hT hN) (isN_sh hN) (isN_lt hN) ?_
  refine s_iload_n 11 dX4_spare_10 rfl rfl ?_
  refine s_iald 12 dX4_spare_11 rfl (shN_onEnds hN) (ltN_onEnds hN) (by omega) (by omega) (fun r_11 => ?_)
  rw [a2.2]
  refine s_isub 13 dX4_spare_12 rfl ?_
  refine s_aload_n 14 dX4_spare_13 rfl rfl ?_
  refine s_getR 17 dX4_spare_14 rfl fl_X4_11 (fun _ _ _ _ => rfl) (T_X4_needs hT hN) (isN_sh hN) (isN_lt hN) ?_
  refine s_iload_n 18 dX4_spare_17 rfl rfl ?_
  refine s_aald 19 dX4_spare_18 rfl (shN_needs hN) (ltN_needs hN) (by omega) (by decide) (T_X4_needs_row hT hN (by omega)) ?_
  refine s_iload_n 20 dX4_spare_19 rfl rfl ?_
  refine s_iald 21 dX4_spare_20 rfl (shN_needs_row hN (by omega)) (ltN_needs_row hN (by omega)) (by omega) (by omega) (fun r_20 => ?_)
  rw [a3]
  refine s_isub 22 dX4_spare_21 rfl ?_
  refine s_iret dX4_spare_22 rfl rfl ?_
  exact h
set_option maxHeartbeats 4000000 in
theorem c_X4_bodilyOf {E : ET} {I : MI} {L : ML} {R : MR} {Q : Option AV → MI → ML → MR → Prop} {N P : Nat} {r q : F1} {ons : Int} (hT : Topo R) (hN : isN N) (hP : isP P) (hNP : R N 1 = some P) (hr : WFr r) (hR : PR I P r) (eq : ∀ i, 0 ≤ i → i < r 7 → I (N + 21) i = q i) (hq : Perm (r 7) q) (hons : ∀ k, r 7 ≤ k → k < 32 → ¬ hasI ons k) (h : ∀ B, BodS r q (fun k => hasI ons k) B → Q (some (vi B)) I L R) : CT E M_X4_bodilyOf 161 yX4_bodilyOf [(vr (N)), (vi (ons))] I L R Q := by
  refine CT_of rfl rfl (fun h => by cases h) (Nat.le_of_ble_eq_true rfl) (fun X => ?_)
  show V X _ z0 0 [some (vr (N)), some (vi (ons)), none, none, none, none] [] I L R _
  have e0 := hr.1
  have e7 := hR.1.2.2.2.2.2.2.1
  have s1 := hR.2.1.1
  have s2 := hR.2.1.2.1
  have s3 := hR.2.1.2.2
  have eO := hR.2.2.2.2.2.2.2
  have hn7 : (((r 7).toNat : Nat) : Int) = r 7 := by omega
  have fin : ∀ S D i : Int, (-2147483648 ≤ S ∧ S ≤ 2147483647) → 0 ≤ i → i ≤ r 7 → (∀ k, 0 ≤ k → k < 32 → (hasI S k ↔ (hasI ons k ∧ ¬ behP r k ∧ ¬ pupP r k ∧ ¬ dedP r k) ∨ (∃ j, 0 ≤ j ∧ j < i ∧ q j = k ∧ dedP r k ∧ BodAt r q (fun k => hasI ons k) j))) →
      (∀ k, 0 ≤ k → k < r 7 → (hasI D k ↔ hasI ons k ∧ dedP r k ∧ ∀ j, 0 ≤ j → j < i → hasI ons (q j) → dedP r (q j) → r (54 + 7 * q j + 0) ≠ r (54 + 7 * k + 0))) → (i = r 7 ∨ D = 0) → BodS r q (fun k => hasI ons k) S := by
    intro S D i hS i1 i2 h1 h2 h3
    have key : ∀ k, 0 ≤ k → k < 32 → (hasI S k ↔ Bod r q (fun k => hasI ons k) k) := by
      intro k k1 k2
      rw [h1 k k1 k2]
      constructor
      · rintro (⟨a1, a2, a3, a4⟩ | ⟨j, a1, a2, a3, a4, a5⟩)
        · have hk : k < r 7 := by
            apply Classical.byContradiction
            intro z
            exact hons k (by omega) k2 a1
          obtain ⟨j, j1, j2, j3⟩ := hq.2.2 k k1 hk
          have w := hr.2.2.2.1 k k1 hk
          have wb : r (54 + 7 * k + 6) = 0 := by unfold behP at a2; omega
          subst j3
          exact ⟨j, j1, j2, rfl, a1, a2, fun z => a3 ⟨wb, z⟩, fun z => absurd ⟨wb, z⟩ a4⟩
        · exact ⟨j, a1, by omega, a3, a5⟩
      · rintro ⟨j, a1, a2, a3, a4⟩
        have qj := hq.1 j a1 a2
        by_cases hd : dedP r k
        · by_cases hj : j < i
          · exact Or.inr ⟨j, a1, hj, a3, hd, a4⟩
          · rcases h3 with h3 | h3
            · omega
            · exfalso
              have hk : ¬ hasI D k := by rw [h3]; exact has_0 ⟨k1, k2⟩
              apply hk
              subst a3
              refine (h2 (q j) qj.1 qj.2).mpr ⟨a4.1, hd, fun j' b1 b2 b3 b4 => a4.2.2.2 hd.2 j' b1 (by omega) b3 (fun z => ?_)⟩
              unfold behP at z; have := b4.1; omega
        · refine Or.inl ⟨by rw [← a3]; exact a4.1, by rw [← a3]; exact a4.2.1, fun z => ?_, hd⟩
          rw [← a3] at z
          exact a4.2.2.1 z.2
    refine ⟨set_lt (by omega) hS (fun k k1 k2 k3 => ?_), key⟩
    obtain ⟨j, a1, a2, a3, a4⟩ := (key k (by omega) k2).mp k3
    have := hq.1 j a1 a2
    omega
  have loop : ∀ (f : Nat) (i S D : Int) (w : Option AV), r 7 - i < (f : Int) → 0 ≤ i → i ≤ r 7 → (-2147483648 ≤ S ∧ S ≤ 2147483647) → (-2147483648 ≤ D ∧ D ≤ 2147483647) → (∀ k, 0 ≤ k → k < 32 → (hasI S k ↔ (hasI ons k ∧ ¬ behP r k ∧ ¬ pupP r k ∧ ¬ dedP r k) ∨ (∃ j, 0 ≤ j ∧ j < i ∧ q j = k ∧ dedP r k ∧ BodAt r q (fun k => hasI ons k) j))) →
      (∀ k, 0 ≤ k → k < r 7 → (hasI D k ↔ hasI ons k ∧ dedP r k ∧ ∀ j, 0 ≤ j → j < i → hasI ons (q j) → dedP r (q j) → r (54 + 7 * q j + 0) ≠ r (54 + 7 * k + 0))) → V X M_X4_bodilyOf z0 45 [some (vr (N)), some (vi (ons)), some (vi (S)), some (vi (D)), some (vi (i)), w] [] (I) L R (RT X M_X4_bodilyOf Q) := by
    intro f
    induction f with
    | zero => intro i S D w h1 h2 h3; omega
    | succ f ih =>
      intro i S D w h1 h2 h3 hS hD h4 h5
      by_cases hi : i < r 7
      · by_cases hz : D = 0
        · have hB := fin S D i hS h2 h3 h4 h5 (Or.inr hz)
          refine s_iload 47 dX4_bodilyOf_45 rfl rfl ?_
          refine s_aload_n 48 dX4_bodilyOf_47 rfl rfl ?_
          refine s_getR 51 dX4_bodilyOf_48 rfl fl_X4_49 (fun _ _ _ _ => rfl) (by assumption) (isN_sh hN) (isN_lt hN) ?_
          refine s_getI 54 dX4_bodilyOf_51 rfl fl_X4_53 (fun _ _ _ _ => rfl) (isP_sh (by assumption)) (isP_lt (by assumption)) (fun r_51 => ?_)
          rw [e7]
          refine s_icmp_ge 118 57 dX4_bodilyOf_54 rfl rfl (by first | omega | exact bI_r _ | exact iI_r _) (by first | omega | exact bI_r _ | exact iI_r _) (fun h_54 => by exfalso; omega) (fun h_54 => ?_)
          refine s_iload_n 58 dX4_bodilyOf_57 rfl rfl ?_
          refine s_if_eq 118 61 dX4_bodilyOf_58 rfl rfl (by first | omega | exact bI_r _ | exact iI_r _) (fun h_58 => ?_) (fun h_58 => by exfalso; exact h_58 hz)
          refine s_iload_n 119 dX4_bodilyOf_118 rfl rfl ?_
          refine s_iret dX4_bodilyOf_119 rfl rfl ?_
          exact h S hB
        · have qi := hq.1 i h2 hi
          have wi := hr.2.2.2.1 (q i) qi.1 qi.2
          have eqi := eq i h2 hi
          have ro := hR.2.2.2.1 (q i) qi.1 qi.2
          unfold rowO at ro
          have eo := eO (r (54 + 7 * q i + 0)) (by omega) (by omega)
          by_cases hd : hasI D (q i)
          · obtain ⟨d1, d2, d3⟩ := (h5 (q i) qi.1 qi.2).mp hd
            have hb : BodAt r q (fun k => hasI ons k) i := by
              refine ⟨d1, fun z => ?_, fun z => ?_, fun _ j j1 j2 j3 j4 j5 => ?_⟩
              · unfold behP at z; have := d2.1; omega
              · have := d2.2; omega
              · have qj := hq.1 j j1 (by omega)
                have wj := hr.2.2.2.1 (q j) qj.1 qj.2
                refine d3 j j1 j2 j3 ⟨?_, by rw [j5]; exact d2.2⟩ j5
                unfold behP at j4; omega
            refine s_iload 47 dX4_bodilyOf_45 rfl rfl ?_
            refine s_aload_n 48 dX4_bodilyOf_47 rfl rfl ?_
            refine s_getR 51 dX4_bodilyOf_48 rfl fl_X4_49 (fun _ _ _ _ => rfl) (by assumption) (isN_sh hN) (isN_lt hN) ?_
            refine s_getI 54 dX4_bodilyOf_51 rfl fl_X4_53 (fun _ _ _ _ => rfl) (isP_sh (by assumption)) (isP_lt (by assumption)) (fun r_51 => ?_)
            rw [e7]
            refine s_icmp_ge 118 57 dX4_bodilyOf_54 rfl rfl (by first | omega | exact bI_r _ | exact iI_r _) (by first | omega | exact bI_r _ | exact iI_r _) (fun h_54 => by exfalso; omega) (fun h_54 => ?_)
            refine s_iload_n 58 dX4_bodilyOf_57 rfl rfl ?_
            refine s_if_eq 118 61 dX4_bodilyOf_58 rfl rfl (by first | omega | exact bI_r _ | exact iI_r _) (fun h_58 => by exfalso; exact hz h_58) (fun h_58 => ?_)
            refine s_aload_n 62 dX4_bodilyOf_61 rfl rfl ?_
            refine s_getR 65 dX4_bodilyOf_62 rfl fl_X4_29 (fun _ _ _ _ => rfl) (T_X4_row hT hN) (isN_sh hN) (isN_lt hN) ?_
            refine s_iload 67 dX4_bodilyOf_65 rfl rfl ?_
            refine s_iald 68 dX4_bodilyOf_67 rfl (shN_row hN) (ltN_row hN) (by omega) (by omega) (fun r_67 => ?_)
            rw [eqi]
            refine s_istore (ls' := [_, _, _, _, _, _]) 70 dX4_bodilyOf_68 rfl (Nat.le_of_ble_eq_true rfl) rfl rfl ?_
            refine s_iload_n 71 dX4_bodilyOf_70 rfl rfl ?_
            refine s_iload 73 dX4_bodilyOf_71 rfl rfl ?_
            refine s_ishr 74 dX4_bodilyOf_73 rfl ?_
            refine s_iconst 75 dX4_bodilyOf_74 rfl ?_
            refine s_iand 76 dX4_bodilyOf_75 rfl ?_
            refine s_iconst 77 dX4_bodilyOf_76 rfl ?_
            refine s_icmp_ne 112 80 dX4_bodilyOf_77 rfl rfl (by first | omega | exact iand_r _ _) (by first | omega | exact iand_r _ _) (fun h_77 => by exfalso; exact h_77 hd) (fun h_77 => ?_)
            refine s_iload_n 81 dX4_bodilyOf_80 rfl rfl ?_
            refine s_iconst 82 dX4_bodilyOf_81 rfl ?_
            refine s_iload 84 dX4_bodilyOf_82 rfl rfl ?_
            refine s_ishl 85 dX4_bodilyOf_84 rfl ?_
            refine s_ior 86 dX4_bodilyOf_85 rfl ?_
            refine s_istore_n (ls' := [_, _, _, _, _, _]) 87 dX4_bodilyOf_86 rfl (Nat.le_of_ble_eq_true rfl) rfl rfl ?_
            refine s_iload_n 88 dX4_bodilyOf_87 rfl rfl ?_
            refine s_aload_n 89 dX4_bodilyOf_88 rfl rfl ?_
            refine s_getR 92 dX4_bodilyOf_89 rfl fl_X4_49 (fun _ _ _ _ => rfl) (by assumption) (isN_sh hN) (isN_lt hN) ?_
            refine s_getR 95 dX4_bodilyOf_92 rfl fl_X4_106 (fun _ _ _ _ => rfl) (T_X5_onsOfPart hT (by assumption)) (isP_sh (by assumption)) (isP_lt (by assumption)) ?_
            refine s_aload_n 96 dX4_bodilyOf_95 rfl rfl ?_
            refine s_getR 99 dX4_bodilyOf_96 rfl fl_X4_49 (fun _ _ _ _ => rfl) (by assumption) (isN_sh hN) (isN_lt hN) ?_
            refine s_getR 102 dX4_bodilyOf_99 rfl fl_X4_84 (fun _ _ _ _ => rfl) (T_X5_ons hT (by assumption)) (isP_sh (by assumption)) (isP_lt (by assumption)) ?_
            refine s_iload 104 dX4_bodilyOf_102 rfl rfl ?_
            refine s_aald 105 dX4_bodilyOf_104 rfl (shP_ons (by assumption)) (ltP_ons (by assumption)) (by omega) (by decide) (T_X5_ons_row hT (by assumption) (by omega)) ?_
            refine s_iconst 106 dX4_bodilyOf_105 rfl ?_
            refine s_iald 107 dX4_bodilyOf_106 rfl (shP_ons_row (by assumption) (by omega)) (ltP_ons_row (by assumption) (by omega)) (by omega) (by omega) (fun r_106 => ?_)
            rw [ro.1]
            refine s_iald 108 dX4_bodilyOf_107 rfl (shP_onsOfPart (by assumption)) (ltP_onsOfPart (by assumption)) (by omega) (by omega) (fun r_107 => ?_)
            rw [eo]
            refine s_iconst 109 dX4_bodilyOf_108 rfl ?_
            refine s_ixor 110 dX4_bodilyOf_109 rfl ?_
            refine s_iand 111 dX4_bodilyOf_110 rfl ?_
            refine s_istore_n (ls' := [_, _, _, _, _, _]) 112 dX4_bodilyOf_111 rfl (Nat.le_of_ble_eq_true rfl) rfl rfl ?_
            refine s_iinc (ls' := [_, _, _, _, _, _]) 115 dX4_bodilyOf_112 rfl rfl (Nat.le_of_ble_eq_true rfl) rfl rfl ?_
            refine s_goto 45 dX4_bodilyOf_115 rfl ?_
            refine ih (i + 1) _ _ _ (by omega) (by omega) (by omega) (ior_r _ _) (iand_r _ _) (fun k k1 k2 => ?_) (fun k k1 k2 => ?_)
            · rw [has_or ⟨k1, k2⟩, h4 k k1 k2, has_shl (by omega) ⟨k1, k2⟩]
              constructor
              · rintro ((a | ⟨j, a1, a2, a3⟩) | a)
                · exact Or.inl a
                · exact Or.inr ⟨j, a1, by omega, a3⟩
                · exact Or.inr ⟨i, h2, by omega, a.symm, by rw [a]; exact d2, hb⟩
              · rintro (a | ⟨j, a1, a2, a3, a4⟩)
                · exact Or.inl (Or.inl a)
                · by_cases ej : j = i
                  · rw [ej] at a3; exact Or.inr a3.symm
                  · exact Or.inl (Or.inr ⟨j, a1, by omega, a3, a4⟩)
            · rw [has_andn ⟨k1, by omega⟩, has_setOf (by omega) ⟨k1, by omega⟩, hn7, h5 k k1 k2]
              constructor
              · rintro ⟨⟨a1, a2, a3⟩, a4⟩
                refine ⟨a1, a2, fun j j1 j2 j3 j4 j5 => ?_⟩
                by_cases ej : j = i
                · rw [ej] at j5; exact a4 ⟨k2, j5.symm⟩
                · exact a3 j j1 (by omega) j3 j4 j5
              · rintro ⟨a1, a2, a3⟩
                exact ⟨⟨a1, a2, fun j j1 j2 => a3 j j1 (by omega)⟩, fun z => a3 i h2 (by omega) d1 d2 z.2.symm⟩
          · skip
            refine s_iload 47 dX4_bodilyOf_45 rfl rfl ?_
            refine s_aload_n 48 dX4_bodilyOf_47 rfl rfl ?_
            refine s_getR 51 dX4_bodilyOf_48 rfl fl_X4_49 (fun _ _ _ _ => rfl) (by assumption) (isN_sh hN) (isN_lt hN) ?_
            refine s_getI 54 dX4_bodilyOf_51 rfl fl_X4_53 (fun _ _ _ _ => rfl) (isP_sh (by assumption)) (isP_lt (by assumption)) (fun r_51 => ?_)
            rw [e7]
            refine s_icmp_ge 118 57 dX4_bodilyOf_54 rfl rfl (by first | omega | exact bI_r _ | exact iI_r _) (by first | omega | exact bI_r _ | exact iI_r _) (fun h_54 => by exfalso; omega) (fun h_54 => ?_)
            refine s_iload_n 58 dX4_bodilyOf_57 rfl rfl ?_
            refine s_if_eq 118 61 dX4_bodilyOf_58 rfl rfl (by first | omega | exact bI_r _ | exact iI_r _) (fun h_58 => by exfalso; exact hz h_58) (fun h_58 => ?_)
            refine s_aload_n 62 dX4_bodilyOf_61 rfl rfl ?_
            refine s_getR 65 dX4_bodilyOf_62 rfl fl_X4_29 (fun _ _ _ _ => rfl) (T_X4_row hT hN) (isN_sh hN) (isN_lt hN) ?_
            refine s_iload 67 dX4_bodilyOf_65 rfl rfl ?_
            refine s_iald 68 dX4_bodilyOf_67 rfl (shN_row hN) (ltN_row hN) (by omega) (by omega) (fun r_67 => ?_)
            rw [eqi]
            refine s_istore (ls' := [_, _, _, _, _, _]) 70 dX4_bodilyOf_68 rfl (Nat.le_of_ble_eq_true rfl) rfl rfl ?_
            refine s_iload_n 71 dX4_bodilyOf_70 rfl rfl ?_
            refine s_iload 73 dX4_bodilyOf_71 rfl rfl ?_
            refine s_ishr 74 dX4_bodilyOf_73 rfl ?_
            refine s_iconst 75 dX4_bodilyOf_74 rfl ?_
            refine s_iand 76 dX4_bodilyOf_75 rfl ?_
            refine s_iconst 77 dX4_bodilyOf_76 rfl ?_
            refine s_icmp_ne 112 80 dX4_bodilyOf_77 rfl rfl (by first | omega | exact iand_r _ _) (by first | omega | exact iand_r _ _) (fun h_77 => ?_) (fun h_77 => by exfalso; exact hd h_77)
            refine s_iinc (ls' := [_, _, _, _, _, _]) 115 dX4_bodilyOf_112 rfl rfl (Nat.le_of_ble_eq_true rfl) rfl rfl ?_
            refine s_goto 45 dX4_bodilyOf_115 rfl ?_
            refine ih (i + 1) S D _ (by omega) (by omega) (by omega) hS hD (fun k k1 k2 => ?_) (fun k k1 k2 => ?_)
            · rw [h4 k k1 k2]
              constructor
              · rintro (a | ⟨j, a1, a2, a3⟩)
                · exact Or.inl a
                · exact Or.inr ⟨j, a1, by omega, a3⟩
              · rintro (a | ⟨j, a1, a2, a3, a4, a5⟩)
                · exact Or.inl a
                · by_cases ej : j = i
                  · exfalso
                    subst ej
                    rw [← a3] at a4
                    refine hd ((h5 (q j) qi.1 qi.2).mpr ⟨a5.1, a4, fun j' b1 b2 b3 b4 => a5.2.2.2 a4.2 j' b1 b2 b3 (fun z => ?_)⟩)
                    unfold behP at z; have := b4.1; omega
                  · exact Or.inr ⟨j, a1, by omega, a3, a4, a5⟩
            · rw [h5 k k1 k2]
              constructor
              · rintro ⟨a1, a2, a3⟩
                refine ⟨a1, a2, fun j j1 j2 j3 j4 j5 => ?_⟩
                by_cases ej : j = i
                · subst ej
                  refine hd ((h5 (q j) qi.1 qi.2).mpr ⟨j3, j4, fun j' b1 b2 b3 b4 b5 => ?_⟩)
                  exact a3 j' b1 b2 b3 b4 (b5.trans j5)
                · exact a3 j j1 (by omega) j3 j4 j5
              · rintro ⟨a1, a2, a3⟩
                exact ⟨a1, a2, fun j j1 j2 => a3 j j1 (by omega)⟩
      · have ei : i = r 7 := by omega
        have hB := fin S D i hS h2 h3 h4 h5 (Or.inl ei)
        refine s_iload 47 dX4_bodilyOf_45 rfl rfl ?_
        refine s_aload_n 48 dX4_bodilyOf_47 rfl rfl ?_
        refine s_getR 51 dX4_bodilyOf_48 rfl fl_X4_49 (fun _ _ _ _ => rfl) (by assumption) (isN_sh hN) (isN_lt hN) ?_
        refine s_getI 54 dX4_bodilyOf_51 rfl fl_X4_53 (fun _ _ _ _ => rfl) (isP_sh (by assumption)) (isP_lt (by assumption)) (fun r_51 => ?_)
        rw [e7]
        refine s_icmp_ge 118 57 dX4_bodilyOf_54 rfl rfl (by first | omega | exact bI_r _ | exact iI_r _) (by first | omega | exact bI_r _ | exact iI_r _) (fun h_54 => ?_) (fun h_54 => by exfalso; omega)
        refine s_iload_n 119 dX4_bodilyOf_118 rfl rfl ?_
        refine s_iret dX4_bodilyOf_119 rfl rfl ?_
        exact h S hB
  refine s_iload_n 1 dX4_bodilyOf_0 rfl rfl ?_
  refine s_aload_n 2 dX4_bodilyOf_1 rfl rfl ?_
  refine s_getR 5 dX4_bodilyOf_2 rfl fl_X4_49 (fun _ _ _ _ => rfl) (by assumption) (isN_sh hN) (isN_lt hN) ?_
  refine s_getI 8 dX4_bodilyOf_5 rfl fl_X4_97 (fun _ _ _ _ => rfl) (isP_sh (by assumption)) (isP_lt (by assumption)) (fun r_5 => ?_)
  rw [s1]
  refine s_iconst 9 dX4_bodilyOf_8 rfl ?_
  refine s_ixor 10 dX4_bodilyOf_9 rfl ?_
  refine s_iand 11 dX4_bodilyOf_10 rfl ?_
  refine s_aload_n 12 dX4_bodilyOf_11 rfl rfl ?_
  refine s_getR 15 dX4_bodilyOf_12 rfl fl_X4_49 (fun _ _ _ _ => rfl) (by assumption) (isN_sh hN) (isN_lt hN) ?_
  refine s_getI 18 dX4_bodilyOf_15 rfl fl_X4_100 (fun _ _ _ _ => rfl) (isP_sh (by assumption)) (isP_lt (by assumption)) (fun r_15 => ?_)
  rw [s2]
  refine s_iconst 19 dX4_bodilyOf_18 rfl ?_
  refine s_ixor 20 dX4_bodilyOf_19 rfl ?_
  refine s_iand 21 dX4_bodilyOf_20 rfl ?_
  refine s_aload_n 22 dX4_bodilyOf_21 rfl rfl ?_
  refine s_getR 25 dX4_bodilyOf_22 rfl fl_X4_49 (fun _ _ _ _ => rfl) (by assumption) (isN_sh hN) (isN_lt hN) ?_
  refine s_getI 28 dX4_bodilyOf_25 rfl fl_X4_103 (fun _ _ _ _ => rfl) (isP_sh (by assumption)) (isP_lt (by assumption)) (fun r_25 => ?_)
  rw [s3]
  refine s_iconst 29 dX4_bodilyOf_28 rfl ?_
  refine s_ixor 30 dX4_bodilyOf_29 rfl ?_
  refine s_iand 31 dX4_bodilyOf_30 rfl ?_
  refine s_istore_n (ls' := [_, _, _, _, _, _]) 32 dX4_bodilyOf_31 rfl (Nat.le_of_ble_eq_true rfl) rfl rfl ?_
  refine s_iload_n 33 dX4_bodilyOf_32 rfl rfl ?_
  refine s_aload_n 34 dX4_bodilyOf_33 rfl rfl ?_
  refine s_getR 37 dX4_bodilyOf_34 rfl fl_X4_49 (fun _ _ _ _ => rfl) (by assumption) (isN_sh hN) (isN_lt hN) ?_
  refine s_getI 40 dX4_bodilyOf_37 rfl fl_X4_103 (fun _ _ _ _ => rfl) (isP_sh (by assumption)) (isP_lt (by assumption)) (fun r_37 => ?_)
  rw [s3]
  refine s_iand 41 dX4_bodilyOf_40 rfl ?_
  refine s_istore_n (ls' := [_, _, _, _, _, _]) 42 dX4_bodilyOf_41 rfl (Nat.le_of_ble_eq_true rfl) rfl rfl ?_
  refine s_iconst 43 dX4_bodilyOf_42 rfl ?_
  refine s_istore (ls' := [_, _, _, _, _, _]) 45 dX4_bodilyOf_43 rfl (Nat.le_of_ble_eq_true rfl) rfl rfl ?_
  refine loop 16 0 _ _ _ (by omega) (by omega) (by omega) (iand_r _ _) (iand_r _ _) (fun k k1 k2 => ?_) (fun k k1 k2 => ?_)
  · rw [has_andn ⟨k1, k2⟩, has_andn ⟨k1, k2⟩, has_andn ⟨k1, k2⟩, has_setOf (by omega) ⟨k1, k2⟩, has_setOf (by omega) ⟨k1, k2⟩, has_setOf (by omega) ⟨k1, k2⟩, hn7]
    constructor
    · rintro ⟨⟨⟨a1, a2⟩, a3⟩, a4⟩
      have hk : k < r 7 := Classical.byContradiction (fun z => hons k (by omega) k2 a1)
      exact Or.inl ⟨a1, fun z => a2 ⟨hk, z⟩, fun z => a3 ⟨hk, z⟩, fun z => a4 ⟨hk, z⟩⟩
    · rintro (⟨a1, a2, a3, a4⟩ | ⟨j, a1, a2, _⟩)
      · exact ⟨⟨⟨a1, fun z => a2 z.2⟩, fun z => a3 z.2⟩, fun z => a4 z.2⟩
      · omega
  · rw [has_and ⟨k1, by omega⟩, has_setOf (by omega) ⟨k1, by omega⟩, hn7]
    exact ⟨fun z => ⟨z.1, z.2.2, fun j j1 j2 => by omega⟩, fun z => ⟨z.1, k2, z.2.1⟩⟩
