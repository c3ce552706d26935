/-! counted bits, cuts, FEWEST by sets, the gap -/
theorem idiv_v {x y : Int} (hx : 0 ≤ x ∧ x ≤ 2147483647) (hy : 0 < y ∧ y ≤ 2147483647) : idiv x y = x / y := by
  unfold idiv
  rw [Int32.toInt_div, iI_t (by omega), iI_t (by omega), Int.tdiv_eq_ediv_of_nonneg hx.1]
  have h1 : 0 ≤ x / y := Int.ediv_nonneg hx.1 (by omega)
  have h2 : x / y ≤ x := Int.ediv_le_self y hx.1
  exact Int.bmod_eq_of_le (by omega) (by omega)
theorem irem_v {x y : Int} (hx : 0 ≤ x ∧ x ≤ 2147483647) (hy : 0 < y ∧ y ≤ 2147483647) : irem x y = x % y := by
  have h := idiv_v hx hy
  unfold idiv at h
  unfold irem
  have h1 : iI x / iI y = iI (x / y) := by rw [← h, iI_of]
  have h2 := Int.emod_lt_of_pos x hy.1
  have h3 := Int.emod_nonneg x (show y ≠ 0 by omega)
  rw [h1, iI_mul, iI_sub, show x - x / y * y = x % y by rw [Int.emod_def, Int.mul_comm], iI_t (by omega)]
def bcF (s : Int) : Nat → Int
  | 0 => 0
  | n + 1 => bcF s n + iand (ishr s n) 1
theorem bit01 (s k : Int) : iand (ishr s k) 1 = 0 ∨ iand (ishr s k) 1 = 1 := by
  have e : iand (ishr s k) 1 = (iI (ishr s k) &&& 1).toInt := by unfold iand; rfl
  rw [e, and1]
  split
  · exact Or.inr rfl
  · exact Or.inl rfl
theorem bcF_b (s : Int) : ∀ n : Nat, 0 ≤ bcF s n ∧ bcF s n ≤ n
  | 0 => by simp [bcF]
  | n + 1 => by
    have h1 := bcF_b s n
    have h2 := bit01 s n
    unfold bcF
    omega
theorem bcF_s {s k : Int} (h : 0 ≤ k) : bcF s (k + 1).toNat = bcF s k.toNat + iand (ishr s k) 1 := by
  rw [show (k + 1).toNat = k.toNat + 1 by omega]
  show bcF s k.toNat + iand (ishr s (k.toNat : Nat)) 1 = _
  rw [show ((k.toNat : Nat) : Int) = k by omega]
abbrev bits (s : Int) : Int := bcF s 14
theorem bits_b (s : Int) : 0 ≤ bits s ∧ bits s ≤ 14 := bcF_b s 14
theorem allF_14 {n : Int} (h : 0 ≤ n ∧ n ≤ 14) : 0 ≤ allF n ∧ allF n ≤ 16383 := by
  have hc : n = 0 ∨ n = 1 ∨ n = 2 ∨ n = 3 ∨ n = 4 ∨ n = 5 ∨ n = 6 ∨ n = 7 ∨ n = 8 ∨ n = 9 ∨ n = 10 ∨ n = 11 ∨ n = 12 ∨ n = 13 ∨ n = 14 := by omega
  rcases hc with rfl | rfl | rfl | rfl | rfl | rfl | rfl | rfl | rfl | rfl | rfl | rfl | rfl | rfl | rfl <;> decide +kernel
set_option maxHeartbeats 4000000 in
theorem c_X12_bits {E : ET} {I : MI} {L : ML} {R : MR} {Q : Option AV → MI → ML → MR → Prop} {s : Int} (h : Q (some (vi (bits s))) I L R) : CT E M_X12_bits 161 yX12_bits [(vi (s))] I L R Q := by
  refine CT_of rfl rfl (fun h => by cases h) (Nat.le_of_ble_eq_true rfl) (fun X => ?_)
  show V X _ z0 0 [some (vi (s)), none, none] [] I L R _
  have loop : ∀ (f : Nat) (k : Int), 14 - k < (f : Int) → 0 ≤ k → k ≤ 14 → V X M_X12_bits z0 4 [some (vi (s)), some (vi (bcF s k.toNat)), some (vi (k))] [] (I) L R (RT X M_X12_bits Q) := by
    intro f
    induction f with
    | zero => intro k h1 h2 h3; omega
    | succ f ih =>
      intro k h1 h2 h3
      have h4 := bcF_s (s := s) h2
      refine s_iload_n 5 dX12_bits_4 rfl rfl ?_
      refine s_bipush 7 dX12_bits_5 rfl (by decide) ?_
      refine s_icmp_ge 24 10 dX12_bits_7 rfl rfl (by first | omega | exact bI_r _ | exact iI_r _) (by first | omega | exact bI_r _ | exact iI_r _) (fun h_7 => ?_) (fun h_7 => ?_)
      · skip
        refine s_iload_n 25 dX12_bits_24 rfl rfl ?_
        refine s_iret dX12_bits_25 rfl rfl ?_
        have ek : k = 14 := by omega
        subst ek; exact h
      refine s_iload_n 11 dX12_bits_10 rfl rfl ?_
      refine s_iload_n 12 dX12_bits_11 rfl rfl ?_
      refine s_iload_n 13 dX12_bits_12 rfl rfl ?_
      refine s_ishr 14 dX12_bits_13 rfl ?_
      refine s_iconst 15 dX12_bits_14 rfl ?_
      refine s_iand 16 dX12_bits_15 rfl ?_
      refine s_iadd 17 dX12_bits_16 rfl ?_
      refine s_istore_n (ls' := [_, _, _]) 18 dX12_bits_17 rfl (Nat.le_of_ble_eq_true rfl) rfl rfl ?_
      refine s_iinc (ls' := [_, _, _]) 21 dX12_bits_18 rfl rfl (Nat.le_of_ble_eq_true rfl) rfl rfl ?_
      refine s_goto 4 dX12_bits_21 rfl ?_
      rw [← h4]
      exact ih (k + 1) (by omega) (by omega) (by omega)
  refine s_iconst 1 dX12_bits_0 rfl ?_
  refine s_istore_n (ls' := [_, _, _]) 2 dX12_bits_1 rfl (Nat.le_of_ble_eq_true rfl) rfl rfl ?_
  refine s_iconst 3 dX12_bits_2 rfl ?_
  refine s_istore_n (ls' := [_, _, _]) 4 dX12_bits_3 rfl (Nat.le_of_ble_eq_true rfl) rfl rfl ?_
  exact loop 15 0 (by omega) (by omega) (by omega)
theorem c_X12_fewestBy2 {E : ET} {I : MI} {L : ML} {R : MR} {Q : QT} {r sc : F1} {rd g cut : Int} {c nc : Nat} (hT : Topo R) (e1 : I 141 = r) (erd : I 138 30 = rd) (hr : WFr r) (eg : r 2 = g) (hcs : sh c = (20, nc)) (hnc : 5 ≤ nc ∧ nc ≤ 13) (hc : c < 161) (hcd : c ∉ FB) (esc : I c = sc) (hp : Perm (r 5) sc)
    (h : ∀ I', Eqo FB I I' → -2 ≤ fewV (MayP r rd g sc cut) (r 4).toNat ∧ fewV (MayP r rd g sc cut) (r 4).toNat ≤ 7 → Q (some (vi (fewV (MayP r rd g sc cut) (r 4).toNat))) I' L R) : CT E M_X12_fewestBy 161 yX12_fewestBy [vr 138, vr c, vi cut] I L R Q :=
  c_X12_fewestBy hT e1 erd hr eg hcs hnc hc hcd esc hp (fun v I' k1 k2 k3 => by
    have e := k2.is.v
    rw [← e] at k3 ⊢
    exact h I' k1 k3)
/-- as many players as told do -/
def TP (r : F1) (rd g : Int) (sc : F1) (cut : Int) : Prop := fewV (MayP r rd g sc cut) (r 4).toNat ≠ -2 ∧ fewV (MayP r rd g sc cut) (r 4).toNat ≤ r 3
set_option maxHeartbeats 4000000 in
theorem c_X12_doTold {E : ET} {I : MI} {L : ML} {R : MR} {Q : Option AV → MI → ML → MR → Prop} {r s sc : F1} {rd g : Int} {c nc : Nat} (hT : Topo R) (er : I 141 = r) (es : I 143 = s) (erd : I 138 30 = rd) (hr : WFr r) (eg : r 2 = g) (hcs : sh c = (20, nc)) (hnc : 5 ≤ nc ∧ nc ≤ 13) (hc : c < 161) (hcd : c ∉ FB) (esc : I c = sc) (hp : Perm (r 5) sc) (h : ∀ I', Eqo FB I I' → Q (some (vi (bI (TP r rd g sc (s 12))))) I' L R) : CT E M_X12_doTold 161 yX12_doTold [(vr (138)), (vr (c))] I L R Q := by
  refine CT_of rfl rfl (fun h => by cases h) (Nat.le_of_ble_eq_true rfl) (fun X => ?_)
  show V X _ z0 0 [some (vr (138)), some (vr (c)), none] [] I L R _
  have e0 := hr.1
  refine s_aload_n 1 dX12_doTold_0 rfl rfl ?_
  refine s_aload_n 2 dX12_doTold_1 rfl rfl ?_
  refine s_aload_n 3 dX12_doTold_2 rfl rfl ?_
  refine s_getR 6 dX12_doTold_3 rfl fl_X12_26 (fun _ _ _ _ => rfl) (T_X12_st hT) sh_138 (Nat.le_of_ble_eq_true rfl) ?_
  refine s_bipush 8 dX12_doTold_6 rfl (by decide) ?_
  refine s_iald 9 dX12_doTold_8 rfl sh_143 (Nat.le_of_ble_eq_true rfl) (by omega) (by omega) (fun r_8 => ?_)
  rw [es] at r_8 ⊢
  refine s_callV0 (M' := M_X12_fewestBy) (as := [_, _]) 12 dX12_doTold_9 rfl cw_X12_372 rfl rfl sh_138 rfl (by decide) (Nat.le_of_ble_eq_true rfl) (Nat.le_of_ble_eq_true rfl) (Nat.le_of_ble_eq_true rfl) (Nat.le_of_ble_eq_true rfl) ⟨rfl, rfl, rfl⟩ ?_
  refine c_X12_fewestBy2 hT er erd hr eg hcs hnc hc hcd esc hp (fun I2 k1 k2 => ?_)
  have er : I2 141 = r := (k1 141 (by decide)).trans er
  refine s_istore_n (ls' := [_, _, _]) 13 dX12_doTold_12 rfl (Nat.le_of_ble_eq_true rfl) rfl rfl ?_
  refine s_iload_n 14 dX12_doTold_13 rfl rfl ?_
  refine s_bipush 16 dX12_doTold_14 rfl (by decide) ?_
  refine s_icmp_eq 33 19 dX12_doTold_16 rfl rfl (by first | omega | exact bI_r _ | exact iI_r _) (by first | omega | exact bI_r _ | exact iI_r _) (fun h_16 => ?_) (fun h_16 => ?_)
  · skip
    refine s_iconst 34 dX12_doTold_33 rfl ?_
    refine s_zret dX12_doTold_34 rfl (by first | omega | exact bI_b _) rfl ?_
    first | exact ret_t ⟨by assumption, by omega⟩ (h I2 k1) | exact ret_f (fun z => absurd z.2 (by omega)) (h I2 k1) | exact ret_f (fun z => absurd z.1 (by omega)) (h I2 k1)
  refine s_iload_n 20 dX12_doTold_19 rfl rfl ?_
  refine s_aload_n 21 dX12_doTold_20 rfl rfl ?_
  refine s_getR 24 dX12_doTold_21 rfl fl_X12_20 (fun _ _ _ _ => rfl) (T_X12_r hT) sh_138 (Nat.le_of_ble_eq_true rfl) ?_
  refine s_iconst 25 dX12_doTold_24 rfl ?_
  refine s_iald 26 dX12_doTold_25 rfl sh_141 (Nat.le_of_ble_eq_true rfl) (by omega) (by omega) (fun r_25 => ?_)
  rw [er] at r_25 ⊢
  refine s_icmp_gt 33 29 dX12_doTold_26 rfl rfl (by first | omega | exact bI_r _ | exact iI_r _) (by first | omega | exact bI_r _ | exact iI_r _) (fun h_26 => ?_) (fun h_26 => ?_)
  · skip
    refine s_iconst 34 dX12_doTold_33 rfl ?_
    refine s_zret dX12_doTold_34 rfl (by first | omega | exact bI_b _) rfl ?_
    first | exact ret_t ⟨by assumption, by omega⟩ (h I2 k1) | exact ret_f (fun z => absurd z.2 (by omega)) (h I2 k1) | exact ret_f (fun z => absurd z.1 (by omega)) (h I2 k1)
  refine s_iconst 30 dX12_doTold_29 rfl ?_
  refine s_goto 34 dX12_doTold_30 rfl ?_
  refine s_zret dX12_doTold_34 rfl (by first | omega | exact bI_b _) rfl ?_
  first | exact ret_t ⟨by assumption, by omega⟩ (h I2 k1) | exact ret_f (fun z => absurd z.2 (by omega)) (h I2 k1) | exact ret_f (fun z => absurd z.1 (by omega)) (h I2 k1)
/-- the cut that is asked for -/
def cutA (r s : F1) : Int := iand (allF (r 7)) (ixor (s 12) (-1))
def CutV (r : F1) (rd g : Int) (s : F1) (v : Int) : Prop := (v = -2 ∧ ∀ m, 0 ≤ m → m ≤ cutA r s → iand m (ixor (cutA r s) (-1)) = 0 → bits m ≤ 3 → ¬ TP r rd g s (ior (s 12) m)) ∨
  (0 ≤ v ∧ v ≤ cutA r s ∧ iand v (ixor (cutA r s) (-1)) = 0 ∧ bits v ≤ 3 ∧ TP r rd g s (ior (s 12) v) ∧ ∀ m, 0 ≤ m → m ≤ cutA r s → iand m (ixor (cutA r s) (-1)) = 0 → TP r rd g s (ior (s 12) m) → bits v < bits m ∨ (bits v = bits m ∧ v ≤ m))
set_option maxHeartbeats 4000000 in
theorem c_X12_cutsOf {E : ET} {I : MI} {L : ML} {R : MR} {Q : Option AV → MI → ML → MR → Prop} {r s : F1} {rd g : Int} (hT : Topo R) (er : I 141 = r) (es : I 143 = s) (erd : I 138 30 = rd) (hr : WFr r) (eg : r 2 = g) (hp : Perm (r 5) s) (h : ∀ v I', Eqo FB I I' → CutV r rd g s v → -2 ≤ v ∧ v ≤ 16383 → Q (some (vi v)) I' L R) : CT E M_X12_cutsOf 161 yX12_cutsOf [(vr (138))] I L R Q := by
  refine CT_of rfl rfl (fun h => by cases h) (Nat.le_of_ble_eq_true rfl) (fun X => ?_)
  show V X _ z0 0 [some (vr (138)), none, none, none, none] [] I L R _
  have e0 := hr.1
  obtain ⟨A, eA⟩ : ∃ A, A = cutA r s := ⟨_, rfl⟩
  have hA : 0 ≤ A ∧ A ≤ 16383 := by
    have h2 := allF_14 (n := r 7) (by omega)
    have h4 := set_lt (x := A) (n := 14) (by omega) (by rw [eA]; exact iand_r _ _) (fun k a b c => by
      rw [eA] at c
      unfold cutA at c
      rw [has_and (by omega)] at c
      exact has_lt (n := 14) (by omega) (by omega) ⟨a, b⟩ c.1)
    omega
  have loop : ∀ (f : Nat) (m : Int) (w3 w4 : Option AV) (I1 : MI), 4 - m < (f : Int) → 0 ≤ m → m ≤ 4 → Eqo FB I I1 → (∀ x, 0 ≤ x → x ≤ A → iand x (ixor A (-1)) = 0 → bits x < m → ¬ TP r rd g s (ior (s 12) x)) →
      V X M_X12_cutsOf z0 24 [some (vr 138), some (vi A), some (vi m), w3, w4] [] I1 L R (RT X M_X12_cutsOf Q) := by
    intro f
    induction f with
    | zero => intro m w3 w4 I1 h1 h2 h3; omega
    | succ f ih =>
      intro m w3 w4 I1 h1 h2 h3 h4 h5
      have inn : ∀ (f2 : Nat) (x : Int) (w4 : Option AV) (I1 : MI), A + 1 - x < (f2 : Int) → 0 ≤ x → x ≤ A + 1 → m ≤ 3 → Eqo FB I I1 → (∀ y, 0 ≤ y → y < x → iand y (ixor A (-1)) = 0 → bits y = m → ¬ TP r rd g s (ior (s 12) y)) →
          V X M_X12_cutsOf z0 31 [some (vr 138), some (vi A), some (vi m), some (vi x), w4] [] I1 L R (RT X M_X12_cutsOf Q) := by
        intro f2
        induction f2 with
        | zero => intro x w4 I1 k1 k2 k3; omega
        | succ f2 ih2 =>
          intro x w4 I1 k1 k2 k3 k4 k5 k6
          have er1 : I1 141 = r := (k5 141 (by decide)).trans er
          have es1 : I1 143 = s := (k5 143 (by decide)).trans es
          have erd1 : I1 138 30 = rd := (congrFun (k5 138 (by decide)) 30).trans erd
          have bb := bits_b x
          have b94 : ∀ (w4 : Option AV) (I2 : MI), x ≤ A → Eqo FB I I2 → (iand x (ixor A (-1)) = 0 → bits x = m → ¬ TP r rd g s (ior (s 12) x)) → V X M_X12_cutsOf z0 94 [some (vr 138), some (vi A), some (vi m), some (vi x), w4] [] I2 L R (RT X M_X12_cutsOf Q) := by
            intro w4 I2 j1 j2 j3
            refine s_iinc (ls' := [_, _, _, _, _]) 97 dX12_cutsOf_94 rfl rfl (Nat.le_of_ble_eq_true rfl) rfl rfl ?_
            refine s_goto 31 dX12_cutsOf_97 rfl ?_
            refine ih2 (x + 1) _ I2 (by omega) (by omega) (by omega) k4 j2 (fun y a b c d => ?_)
            by_cases ey : y = x
            · subst ey; exact j3 c d
            · exact k6 y a (by omega) c d
          have b100 : ∀ (w4 : Option AV), x = A + 1 → V X M_X12_cutsOf z0 100 [some (vr 138), some (vi A), some (vi m), some (vi x), w4] [] I1 L R (RT X M_X12_cutsOf Q) := by
            intro w4 j1
            refine s_iinc (ls' := [_, _, _, _, _]) 103 dX12_cutsOf_100 rfl rfl (Nat.le_of_ble_eq_true rfl) rfl rfl ?_
            refine s_goto 24 dX12_cutsOf_103 rfl ?_
            refine ih (m + 1) _ _ I1 (by omega) (by omega) (by omega) k5 (fun y a b c d => ?_)
            by_cases ey : bits y = m
            · exact k6 y a (by omega) c ey
            · exact h5 y a b c (by omega)
          refine s_iload_n 32 dX12_cutsOf_31 rfl rfl ?_
          refine s_iload_n 33 dX12_cutsOf_32 rfl rfl ?_
          refine s_icmp_gt 100 36 dX12_cutsOf_33 rfl rfl (by first | omega | exact bI_r _ | exact iI_r _) (by first | omega | exact bI_r _ | exact iI_r _) (fun h_33 => ?_) (fun h_33 => ?_)
          · skip
            exact b100 _ (by omega)
          skip
          have hxA : x ≤ A := by omega
          have hir := iand_r x (ixor A (-1))
          refine s_iload_n 37 dX12_cutsOf_36 rfl rfl ?_
          refine s_iload_n 38 dX12_cutsOf_37 rfl rfl ?_
          refine s_iconst 39 dX12_cutsOf_38 rfl ?_
          refine s_ixor 40 dX12_cutsOf_39 rfl ?_
          refine s_iand 41 dX12_cutsOf_40 rfl ?_
          refine s_if_ne 94 44 dX12_cutsOf_41 rfl rfl (by first | omega | exact bI_r _ | exact iI_r _) (fun h_41 => ?_) (fun h_41 => ?_)
          · skip
            first | exact b94 _ I1 hxA k5 (fun z => absurd z (by assumption)) | exact b94 _ I1 hxA k5 (fun _ z => absurd z (by assumption)) | exact b94 _ _ hxA (k5.tr (by assumption)) (fun _ _ z => absurd z.1 (by omega)) | exact b94 _ _ hxA (k5.tr (by assumption)) (fun _ _ z => absurd z.2 (by omega))
          refine s_iload_n 45 dX12_cutsOf_44 rfl rfl ?_
          refine s_callS0 (M' := M_X12_bits) (as := [_]) 48 dX12_cutsOf_45 rfl cw_X12_379 rfl rfl (Nat.le_of_ble_eq_true rfl) (Nat.le_of_ble_eq_true rfl) (Nat.le_of_ble_eq_true rfl) ⟨rfl, rfl, rfl⟩ ?_
          refine c_X12_bits ?_
          refine s_iload_n 49 dX12_cutsOf_48 rfl rfl ?_
          refine s_icmp_eq 55 52 dX12_cutsOf_49 rfl rfl (by first | omega | exact bI_r _ | exact iI_r _) (by first | omega | exact bI_r _ | exact iI_r _) (fun h_49 => ?_) (fun h_49 => ?_)
          · skip
            refine s_aload_n 56 dX12_cutsOf_55 rfl rfl ?_
            refine s_aload_n 57 dX12_cutsOf_56 rfl rfl ?_
            refine s_getR 60 dX12_cutsOf_57 rfl fl_X12_26 (fun _ _ _ _ => rfl) (T_X12_st hT) sh_138 (Nat.le_of_ble_eq_true rfl) ?_
            refine s_aload_n 61 dX12_cutsOf_60 rfl rfl ?_
            refine s_getR 64 dX12_cutsOf_61 rfl fl_X12_26 (fun _ _ _ _ => rfl) (T_X12_st hT) sh_138 (Nat.le_of_ble_eq_true rfl) ?_
            refine s_bipush 66 dX12_cutsOf_64 rfl (by decide) ?_
            refine s_iald 67 dX12_cutsOf_66 rfl sh_143 (Nat.le_of_ble_eq_true rfl) (by omega) (by omega) (fun r_66 => ?_)
            rw [es1] at r_66 ⊢
            refine s_iload_n 68 dX12_cutsOf_67 rfl rfl ?_
            refine s_ior 69 dX12_cutsOf_68 rfl ?_
            refine s_callV0 (M' := M_X12_fewestBy) (as := [_, _]) 72 dX12_cutsOf_69 rfl cw_X12_372 rfl rfl sh_138 rfl (by decide) (Nat.le_of_ble_eq_true rfl) (Nat.le_of_ble_eq_true rfl) (Nat.le_of_ble_eq_true rfl) (Nat.le_of_ble_eq_true rfl) ⟨rfl, rfl, rfl⟩ ?_
            refine c_X12_fewestBy2 hT er1 erd1 hr eg sh_143 (by decide) (by decide) (by decide) es1 hp (fun I2 j1 j2 => ?_)
            have er2 : I2 141 = r := (j1 141 (by decide)).trans er1
            refine s_istore (ls' := [_, _, _, _, _]) 74 dX12_cutsOf_72 rfl (Nat.le_of_ble_eq_true rfl) rfl rfl ?_
            refine s_iload 76 dX12_cutsOf_74 rfl rfl ?_
            refine s_bipush 78 dX12_cutsOf_76 rfl (by decide) ?_
            refine s_icmp_eq 94 81 dX12_cutsOf_78 rfl rfl (by first | omega | exact bI_r _ | exact iI_r _) (by first | omega | exact bI_r _ | exact iI_r _) (fun h_78 => ?_) (fun h_78 => ?_)
            · skip
              first | exact b94 _ I1 hxA k5 (fun z => absurd z (by assumption)) | exact b94 _ I1 hxA k5 (fun _ z => absurd z (by assumption)) | exact b94 _ _ hxA (k5.tr (by assumption)) (fun _ _ z => absurd z.1 (by omega)) | exact b94 _ _ hxA (k5.tr (by assumption)) (fun _ _ z => absurd z.2 (by omega))
            refine s_iload 83 dX12_cutsOf_81 rfl rfl ?_
            refine s_aload_n 84 dX12_cutsOf_83 rfl rfl ?_
            refine s_getR 87 dX12_cutsOf_84 rfl fl_X12_20 (fun _ _ _ _ => rfl) (T_X12_r hT) sh_138 (Nat.le_of_ble_eq_true rfl) ?_
            refine s_iconst 88 dX12_cutsOf_87 rfl ?_
            refine s_iald 89 dX12_cutsOf_88 rfl sh_141 (Nat.le_of_ble_eq_true rfl) (by omega) (by omega) (fun r_88 => ?_)
            rw [er2] at r_88 ⊢
            refine s_icmp_gt 94 92 dX12_cutsOf_89 rfl rfl (by first | omega | exact bI_r _ | exact iI_r _) (by first | omega | exact bI_r _ | exact iI_r _) (fun h_89 => ?_) (fun h_89 => ?_)
            · skip
              first | exact b94 _ I1 hxA k5 (fun z => absurd z (by assumption)) | exact b94 _ I1 hxA k5 (fun _ z => absurd z (by assumption)) | exact b94 _ _ hxA (k5.tr (by assumption)) (fun _ _ z => absurd z.1 (by omega)) | exact b94 _ _ hxA (k5.tr (by assumption)) (fun _ _ z => absurd z.2 (by omega))
            refine s_iload_n 93 dX12_cutsOf_92 rfl rfl ?_
            refine s_iret dX12_cutsOf_93 rfl rfl ?_
            refine h x I2 (k5.tr j1) (Or.inr ⟨k2, by omega, by rw [← eA]; assumption, by omega, ⟨by assumption, by omega⟩, fun y a b c d => ?_⟩) (by omega)
            rw [← eA] at b c
            rcases Int.lt_trichotomy (bits y) (bits x) with q | q | q
            · exact absurd d (h5 y a b c (by omega))
            · refine Or.inr ⟨q.symm, ?_⟩
              apply Classical.byContradiction
              intro qq
              exact k6 y a (by omega) c (by omega) d
            · exact Or.inl q
          refine s_goto 94 dX12_cutsOf_52 rfl ?_
          first | exact b94 _ I1 hxA k5 (fun z => absurd z (by assumption)) | exact b94 _ I1 hxA k5 (fun _ z => absurd z (by assumption)) | exact b94 _ _ hxA (k5.tr (by assumption)) (fun _ _ z => absurd z.1 (by omega)) | exact b94 _ _ hxA (k5.tr (by assumption)) (fun _ _ z => absurd z.2 (by omega))
      refine s_iload_n 25 dX12_cutsOf_24 rfl rfl ?_
      refine s_iconst 26 dX12_cutsOf_25 rfl ?_
      refine s_icmp_gt 106 29 dX12_cutsOf_26 rfl rfl (by first | omega | exact bI_r _ | exact iI_r _) (by first | omega | exact bI_r _ | exact iI_r _) (fun h_26 => ?_) (fun h_26 => ?_)
      · skip
        refine s_bipush 108 dX12_cutsOf_106 rfl (by decide) ?_
        refine s_iret dX12_cutsOf_108 rfl rfl ?_
        exact h (-2) I1 h4 (Or.inl ⟨rfl, fun y a b c d => h5 y a (by omega) (by rw [eA]; exact c) (by omega)⟩) (by omega)
      refine s_iconst 30 dX12_cutsOf_29 rfl ?_
      refine s_istore_n (ls' := [_, _, _, _, _]) 31 dX12_cutsOf_30 rfl (Nat.le_of_ble_eq_true rfl) rfl rfl ?_
      exact inn (A + 2).toNat 0 _ I1 (by omega) (by omega) (by omega) (by omega) h4 (fun y a b => by omega)
  refine s_iconst 1 dX12_cutsOf_0 rfl ?_
  refine s_aload_n 2 dX12_cutsOf_1 rfl rfl ?_
  refine s_getR 5 dX12_cutsOf_2 rfl fl_X12_20 (fun _ _ _ _ => rfl) (T_X12_r hT) sh_138 (Nat.le_of_ble_eq_true rfl) ?_
  refine s_bipush 7 dX12_cutsOf_5 rfl (by decide) ?_
  refine s_iald 8 dX12_cutsOf_7 rfl sh_141 (Nat.le_of_ble_eq_true rfl) (by omega) (by omega) (fun r_7 => ?_)
  rw [er] at r_7 ⊢
  refine s_ishl 9 dX12_cutsOf_8 rfl ?_
  refine s_iconst 10 dX12_cutsOf_9 rfl ?_
  refine s_isub 11 dX12_cutsOf_10 rfl ?_
  refine s_aload_n 12 dX12_cutsOf_11 rfl rfl ?_
  refine s_getR 15 dX12_cutsOf_12 rfl fl_X12_26 (fun _ _ _ _ => rfl) (T_X12_st hT) sh_138 (Nat.le_of_ble_eq_true rfl) ?_
  refine s_bipush 17 dX12_cutsOf_15 rfl (by decide) ?_
  refine s_iald 18 dX12_cutsOf_17 rfl sh_143 (Nat.le_of_ble_eq_true rfl) (by omega) (by omega) (fun r_17 => ?_)
  rw [es] at r_17 ⊢
  refine s_iconst 19 dX12_cutsOf_18 rfl ?_
  refine s_ixor 20 dX12_cutsOf_19 rfl ?_
  refine s_iand 21 dX12_cutsOf_20 rfl ?_
  refine s_istore_n (ls' := [_, _, _, _, _]) 22 dX12_cutsOf_21 rfl (Nat.le_of_ble_eq_true rfl) rfl rfl ?_
  refine s_iconst 23 dX12_cutsOf_22 rfl ?_
  refine s_istore_n (ls' := [_, _, _, _, _]) 24 dX12_cutsOf_23 rfl (Nat.le_of_ble_eq_true rfl) rfl rfl ?_
  rw [show iand (ishl 1 (r 7) - 1) (ixor (s 12) (-1)) = A from eA.symm]
  exact loop 5 0 none none I (by omega) (by omega) (by omega) Eqo.rf (fun y _ _ _ b => by have := bits_b y; omega)
