/-! the reference's words, names, numbers -/
abbrev PO : Type := (Int × Int) ⊕ Int
/-- the reference, as it reads: the numbers told so far, the TOKEN at hand or the FAULT with its place -/
def RSt (I : MI) (bt : F1) (n : Int) (r : F1) (o : PO) : Prop := I 139 = bt ∧ I 138 3 = n ∧ I 142 = r ∧ match o with
  | .inl q => I 138 13 = 1 ∧ I 138 9 = q.1 ∧ I 138 10 = q.2
  | .inr a => I 138 13 = 0 ∧ TkR I bt n a
/-- what reading leaves as it was -/
def RFr (I I' : MI) : Prop := Eqo [138, 140, 142] I I' ∧ (∀ k : Int, k ∉ [4, 5, 6, 7, 8, 9, 10, 13] → I' 138 k = I 138 k) ∧ (I' 138 13 = 0 → I 138 13 = 0 ∧ I' 138 9 = I 138 9 ∧ I' 138 10 = I 138 10)
theorem RFr.rf {I : MI} : RFr I I := ⟨Eqo.rf, fun _ _ => rfl, fun z => ⟨z, rfl, rfl⟩⟩
theorem RFr.tr {I I' I'' : MI} (h : RFr I I') (h' : RFr I' I'') : RFr I I'' := ⟨h.1.tr h'.1, fun k hk => (h'.2.1 k hk).trans (h.2.1 k hk), fun z => by
  have g := h'.2.2 z
  have g2 := h.2.2 g.1
  exact ⟨g2.1, g.2.1.trans g2.2.1, g.2.2.trans g2.2.2⟩⟩
theorem RFr.ar {I I' : MI} (h : RFr I I') {k v : Int} : RFr I (up I' 142 k v) :=
  ⟨h.1.st (by decide), fun j hj => by rw [up_ne (by decide)]; exact h.2.1 j hj, fun z => by rw [up_ne (by decide)] at z ⊢; exact h.2.2 z⟩
theorem NxQ.fr {I I' : MI} (h : NxQ I I') : RFr I I' := ⟨h.1.mo (by decide), fun k hk => h.2 k (fun z => hk ((by decide : ∀ x ∈ ([4, 5, 6, 7, 8] : List Int), x ∈ ([4, 5, 6, 7, 8, 9, 10, 13] : List Int)) k z)), fun z => ⟨by rw [← h.2 13 (by decide)]; exact z, h.2 9 (by decide), h.2 10 (by decide)⟩⟩
theorem RSt.t {I : MI} {bt r : F1} {n : Int} {o : PO} (h : RSt I bt n r o) : I 139 = bt ∧ I 138 3 = n ∧ I 142 = r := ⟨h.1, h.2.1, h.2.2.1⟩
theorem TkR.c {I I' : MI} {bt : F1} {n a : Int} (h : TkR I bt n a) (hf : ∀ k ∈ ([4, 5, 6, 7, 8] : List Int), I' 138 k = I 138 k) (hl : I' 140 = I 140) : TkR I' bt n a := by
  obtain ⟨h1, h2, h3, h4, h5, h6, h7⟩ := h
  refine ⟨h1, ?_, ?_, h4, ?_, fun z => ?_, fun z => ?_⟩
  · rw [hf 4 (by decide)]; exact h2
  · rw [hf 5 (by decide)]; exact h3
  · rw [hf 6 (by decide)]; exact h5
  · rw [hf 8 (by decide), hl]; exact h6 z
  · rw [hf 7 (by decide)]; exact h7 z
/-- a number told; the TOKEN stays -/
theorem RSt.put {I : MI} {bt r : F1} {n : Int} {o : PO} (h : RSt I bt n r o) {k v : Int} : RSt (up I 142 k v) bt n (fun j => if j = k then v else r j) o := by
  obtain ⟨h1, h2, h3, h4⟩ := h
  refine ⟨by rw [up_ne (by decide)]; exact h1, by rw [up_ne (by decide)]; exact h2, by rw [up_eq, h3], ?_⟩
  cases o with
  | inl q => exact ⟨by rw [up_ne (by decide)]; exact h4.1, by rw [up_ne (by decide)]; exact h4.2.1, by rw [up_ne (by decide)]; exact h4.2.2⟩
  | inr a => exact ⟨by rw [up_ne (by decide)]; exact h4.1, h4.2.c (fun k _ => by rw [up_ne (by decide)]) (up_ne (by decide))⟩
theorem c_X12_next2 {E : ET} {I : MI} {L : ML} {R : MR} {Q : QT} {bt r : F1} {n a : Int} (hT : Topo R) (hn : 0 ≤ n ∧ n ≤ 900) (hb : ∀ k, 0 ≤ k → k < n → 0 ≤ bt k ∧ bt k ≤ 255) (hS : RSt I bt n r (.inr a))
    (h : ∀ I', RFr I I' → RSt I' bt n r (.inr (nxE bt n a)) → Q none I' L R) : CT E M_X12_next 161 yX12_next [vr 138] I L R Q := by
  obtain ⟨h1, h2, h3, h4, h5⟩ := hS
  refine c_X12_next hT h1 h2 hn hb h5.2.2.1 (by have := h5.1; have := h5.2.2.2.1; omega) (fun I' q1 q2 => h I' q1.fr ⟨?_, ?_, ?_, ?_, q2⟩)
  · rw [q1.1 139 (by decide)]; exact h1
  · rw [q1.2 3 (by decide)]; exact h2
  · rw [q1.1 142 (by decide)]; exact h3
  · rw [q1.2 13 (by decide)]; exact h4
/-- a FAULT at the TOKEN at hand, if there was none -/
def erF (num : Int) (o : PO) : PO := match o with
  | .inl q => .inl q
  | .inr a => .inl (num, a)
set_option maxHeartbeats 4000000 in
theorem c_X12_wrong {E : ET} {I : MI} {L : ML} {R : MR} {Q : Option AV → MI → ML → MR → Prop} {bt r : F1} {n num w : Int} {o : PO} (hS : RSt I bt n r o) (hw : ∀ a, o = .inr a → w = a) (hm : 0 ≤ num ∧ num ≤ 9) (hw2 : -2147483648 ≤ w ∧ w ≤ 2147483647) (h : ∀ I', RFr I I' → RSt I' bt n r (erF num o) → Q none I' L R) : CT E M_X12_wrong 161 yX12_wrong [(vr (138)), (vi (num)), (vi (w))] I L R Q := by
  refine CT_of rfl rfl (fun h => by cases h) (Nat.le_of_ble_eq_true rfl) (fun X => ?_)
  show V X _ z0 0 [some (vr (138)), some (vi (num)), some (vi (w))] [] I L R _
  obtain ⟨h1, h2, h3, h4⟩ := hS
  cases o with
  | inl q =>
    refine s_aload_n 1 dX12_wrong_0 rfl rfl ?_
    refine s_getI 4 dX12_wrong_1 rfl fl_X12_119 (fun _ _ _ _ => rfl) sh_138 (Nat.le_of_ble_eq_true rfl) (fun r_1 => ?_)
    refine s_if_eq 8 7 dX12_wrong_4 rfl rfl (by first | omega | exact bI_r _ | exact iI_r _) (fun h_4 => by exfalso; (have := h4.1; omega)) (fun h_4 => ?_)
    refine s_vret dX12_wrong_7 rfl rfl ?_
    exact h I RFr.rf ⟨h1, h2, h3, h4⟩
  | inr a =>
    have ew := hw a rfl
    refine s_aload_n 1 dX12_wrong_0 rfl rfl ?_
    refine s_getI 4 dX12_wrong_1 rfl fl_X12_119 (fun _ _ _ _ => rfl) sh_138 (Nat.le_of_ble_eq_true rfl) (fun r_1 => ?_)
    refine s_if_eq 8 7 dX12_wrong_4 rfl rfl (by first | omega | exact bI_r _ | exact iI_r _) (fun h_4 => ?_) (fun h_4 => by exfalso; (have := h4.1; omega))
    refine s_aload_n 9 dX12_wrong_8 rfl rfl ?_
    refine s_iconst 10 dX12_wrong_9 rfl ?_
    refine s_putI 13 dX12_wrong_10 rfl fl_X12_119 (fun _ => x_nz (by omega)) (fun _ => rfl) (fun _ _ _ _ => rfl) sh_138 (Nat.le_of_ble_eq_true rfl) (by first | omega | exact bI_r _ | exact iI_r _) ?_
    refine s_aload_n 14 dX12_wrong_13 rfl rfl ?_
    refine s_iload_n 15 dX12_wrong_14 rfl rfl ?_
    refine s_putI 18 dX12_wrong_15 rfl fl_X12_123 (fun _ => rfl) (fun _ => rfl) (fun _ _ _ _ => rfl) sh_138 (Nat.le_of_ble_eq_true rfl) (by first | omega | exact bI_r _ | exact iI_r _) ?_
    refine s_aload_n 19 dX12_wrong_18 rfl rfl ?_
    refine s_iload_n 20 dX12_wrong_19 rfl rfl ?_
    refine s_putI 23 dX12_wrong_20 rfl fl_X12_13 (fun _ => rfl) (fun _ => rfl) (fun _ _ _ _ => rfl) sh_138 (Nat.le_of_ble_eq_true rfl) (by first | omega | exact bI_r _ | exact iI_r _) ?_
    refine s_vret dX12_wrong_23 rfl rfl ?_
    have fs : ∀ {I' : MI} {k v : Int}, (∀ j : Int, j ∉ [4, 5, 6, 7, 8, 9, 10, 13] → I' 138 j = I 138 j) → k ∈ [4, 5, 6, 7, 8, 9, 10, 13] → ∀ j : Int, j ∉ [4, 5, 6, 7, 8, 9, 10, 13] → up I' 138 k v 138 j = I 138 j := fun g hk j hj => by rw [upn (fun e => hj (by rw [e]; exact hk))]; exact g j hj
    refine h _ ⟨((Eqo.rf.st (by decide)).st (by decide)).st (by decide), fs (fs (fs (fun _ _ => rfl) (by decide)) (by decide)) (by decide), fun z => ?_⟩ ⟨?_, ?_, ?_, ?_, ?_, ?_⟩
    · rw [upn (by decide), upn (by decide), ups] at z; omega
    · rw [up_ne (by decide), up_ne (by decide), up_ne (by decide)]; exact h1
    · rw [upn (by decide), upn (by decide), upn (by decide)]; exact h2
    · rw [up_ne (by decide), up_ne (by decide), up_ne (by decide)]; exact h3
    · rw [upn (by decide), upn (by decide), ups]
    · rw [upn (by decide), ups]
    · rw [ups]; exact ew
/-- the TOKEN is this WORD -/
def isW (bt : F1) (n : Int) (w : List Int) (o : PO) : Prop := match o with
  | .inl _ => False
  | .inr a => tkE bt n a = 2 ∧ wdE bt n a = w
theorem wdE_len {bt : F1} {n a : Int} : (wdE bt n a).length = (enE bt n a - a).toNat := by simp [wdE]
theorem wdE_at {bt : F1} {n a j : Int} (h : 0 ≤ j ∧ j < enE bt n a - a) : vL (wdE bt n a) j = bt (a + j) := vL_map (v := fun j => bt (a + j)) ⟨h.1, by omega⟩
set_option maxHeartbeats 4000000 in
theorem c_X12_isWord {E : ET} {I : MI} {L : ML} {R : MR} {Q : Option AV → MI → ML → MR → Prop} {bt r : F1} {n : Int} {o : PO} {k : Nat} {q9 : ST0} (hT : Topo R) (hk : STRS[k]? = some q9) (hS : RSt I bt n r o) (h : Q (some (vi (bI (isW bt n (wS k) o)))) I L R) : CT E M_X12_isWord 161 yX12_isWord [(vr (138)), (vq 0 (k))] I L R Q := by
  refine CT_of rfl rfl (fun h => by cases h) (Nat.le_of_ble_eq_true rfl) (fun X => ?_)
  show V X _ z0 0 [some (vr (138)), some (vq 0 (k)), none, none] [] I L R _
  obtain ⟨h1, h2, h3, h4⟩ := hS
  have hb := ST_at hk
  have hl := wS_len hk
  cases o with
  | inl q =>
    refine s_aload_n 1 dX12_isWord_0 rfl rfl ?_
    refine s_getI 4 dX12_isWord_1 rfl fl_X12_119 (fun _ _ _ _ => rfl) sh_138 (Nat.le_of_ble_eq_true rfl) (fun r_1 => ?_)
    refine s_if_ne 26 7 dX12_isWord_4 rfl rfl (by first | omega | exact bI_r _ | exact iI_r _) (fun h_4 => ?_) (fun h_4 => by exfalso; (have := h4.1; omega))
    refine s_iconst 27 dX12_isWord_26 rfl ?_
    refine s_zret dX12_isWord_27 rfl (by first | omega | exact bI_b _) rfl ?_
    exact ret_f (fun z => z) h
  | inr a =>
    obtain ⟨f1, t1, t2, t3, t4, t5, t6, t7⟩ := h4
    by_cases ht : tkE bt n a = 2 ∧ enE bt n a - a = (wS k).length
    · have g := t6 ht.1
      have wl : (wdE bt n a).length = (wS k).length := by rw [wdE_len]; omega
      have loop : ∀ (f : Nat) (j : Int), ((wS k).length : Int) - j < (f : Int) → 0 ≤ j → j ≤ (wS k).length → ∀ C : Prop, (C ↔ ∀ i, 0 ≤ i → i < j → vL (wdE bt n a) i = vL (wS k) i) → V X M_X12_isWord z0 32 [some (vr (138)), some (vq 0 (k)), some (vi (bI C)), some (vi (j))] [] (I) L R (RT X M_X12_isWord Q) := by
        intro f
        induction f with
        | zero => intro j z1 z2 z3; omega
        | succ f ih =>
          intro j z1 z2 z3 C hC
          have next : j < (wS k).length → ∀ D : Prop, (D ↔ C ∧ vL (wdE bt n a) j = vL (wS k) j) → V X M_X12_isWord z0 63 [some (vr (138)), some (vq 0 (k)), some (vi (bI C)), some (vi (j))] [(vi (bI D))] (I) L R (RT X M_X12_isWord Q) := by
            intro z4 D hD
            refine s_istore_n (ls' := [_, _, _, _]) 64 dX12_isWord_63 rfl (Nat.le_of_ble_eq_true rfl) rfl rfl ?_
            refine s_iinc (ls' := [_, _, _, _]) 67 dX12_isWord_64 rfl rfl (Nat.le_of_ble_eq_true rfl) rfl rfl ?_
            refine s_goto 32 dX12_isWord_67 rfl ?_
            refine ih (j + 1) (by omega) (by omega) (by omega) D ?_
            rw [hD, hC]
            constructor
            · rintro ⟨y1, y2⟩ i i1 i2
              by_cases ei : i = j
              · rw [ei]; exact y2
              · exact y1 i i1 (by omega)
            · intro y; exact ⟨fun i i1 i2 => y i i1 (by omega), y j z2 (by omega)⟩
          have lj : j < (wS k).length → I 140 j = vL (wdE bt n a) j := fun y => by rw [wdE_at ⟨z2, by omega⟩]; exact (g.2.2.2 j z2 (by omega)).1
          have cj : j < (wS k).length → 97 ≤ (wS k).getD j.toNat 0 ∧ (wS k).getD j.toNat 0 ≤ 122 := fun y => by rw [← wS_at hk (by omega)]; exact hb.2.2.2 _ (by omega)
          refine s_iload_n 33 dX12_isWord_32 rfl rfl ?_
          refine s_aload_n 34 dX12_isWord_33 rfl rfl ?_
          refine s_getI 37 dX12_isWord_34 rfl fl_X12_103 (fun _ _ _ _ => rfl) sh_138 (Nat.le_of_ble_eq_true rfl) (fun r_34 => ?_)
          rw [g.1]
          refine s_icmp_ge 70 40 dX12_isWord_37 rfl rfl (by first | omega | exact bI_r _ | exact iI_r _) (by first | omega | exact bI_r _ | exact iI_r _) (fun h_37 => ?_) (fun h_37 => ?_)
          · skip
            refine s_iload_n 71 dX12_isWord_70 rfl rfl ?_
            refine s_zret dX12_isWord_71 rfl (by first | omega | exact bI_b _) rfl ?_
            have e : j = (wS k).length := by omega
            have e2 : isW bt n (wS k) (.inr a) ↔ C := by
              rw [hC, e]
              constructor
              · rintro ⟨_, y⟩ i i1 i2; rw [y]
              · intro y; exact ⟨ht.1, vL_ext (n := (wS k).length) wl rfl (fun i i1 i2 => y i i1 i2)⟩
            rw [bI_c e2] at h; exact h
          skip
          have jl : j < (wS k).length := by omega
          have cj := cj jl
          refine s_iload_n 41 dX12_isWord_40 rfl rfl ?_
          refine s_ifb_eq 62 44 dX12_isWord_41 rfl rfl (fun h_41 => ?_) (fun h_41 => ?_)
          · skip
            refine s_iconst 63 dX12_isWord_62 rfl ?_
            first | (have := next jl True ⟨fun _ => ⟨by assumption, by assumption⟩, fun _ => trivial⟩; rw [bI_t trivial] at this; exact this) | (have := next jl False ⟨fun z => absurd z id, fun z => absurd z.2 (by assumption)⟩; rw [bI_f id] at this; exact this) | (have := next jl False ⟨fun z => absurd z id, fun z => absurd z.1 (by assumption)⟩; rw [bI_f id] at this; exact this)
          refine s_aload_n 45 dX12_isWord_44 rfl rfl ?_
          refine s_getR 48 dX12_isWord_45 rfl fl_X12_17 (fun _ _ _ _ => rfl) (T_X12_letters hT) sh_138 (Nat.le_of_ble_eq_true rfl) ?_
          refine s_iload_n 49 dX12_isWord_48 rfl rfl ?_
          refine s_iald 50 dX12_isWord_49 rfl sh_140 (Nat.le_of_ble_eq_true rfl) (by omega) (by omega) (fun r_49 => ?_)
          rw [lj jl]
          refine s_aloadq_n 51 dX12_isWord_50 rfl rfl ?_
          refine s_iload_n 52 dX12_isWord_51 rfl rfl ?_
          refine s_callQ0 (M' := M_J0_charAt_5068e) (as := [_]) 55 dX12_isWord_52 rfl cw_X12_132 rfl rfl (by assumption) (Nat.le_of_ble_eq_true rfl) (Nat.le_of_ble_eq_true rfl) (Nat.le_of_ble_eq_true rfl) ⟨rfl, rfl, rfl⟩ ?_
          refine c_J0_charAt_5068e hk (by omega) ?_
          refine s_icmp_ne 62 58 dX12_isWord_55 rfl rfl (by first | (rw [← lj jl]; exact (by assumption)) | omega) (by first | (rw [← lj jl]; exact (by assumption)) | omega) (fun h_55 => ?_) (fun h_55 => ?_)
          · skip
            refine s_iconst 63 dX12_isWord_62 rfl ?_
            first | (have := next jl True ⟨fun _ => ⟨by assumption, by assumption⟩, fun _ => trivial⟩; rw [bI_t trivial] at this; exact this) | (have := next jl False ⟨fun z => absurd z id, fun z => absurd z.2 (by assumption)⟩; rw [bI_f id] at this; exact this) | (have := next jl False ⟨fun z => absurd z id, fun z => absurd z.1 (by assumption)⟩; rw [bI_f id] at this; exact this)
          refine s_iconst 59 dX12_isWord_58 rfl ?_
          refine s_goto 63 dX12_isWord_59 rfl ?_
          first | (have := next jl True ⟨fun _ => ⟨by assumption, by assumption⟩, fun _ => trivial⟩; rw [bI_t trivial] at this; exact this) | (have := next jl False ⟨fun z => absurd z id, fun z => absurd z.2 (by assumption)⟩; rw [bI_f id] at this; exact this) | (have := next jl False ⟨fun z => absurd z id, fun z => absurd z.1 (by assumption)⟩; rw [bI_f id] at this; exact this)
      refine s_aload_n 1 dX12_isWord_0 rfl rfl ?_
      refine s_getI 4 dX12_isWord_1 rfl fl_X12_119 (fun _ _ _ _ => rfl) sh_138 (Nat.le_of_ble_eq_true rfl) (fun r_1 => ?_)
      refine s_if_ne 26 7 dX12_isWord_4 rfl rfl (by first | omega | exact bI_r _ | exact iI_r _) (fun h_4 => by exfalso; (have := f1; omega)) (fun h_4 => ?_)
      refine s_aload_n 8 dX12_isWord_7 rfl rfl ?_
      refine s_getI 11 dX12_isWord_8 rfl fl_X12_109 (fun _ _ _ _ => rfl) sh_138 (Nat.le_of_ble_eq_true rfl) (fun r_8 => ?_)
      rw [t5]
      refine s_iconst 12 dX12_isWord_11 rfl ?_
      refine s_icmp_ne 26 15 dX12_isWord_12 rfl rfl (by first | omega | exact bI_r _ | exact iI_r _) (by first | omega | exact bI_r _ | exact iI_r _) (fun h_12 => by exfalso; exact absurd ht.1 h_12) (fun h_12 => ?_)
      refine s_aload_n 16 dX12_isWord_15 rfl rfl ?_
      refine s_getI 19 dX12_isWord_16 rfl fl_X12_103 (fun _ _ _ _ => rfl) sh_138 (Nat.le_of_ble_eq_true rfl) (fun r_16 => ?_)
      rw [g.1]
      refine s_aloadq_n 20 dX12_isWord_19 rfl rfl ?_
      refine s_callQ0 (M' := M_J0_length_8abf5) (as := []) 23 dX12_isWord_20 rfl cw_X12_126 rfl rfl (by assumption) (Nat.le_of_ble_eq_true rfl) (Nat.le_of_ble_eq_true rfl) (Nat.le_of_ble_eq_true rfl) ⟨rfl, rfl, rfl⟩ ?_
      refine c_J0_length_8abf5 hk ?_
      refine s_icmp_eq 28 26 dX12_isWord_23 rfl rfl (by first | omega | exact bI_r _ | exact iI_r _) (by first | omega | exact bI_r _ | exact iI_r _) (fun h_23 => ?_) (fun h_23 => by exfalso; exact absurd ht.2 h_23)
      refine s_iconst 29 dX12_isWord_28 rfl ?_
      refine s_istore_n (ls' := [_, _, _, _]) 30 dX12_isWord_29 rfl (Nat.le_of_ble_eq_true rfl) rfl rfl ?_
      refine s_iconst 31 dX12_isWord_30 rfl ?_
      refine s_istore_n (ls' := [_, _, _, _]) 32 dX12_isWord_31 rfl (Nat.le_of_ble_eq_true rfl) rfl rfl ?_
      have := loop ((wS k).length + 1) 0 (by omega) (by omega) (by omega) True ⟨fun _ i i1 i2 => by omega, fun _ => trivial⟩
      rw [bI_t trivial] at this; exact this
    · have hf : ¬ isW bt n (wS k) (.inr a) := fun z => ht ⟨z.1, by have := congrArg List.length z.2; rw [wdE_len] at this; have := t4; omega⟩
      refine s_aload_n 1 dX12_isWord_0 rfl rfl ?_
      refine s_getI 4 dX12_isWord_1 rfl fl_X12_119 (fun _ _ _ _ => rfl) sh_138 (Nat.le_of_ble_eq_true rfl) (fun r_1 => ?_)
      refine s_if_ne 26 7 dX12_isWord_4 rfl rfl (by first | omega | exact bI_r _ | exact iI_r _) (fun h_4 => by exfalso; (have := f1; omega)) (fun h_4 => ?_)
      refine s_aload_n 8 dX12_isWord_7 rfl rfl ?_
      refine s_getI 11 dX12_isWord_8 rfl fl_X12_109 (fun _ _ _ _ => rfl) sh_138 (Nat.le_of_ble_eq_true rfl) (fun r_8 => ?_)
      rw [t5]
      refine s_iconst 12 dX12_isWord_11 rfl ?_
      refine s_icmp_ne 26 15 dX12_isWord_12 rfl rfl (by first | omega | exact bI_r _ | exact iI_r _) (by first | omega | exact bI_r _ | exact iI_r _) (fun h_12 => ?_) (fun h_12 => ?_)
      · skip
        refine s_iconst 27 dX12_isWord_26 rfl ?_
        refine s_zret dX12_isWord_27 rfl (by first | omega | exact bI_b _) rfl ?_
        exact ret_f hf h
      refine s_aload_n 16 dX12_isWord_15 rfl rfl ?_
      refine s_getI 19 dX12_isWord_16 rfl fl_X12_103 (fun _ _ _ _ => rfl) sh_138 (Nat.le_of_ble_eq_true rfl) (fun r_16 => ?_)
      rw [(t6 (by omega)).1]
      refine s_aloadq_n 20 dX12_isWord_19 rfl rfl ?_
      refine s_callQ0 (M' := M_J0_length_8abf5) (as := []) 23 dX12_isWord_20 rfl cw_X12_126 rfl rfl (by assumption) (Nat.le_of_ble_eq_true rfl) (Nat.le_of_ble_eq_true rfl) (Nat.le_of_ble_eq_true rfl) ⟨rfl, rfl, rfl⟩ ?_
      refine c_J0_length_8abf5 hk ?_
      refine s_icmp_eq 28 26 dX12_isWord_23 rfl rfl (by first | omega | exact bI_r _ | exact iI_r _) (by first | omega | exact bI_r _ | exact iI_r _) (fun h_23 => by exfalso; exact absurd ⟨by omega, h_23⟩ ht) (fun h_23 => ?_)
      refine s_iconst 27 dX12_isWord_26 rfl ?_
      refine s_zret dX12_isWord_27 rfl (by first | omega | exact bI_b _) rfl ?_
      exact ret_f hf h
