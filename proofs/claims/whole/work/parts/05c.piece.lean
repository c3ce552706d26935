/-! the class's Piece: what it tells, how it grows -/
def flI (I : MI) (a : Nat) (n v : Int) : MI := fun c => if c = a then (fun k => if 0 ≤ k ∧ k < n then v else I a k) else I c
theorem flI_n {I : MI} {a c : Nat} {n v : Int} (h : c ≠ a) : flI I a n v c = I c := if_neg h
theorem flI_k {I : MI} {a : Nat} {n v k : Int} : flI I a n v a k = if 0 ≤ k ∧ k < n then v else I a k := by
  unfold flI
  rw [if_pos rfl]
theorem flI_0 {I : MI} {a : Nat} {v : Int} : flI I a 0 v = I := by
  funext c k
  by_cases e : c = a
  · subst e; rw [flI_k, if_neg (by omega)]
  · rw [flI_n e]
theorem flI_s {I : MI} {a : Nat} {n v : Int} (hn : 0 ≤ n) : up (flI I a n v) a n v = flI I a (n + 1) v := by
  funext c k
  by_cases e : c = a
  · subst e
    rw [upd9, flI_k, flI_k]
    by_cases ek : k = n
    · rw [if_pos ek, if_pos (by omega)]
    · rw [if_neg ek]
      by_cases h1 : 0 ≤ k ∧ k < n
      · rw [if_pos h1, if_pos (by omega)]
      · rw [if_neg h1, if_neg (by omega)]
  · rw [up_ne e, flI_n e, flI_n e]
set_option maxHeartbeats 4000000 in
theorem c_fill {E : ET} {I : MI} {L : ML} {R : MR} {Q : Option AV → MI → ML → MR → Prop} {a n : Nat} {v : Int} (hs : sh a = (20, n)) (ha : a < 161) (hn : n ≤ 4000) (hv : -2147483648 ≤ v ∧ v ≤ 2147483647) (h : Q none (flI I a n v) L R) : CT E M_J7_fill_53178 161 yJ7_fill_53178 [(vr (a)), (vi (v))] I L R Q := by
  refine CT_of rfl rfl (fun h => by cases h) (Nat.le_of_ble_eq_true rfl) (fun X => ?_)
  show V X _ z0 0 [some (vr (a)), some (vi (v)), none, none] [] I L R _
  have loop : ∀ (f : Nat) (k : Int), n - k < (f : Int) → 0 ≤ k → k ≤ n → V X M_J7_fill_53178 z0 5 [some (vr (a)), some (vi (v)), some (vi (k)), some (vi (n))] [] (flI I a k v) L R (RT X M_J7_fill_53178 Q) := by
    intro f
    induction f with
    | zero => intro k h1 h2 h3; omega
    | succ f ih =>
      intro k h1 h2 h3
      refine s_iload_n 6 dJ7_fill_53178_5 rfl rfl ?_
      refine s_iload_n 7 dJ7_fill_53178_6 rfl rfl ?_
      refine s_icmp_ge 20 10 dJ7_fill_53178_7 rfl rfl (by first | omega | exact bI_r _ | exact iI_r _) (by first | omega | exact bI_r _ | exact iI_r _) (fun h_7 => ?_) (fun h_7 => ?_)
      · skip
        refine s_vret dJ7_fill_53178_20 rfl rfl ?_
        have e : k = n := by omega
        subst e; exact h
      refine s_aload_n 11 dJ7_fill_53178_10 rfl rfl ?_
      refine s_iload_n 12 dJ7_fill_53178_11 rfl rfl ?_
      refine s_iload_n 13 dJ7_fill_53178_12 rfl rfl ?_
      refine s_iast 14 dJ7_fill_53178_13 rfl (by assumption) (by assumption) (by omega) (by omega) (by first | omega | exact bI_r _ | exact iI_r _) ?_
      refine s_iinc (ls' := [_, _, _, _]) 17 dJ7_fill_53178_14 rfl rfl (Nat.le_of_ble_eq_true rfl) rfl rfl ?_
      refine s_goto 5 dJ7_fill_53178_17 rfl ?_
      rw [flI_s h2]
      exact ih (k + 1) (by omega) (by omega) (by omega)
  refine s_iconst 1 dJ7_fill_53178_0 rfl ?_
  refine s_istore_n (ls' := [_, _, _, _]) 2 dJ7_fill_53178_1 rfl (Nat.le_of_ble_eq_true rfl) rfl rfl ?_
  refine s_aload_n 3 dJ7_fill_53178_2 rfl rfl ?_
  refine s_alen20 4 dJ7_fill_53178_3 rfl (by assumption) (by assumption) ?_
  refine s_istore_n (ls' := [_, _, _, _]) 5 dJ7_fill_53178_4 rfl (Nat.le_of_ble_eq_true rfl) rfl rfl ?_
  have l9 := loop (n + 1) 0 (by omega) (by omega) (by omega)
  rw [flI_0] at l9; exact l9
def dedP (r : F1) (k : Int) : Prop := r (54 + 7 * k + 6) = 0 ∧ r (9 + r (54 + 7 * k + 0)) = 3
def rowP (I : MI) (P : Nat) (r : F1) (p : Int) : Prop := I (P + 2 + p.toNat) 0 = r (9 + p) ∧ I (P + 2 + p.toNat) 1 = r (16 + p) ∧ I (P + 2 + p.toNat) 2 = r (23 + p) ∧ I (P + 2 + p.toNat) 3 = r (30 + p) ∧ I (P + 2 + p.toNat) 4 = r (37 + p)
def rowO (I : MI) (P : Nat) (r : F1) (k : Int) : Prop := I (P + 10 + k.toNat) 0 = r (54 + 7 * k + 0) ∧ I (P + 10 + k.toNat) 1 = r (54 + 7 * k + 1) ∧ I (P + 10 + k.toNat) 2 = r (54 + 7 * k + 6) ∧ I (P + 10 + k.toNat) 3 = r (54 + 7 * k + 4) ∧ I (P + 10 + k.toNat) 4 = r (54 + 7 * k + 5) ∧ I (P + 10 + k.toNat) 5 = r (54 + 7 * k + 2) ∧ I (P + 10 + k.toNat) 6 = r (54 + 7 * k + 3)
def rowS (I : MI) (P : Nat) (r : F1) (w : Int) : Prop := I (P + 25 + w.toNat) 0 = r (152 + 3 * w + 0) ∧ I (P + 25 + w.toNat) 1 = r (152 + 3 * w + 1) ∧ I (P + 25 + w.toNat) 2 = r (152 + 3 * w + 2)
/-- the Piece at P tells these numbers -/
def PR (I : MI) (P : Nat) (r : F1) : Prop := (I P 0 = r 1 ∧ I P 1 = r 2 ∧ I P 2 = r 3 ∧ I P 3 = r 4 ∧ I P 4 = r 5 ∧ I P 5 = r 6 ∧ I P 6 = r 7 ∧ I P 7 = r 8) ∧
  (I P 9 = setOf (behP r) (r 7).toNat ∧ I P 10 = setOf (pupP r) (r 7).toNat ∧ I P 11 = setOf (dedP r) (r 7).toNat) ∧
  (∀ p, 0 ≤ p → p < r 4 → rowP I P r p) ∧ (∀ k, 0 ≤ k → k < r 7 → rowO I P r k) ∧ (∀ w, 0 ≤ w → w < r 8 → rowS I P r w) ∧
  (∀ s, 0 ≤ s → s < r 5 → I (P + 32) s = r (44 + s)) ∧ (∀ s, 0 ≤ s → s < 5 → I (P + 33) s = r (49 + s)) ∧ ∀ p, 0 ≤ p → p < 7 → I (P + 34) p = setOf (fun k => r (54 + 7 * k + 0) = p) (r 7).toNat
/-- cells outside the Piece at P are as before -/
def FrP (P : Nat) (I I' : MI) : Prop := ∀ c, (c < P ∨ P + 35 < c) → I' c = I c
theorem FrP.rf {P : Nat} {I : MI} : FrP P I I := fun _ _ => rfl
theorem FrP.tr {P : Nat} {I I' I'' : MI} (h : FrP P I I') (h' : FrP P I' I'') : FrP P I I'' := fun c hc => (h' c hc).trans (h c hc)
theorem FrP.st {P : Nat} {I I' : MI} (h : FrP P I I') {c : Nat} {k v : Int} (hc : P ≤ c ∧ c ≤ P + 35) : FrP P I (up I' c k v) := fun a ha => by
  rw [up_ne (by omega)]; exact h a ha
theorem FrP.fl {P : Nat} {I I' : MI} (h : FrP P I I') {c : Nat} {n v : Int} (hc : P ≤ c ∧ c ≤ P + 35) : FrP P I (flI I' c n v) := fun a ha => by
  rw [flI_n (by omega)]; exact h a ha
theorem PR.c {P : Nat} {I I' : MI} {r : F1} (hr : 0 ≤ r 4 ∧ r 4 ≤ 7 ∧ 0 ≤ r 7 ∧ r 7 ≤ 14 ∧ 0 ≤ r 8 ∧ r 8 ≤ 7) (h : PR I P r) (e : ∀ c, P ≤ c → c ≤ P + 34 → I' c = I c) : PR I' P r := by
  obtain ⟨h1, h2, h3, h4, h5, h6, h7, h8⟩ := h
  rw [← e P (by omega) (by omega)] at h1 h2
  refine ⟨h1, h2, fun p a b => ?_, fun p a b => ?_, fun p a b => ?_, fun s a b => ?_, fun s a b => ?_, fun s a b => ?_⟩
  · unfold rowP; rw [e _ (by omega) (by omega)]; exact h3 p a b
  · unfold rowO; rw [e _ (by omega) (by omega)]; exact h4 p a b
  · unfold rowS; rw [e _ (by omega) (by omega)]; exact h5 p a b
  · rw [e _ (by omega) (by omega)]; exact h6 s a b
  · rw [e _ (by omega) (by omega)]; exact h7 s a b
  · rw [e _ (by omega) (by omega)]; exact h8 s a b
set_option maxHeartbeats 4000000 in
theorem c_X5_clear {E : ET} {I : MI} {L : ML} {R : MR} {Q : Option AV → MI → ML → MR → Prop} {P : Nat} (hT : Topo R) (hP : isP P) (h : ∀ I', FrP P I I' → I' P 8 = 0 → PR I' P (fun _ => 0) → Q none I' L R) : CT E M_X5_clear 161 yX5_clear [(vr (P))] I L R Q := by
  refine CT_of rfl rfl (fun h => by cases h) (Nat.le_of_ble_eq_true rfl) (fun X => ?_)
  show V X _ z0 0 [some (vr (P))] [] I L R _
  have hp : P = 3 ∨ P = 39 := hP
  refine s_aload_n 1 dX5_clear_0 rfl rfl ?_
  refine s_iconst 2 dX5_clear_1 rfl ?_
  refine s_putI 5 dX5_clear_2 rfl fl_X5_35 (fun _ => rfl) (fun _ => rfl) (fun _ _ _ _ => rfl) (isP_sh hP) (isP_lt hP) (by first | omega | exact bI_r _ | exact iI_r _) ?_
  refine s_aload_n 6 dX5_clear_5 rfl rfl ?_
  refine s_iconst 7 dX5_clear_6 rfl ?_
  refine s_putI 10 dX5_clear_7 rfl fl_X5_39 (fun _ => rfl) (fun _ => rfl) (fun _ _ _ _ => rfl) (isP_sh hP) (isP_lt hP) (by first | omega | exact bI_r _ | exact iI_r _) ?_
  refine s_aload_n 11 dX5_clear_10 rfl rfl ?_
  refine s_iconst 12 dX5_clear_11 rfl ?_
  refine s_putI 15 dX5_clear_12 rfl fl_X5_42 (fun _ => rfl) (fun _ => rfl) (fun _ _ _ _ => rfl) (isP_sh hP) (isP_lt hP) (by first | omega | exact bI_r _ | exact iI_r _) ?_
  refine s_aload_n 16 dX5_clear_15 rfl rfl ?_
  refine s_iconst 17 dX5_clear_16 rfl ?_
  refine s_putI 20 dX5_clear_17 rfl fl_X5_45 (fun _ => rfl) (fun _ => rfl) (fun _ _ _ _ => rfl) (isP_sh hP) (isP_lt hP) (by first | omega | exact bI_r _ | exact iI_r _) ?_
  refine s_aload_n 21 dX5_clear_20 rfl rfl ?_
  refine s_iconst 22 dX5_clear_21 rfl ?_
  refine s_putI 25 dX5_clear_22 rfl fl_X5_48 (fun _ => rfl) (fun _ => rfl) (fun _ _ _ _ => rfl) (isP_sh hP) (isP_lt hP) (by first | omega | exact bI_r _ | exact iI_r _) ?_
  refine s_aload_n 26 dX5_clear_25 rfl rfl ?_
  refine s_iconst 27 dX5_clear_26 rfl ?_
  refine s_putI 30 dX5_clear_27 rfl fl_X5_51 (fun _ => rfl) (fun _ => rfl) (fun _ _ _ _ => rfl) (isP_sh hP) (isP_lt hP) (by first | omega | exact bI_r _ | exact iI_r _) ?_
  refine s_aload_n 31 dX5_clear_30 rfl rfl ?_
  refine s_iconst 32 dX5_clear_31 rfl ?_
  refine s_putI 35 dX5_clear_32 rfl fl_X5_54 (fun _ => rfl) (fun _ => rfl) (fun _ _ _ _ => rfl) (isP_sh hP) (isP_lt hP) (by first | omega | exact bI_r _ | exact iI_r _) ?_
  refine s_aload_n 36 dX5_clear_35 rfl rfl ?_
  refine s_iconst 37 dX5_clear_36 rfl ?_
  refine s_putI 40 dX5_clear_37 rfl fl_X5_57 (fun _ => rfl) (fun _ => rfl) (fun _ _ _ _ => rfl) (isP_sh hP) (isP_lt hP) (by first | omega | exact bI_r _ | exact iI_r _) ?_
  refine s_aload_n 41 dX5_clear_40 rfl rfl ?_
  refine s_iconst 42 dX5_clear_41 rfl ?_
  refine s_putI 45 dX5_clear_42 rfl fl_X5_60 (fun _ => rfl) (fun _ => rfl) (fun _ _ _ _ => rfl) (isP_sh hP) (isP_lt hP) (by first | omega | exact bI_r _ | exact iI_r _) ?_
  refine s_aload_n 46 dX5_clear_45 rfl rfl ?_
  refine s_iconst 47 dX5_clear_46 rfl ?_
  refine s_putI 50 dX5_clear_47 rfl fl_X5_63 (fun _ => rfl) (fun _ => rfl) (fun _ _ _ _ => rfl) (isP_sh hP) (isP_lt hP) (by first | omega | exact bI_r _ | exact iI_r _) ?_
  refine s_aload_n 51 dX5_clear_50 rfl rfl ?_
  refine s_iconst 52 dX5_clear_51 rfl ?_
  refine s_putI 55 dX5_clear_52 rfl fl_X5_66 (fun _ => rfl) (fun _ => rfl) (fun _ _ _ _ => rfl) (isP_sh hP) (isP_lt hP) (by first | omega | exact bI_r _ | exact iI_r _) ?_
  refine s_aload_n 56 dX5_clear_55 rfl rfl ?_
  refine s_iconst 57 dX5_clear_56 rfl ?_
  refine s_putI 60 dX5_clear_57 rfl fl_X5_69 (fun _ => rfl) (fun _ => rfl) (fun _ _ _ _ => rfl) (isP_sh hP) (isP_lt hP) (by first | omega | exact bI_r _ | exact iI_r _) ?_
  refine s_aload_n 61 dX5_clear_60 rfl rfl ?_
  refine s_getR 64 dX5_clear_61 rfl fl_X5_26 (fun _ _ _ _ => rfl) (T_X5_ahead hT hP) (isP_sh hP) (isP_lt hP) ?_
  refine s_iconst 65 dX5_clear_64 rfl ?_
  refine s_callS0 (M' := M_J7_fill_53178) (as := [_, _]) 68 dX5_clear_65 rfl cw_X5_72 rfl rfl (Nat.le_of_ble_eq_true rfl) (Nat.le_of_ble_eq_true rfl) (Nat.le_of_ble_eq_true rfl) ⟨rfl, rfl, rfl⟩ ?_
  refine c_fill (shP_ahead hP) (ltP_ahead hP) (by decide) (by omega) ?_
  refine s_aload_n 69 dX5_clear_68 rfl rfl ?_
  refine s_getR 72 dX5_clear_69 rfl fl_X5_29 (fun _ _ _ _ => rfl) (T_X5_onsOfPart hT hP) (isP_sh hP) (isP_lt hP) ?_
  refine s_iconst 73 dX5_clear_72 rfl ?_
  refine s_callS0 (M' := M_J7_fill_53178) (as := [_, _]) 76 dX5_clear_73 rfl cw_X5_72 rfl rfl (Nat.le_of_ble_eq_true rfl) (Nat.le_of_ble_eq_true rfl) (Nat.le_of_ble_eq_true rfl) ⟨rfl, rfl, rfl⟩ ?_
  refine c_fill (shP_onsOfPart hP) (ltP_onsOfPart hP) (by decide) (by omega) ?_
  refine s_vret dX5_clear_76 rfl rfl ?_
  refine h _ (((((((((((((FrP.rf.st (by omega)).st (by omega)).st (by omega)).st (by omega)).st (by omega)).st (by omega)).st (by omega)).st (by omega)).st (by omega)).st (by omega)).st (by omega)).st (by omega)).fl (by omega) |>.fl (by omega)) ?_ ⟨⟨?_, ?_, ?_, ?_, ?_, ?_, ?_, ?_⟩, ⟨?_, ?_, ?_⟩, fun p a b => ?_, fun p a b => ?_, fun p a b => ?_, fun s a b => ?_, fun s a b => ?_, fun s a b => ?_⟩
  all_goals first | (rw [flI_n (by omega), flI_n (by omega)]; first | exact ups | (repeat (first | exact ups | rw [upn (by decide)]))) | (exfalso; omega) | skip
  · exact absurd (show p < 0 from b) (by omega)
  · exact absurd (show p < 0 from b) (by omega)
  · exact absurd (show p < 0 from b) (by omega)
  · exact absurd (show s < 0 from b) (by omega)
  · rw [flI_n (by omega), flI_k, if_pos (by omega)]
  · rw [flI_k, if_pos (by omega)]; rfl
/-- a part more -/
def PtX (r r' v : F1) : Prop := r' 4 = r 4 + 1 ∧ (r' (9 + r 4) = v 0 ∧ r' (37 + r 4) = v 1 ∧ r' (16 + r 4) = v 2 ∧ r' (23 + r 4) = v 3 ∧ r' (30 + r 4) = v 4) ∧ ∀ j, j < 173 → j ≠ 4 → j ≠ 9 + r 4 → j ≠ 16 + r 4 → j ≠ 23 + r 4 → j ≠ 30 + r 4 → j ≠ 37 + r 4 → r' j = r j
theorem sets_c {r r' : F1} (h7 : r' 7 = r 7) (hb : ∀ k, 0 ≤ k → k < r 7 → r' (54 + 7 * k + 6) = r (54 + 7 * k + 6)) (hp : ∀ k, 0 ≤ k → k < r 7 → r' (54 + 7 * k + 0) = r (54 + 7 * k + 0)) (hk : ∀ k, 0 ≤ k → k < r 7 → r' (9 + r (54 + 7 * k + 0)) = r (9 + r (54 + 7 * k + 0))) :
    setOf (behP r') (r' 7).toNat = setOf (behP r) (r 7).toNat ∧ setOf (pupP r') (r' 7).toNat = setOf (pupP r) (r 7).toNat ∧ setOf (dedP r') (r' 7).toNat = setOf (dedP r) (r 7).toNat ∧ ∀ p, setOf (fun k => r' (54 + 7 * k + 0) = p) (r' 7).toNat = setOf (fun k => r (54 + 7 * k + 0) = p) (r 7).toNat := by
  rw [h7]
  refine ⟨setOf_c (fun k a b => ?_), setOf_c (fun k a b => ?_), setOf_c (fun k a b => ?_), fun p => setOf_c (fun k a b => ?_)⟩
  · unfold behP; rw [hb k a (by omega)]
  · unfold pupP; rw [hb k a (by omega), hp k a (by omega), hk k a (by omega)]
  · unfold dedP; rw [hb k a (by omega), hp k a (by omega), hk k a (by omega)]
  · rw [hp k a (by omega)]
theorem PtX.pr {I J : MI} {P : Nat} {r r' v : F1} (hW : WFp r) (h6 : r 4 ≤ 6) (hR : PR I P r) (hX : PtX r r' v) (ho : ∀ c, c ≠ P + 2 + (r 4).toNat → c ≠ P → J c = I c) (h3 : J P 3 = r 4 + 1) (hf : ∀ k, k ≠ 3 → J P k = I P k)
    (h0 : J (P + 2 + (r 4).toNat) 0 = v 0 ∧ J (P + 2 + (r 4).toNat) 4 = v 1 ∧ J (P + 2 + (r 4).toNat) 1 = v 2 ∧ J (P + 2 + (r 4).toNat) 2 = v 3 ∧ J (P + 2 + (r 4).toNat) 3 = v 4) : PR J P r' := by
  have hd := hW.1
  unfold wHd at hd
  have hOn := hW.2.2.2.1
  obtain ⟨⟨a1, a2, a3, a4, a5, a6, a7, a8⟩, ⟨b1, b2, b3⟩, c1, c2, c3, c4, c5, c6⟩ := hR
  obtain ⟨x4, ⟨x0, x1, x2, x3, x5⟩, xe⟩ := hX
  have e : ∀ j, j < 173 → j ≠ 4 → (j < 9 ∨ 44 ≤ j) → r' j = r j := fun j j1 j2 j3 => xe j j1 j2 (by omega) (by omega) (by omega) (by omega) (by omega)
  have hp : ∀ p, 0 ≤ p → p < 7 → p ≠ r 4 → r' (9 + p) = r (9 + p) ∧ r' (16 + p) = r (16 + p) ∧ r' (23 + p) = r (23 + p) ∧ r' (30 + p) = r (30 + p) ∧ r' (37 + p) = r (37 + p) := fun p p1 p2 p3 => ⟨xe _ (by omega) (by omega) (by omega) (by omega) (by omega) (by omega) (by omega), xe _ (by omega) (by omega) (by omega) (by omega) (by omega) (by omega) (by omega), xe _ (by omega) (by omega) (by omega) (by omega) (by omega) (by omega) (by omega), xe _ (by omega) (by omega) (by omega) (by omega) (by omega) (by omega) (by omega), xe _ (by omega) (by omega) (by omega) (by omega) (by omega) (by omega) (by omega)⟩
  obtain ⟨s1, s2, s3, s4⟩ := sets_c (r := r) (r' := r') (e 7 (by omega) (by omega) (by omega)) (fun k k1 k2 => e _ (by omega) (by omega) (by omega)) (fun k k1 k2 => e _ (by omega) (by omega) (by omega)) (fun k k1 k2 => by
    have := hOn k k1 k2
    exact (hp _ this.1 (by omega) (by omega)).1)
  refine ⟨⟨?_, ?_, ?_, ?_, ?_, ?_, ?_, ?_⟩, ⟨?_, ?_, ?_⟩, fun p p1 p2 => ?_, fun k k1 k2 => ?_, fun w w1 w2 => ?_, fun s q1 q2 => ?_, fun s q1 q2 => ?_, fun p p1 p2 => ?_⟩
  · rw [hf _ (by decide), e 1 (by omega) (by omega) (by omega)]; exact a1
  · rw [hf _ (by decide), e 2 (by omega) (by omega) (by omega)]; exact a2
  · rw [hf _ (by decide), e 3 (by omega) (by omega) (by omega)]; exact a3
  · rw [h3, x4]
  · rw [hf _ (by decide), e 5 (by omega) (by omega) (by omega)]; exact a5
  · rw [hf _ (by decide), e 6 (by omega) (by omega) (by omega)]; exact a6
  · rw [hf _ (by decide), e 7 (by omega) (by omega) (by omega)]; exact a7
  · rw [hf _ (by decide), e 8 (by omega) (by omega) (by omega)]; exact a8
  · rw [hf _ (by decide), s1]; exact b1
  · rw [hf _ (by decide), s2]; exact b2
  · rw [hf _ (by decide), s3]; exact b3
  · by_cases z : p = r 4
    · subst z
      exact ⟨h0.1.trans x0.symm, h0.2.2.1.trans x2.symm, h0.2.2.2.1.trans x3.symm, h0.2.2.2.2.trans x5.symm, h0.2.1.trans x1.symm⟩
    · have g := c1 p p1 (by omega)
      obtain ⟨g1, g2, g3, g4, g5⟩ := hp p p1 (by omega) z
      unfold rowP
      rw [ho _ (by omega) (by omega), g1, g2, g3, g4, g5]
      exact g
  · rw [e 7 (by omega) (by omega) (by omega)] at k2
    have g := c2 k k1 k2
    unfold rowO
    rw [ho _ (by omega) (by omega), e (54 + 7 * k + 0) (by omega) (by omega) (by omega), e (54 + 7 * k + 1) (by omega) (by omega) (by omega), e (54 + 7 * k + 2) (by omega) (by omega) (by omega), e (54 + 7 * k + 3) (by omega) (by omega) (by omega), e (54 + 7 * k + 4) (by omega) (by omega) (by omega), e (54 + 7 * k + 5) (by omega) (by omega) (by omega), e (54 + 7 * k + 6) (by omega) (by omega) (by omega)]
    exact g
  · rw [e 8 (by omega) (by omega) (by omega)] at w2
    have g := c3 w w1 w2
    unfold rowS
    rw [ho _ (by omega) (by omega), e (152 + 3 * w + 0) (by omega) (by omega) (by omega), e (152 + 3 * w + 1) (by omega) (by omega) (by omega), e (152 + 3 * w + 2) (by omega) (by omega) (by omega)]
    exact g
  · rw [e 5 (by omega) (by omega) (by omega)] at q2
    rw [ho _ (by omega) (by omega), e _ (by omega) (by omega) (by omega)]; exact c4 s q1 q2
  · rw [ho _ (by omega) (by omega), e _ (by omega) (by omega) (by omega)]; exact c5 s q1 q2
  · rw [ho _ (by omega) (by omega), s4]; exact c6 p p1 p2
set_option maxHeartbeats 4000000 in
theorem c_X5_addPart {E : ET} {I : MI} {L : ML} {R : MR} {Q : Option AV → MI → ML → MR → Prop} {P : Nat} {r r' v : F1} (hT : Topo R) (hP : isP P) (hW : WFp r) (h6 : r 4 ≤ 6) (hR : PR I P r) (hv : I 78 = v) (hX : PtX r r' v) (h : ∀ I', FrP P I I' → PR I' P r' → Q none I' L R) : CT E M_X5_addPart 161 yX5_addPart [(vr (P)), (vr (78))] I L R Q := by
  refine CT_of rfl rfl (fun h => by cases h) (Nat.le_of_ble_eq_true rfl) (fun X => ?_)
  show V X _ z0 0 [some (vr (P)), some (vr (78)), none] [] I L R _
  have hp : P = 3 ∨ P = 39 := hP
  have hd := hW.1
  unfold wHd at hd
  have e3 := hR.1.2.2.2.1
  subst hv
  refine s_aload_n 1 dX5_addPart_0 rfl rfl ?_
  refine s_getR 4 dX5_addPart_1 rfl fl_X5_11 (fun _ _ _ _ => rfl) (T_X5_parts hT hP) (isP_sh hP) (isP_lt hP) ?_
  refine s_aload_n 5 dX5_addPart_4 rfl rfl ?_
  refine s_getI 8 dX5_addPart_5 rfl fl_X5_45 (fun _ _ _ _ => rfl) (isP_sh hP) (isP_lt hP) (fun r_5 => ?_)
  rw [e3]
  refine s_aald 9 dX5_addPart_8 rfl (shP_parts hP) (ltP_parts hP) (by omega) (by decide) (T_X5_parts_row hT hP (by omega)) ?_
  refine s_astore_n (ls' := [_, _, _]) 10 dX5_addPart_9 rfl (Nat.le_of_ble_eq_true rfl) rfl rfl ?_
  refine s_aload_n 11 dX5_addPart_10 rfl rfl ?_
  refine s_iconst 12 dX5_addPart_11 rfl ?_
  refine s_aload_n 13 dX5_addPart_12 rfl rfl ?_
  refine s_iconst 14 dX5_addPart_13 rfl ?_
  skip
  refine s_iald 15 dX5_addPart_14 rfl sh_78 (Nat.le_of_ble_eq_true rfl) (by omega) (by omega) (fun r_14 => ?_)
  refine s_iast 16 dX5_addPart_15 rfl (shP_parts_row hP (by omega)) (ltP_parts_row hP (by omega)) (by omega) (by omega) (by first | omega | exact bI_r _ | exact iI_r _) ?_
  refine s_aload_n 17 dX5_addPart_16 rfl rfl ?_
  refine s_iconst 18 dX5_addPart_17 rfl ?_
  refine s_aload_n 19 dX5_addPart_18 rfl rfl ?_
  refine s_iconst 20 dX5_addPart_19 rfl ?_
  refine s_iald 21 dX5_addPart_20 rfl sh_78 (Nat.le_of_ble_eq_true rfl) (by omega) (by omega) (fun r_20 => ?_)
  rw [up_ne (by omega)] at r_20 ⊢
  refine s_iast 22 dX5_addPart_21 rfl (shP_parts_row hP (by omega)) (ltP_parts_row hP (by omega)) (by omega) (by omega) (by first | omega | exact bI_r _ | exact iI_r _) ?_
  refine s_aload_n 23 dX5_addPart_22 rfl rfl ?_
  refine s_iconst 24 dX5_addPart_23 rfl ?_
  refine s_aload_n 25 dX5_addPart_24 rfl rfl ?_
  refine s_iconst 26 dX5_addPart_25 rfl ?_
  refine s_iald 27 dX5_addPart_26 rfl sh_78 (Nat.le_of_ble_eq_true rfl) (by omega) (by omega) (fun r_26 => ?_)
  rw [up_ne (by omega), up_ne (by omega)] at r_26 ⊢
  refine s_iast 28 dX5_addPart_27 rfl (shP_parts_row hP (by omega)) (ltP_parts_row hP (by omega)) (by omega) (by omega) (by first | omega | exact bI_r _ | exact iI_r _) ?_
  refine s_aload_n 29 dX5_addPart_28 rfl rfl ?_
  refine s_iconst 30 dX5_addPart_29 rfl ?_
  refine s_aload_n 31 dX5_addPart_30 rfl rfl ?_
  refine s_iconst 32 dX5_addPart_31 rfl ?_
  refine s_iald 33 dX5_addPart_32 rfl sh_78 (Nat.le_of_ble_eq_true rfl) (by omega) (by omega) (fun r_32 => ?_)
  rw [up_ne (by omega), up_ne (by omega), up_ne (by omega)] at r_32 ⊢
  refine s_iast 34 dX5_addPart_33 rfl (shP_parts_row hP (by omega)) (ltP_parts_row hP (by omega)) (by omega) (by omega) (by first | omega | exact bI_r _ | exact iI_r _) ?_
  refine s_aload_n 35 dX5_addPart_34 rfl rfl ?_
  refine s_iconst 36 dX5_addPart_35 rfl ?_
  refine s_aload_n 37 dX5_addPart_36 rfl rfl ?_
  refine s_iconst 38 dX5_addPart_37 rfl ?_
  refine s_iald 39 dX5_addPart_38 rfl sh_78 (Nat.le_of_ble_eq_true rfl) (by omega) (by omega) (fun r_38 => ?_)
  rw [up_ne (by omega), up_ne (by omega), up_ne (by omega), up_ne (by omega)] at r_38 ⊢
  refine s_iast 40 dX5_addPart_39 rfl (shP_parts_row hP (by omega)) (ltP_parts_row hP (by omega)) (by omega) (by omega) (by first | omega | exact bI_r _ | exact iI_r _) ?_
  refine s_aload_n 41 dX5_addPart_40 rfl rfl ?_
  refine s_dup 42 dX5_addPart_41 rfl rfl ?_
  refine s_getI 45 dX5_addPart_42 rfl fl_X5_45 (fun _ _ _ _ => rfl) (isP_sh hP) (isP_lt hP) (fun r_42 => ?_)
  rw [up_ne (by omega), up_ne (by omega), up_ne (by omega), up_ne (by omega), up_ne (by omega), e3]
  refine s_iconst 46 dX5_addPart_45 rfl ?_
  refine s_iadd 47 dX5_addPart_46 rfl ?_
  refine s_putI 50 dX5_addPart_47 rfl fl_X5_45 (fun _ => rfl) (fun _ => rfl) (fun _ _ _ _ => rfl) (isP_sh hP) (isP_lt hP) (by first | omega | exact bI_r _ | exact iI_r _) ?_
  refine s_vret dX5_addPart_50 rfl rfl ?_
  refine h _ ((((((FrP.rf.st (by omega)).st (by omega)).st (by omega)).st (by omega)).st (by omega)).st (by omega)) (hX.pr hW h6 hR (fun c c1 c2 => ?_) ups (fun k hk => ?_) ⟨?_, ?_, ?_, ?_, ?_⟩)
  · rw [up_ne c2, up_ne c1, up_ne c1, up_ne c1, up_ne c1, up_ne c1]
  · rw [upn hk, up_ne (by omega), up_ne (by omega), up_ne (by omega), up_ne (by omega), up_ne (by omega)]
  · rw [up_ne (by omega), upn (by decide), upn (by decide), upn (by decide), upn (by decide), ups]
  · rw [up_ne (by omega), upn (by decide), upn (by decide), upn (by decide), ups]
  · rw [up_ne (by omega), upn (by decide), upn (by decide), ups]
  · rw [up_ne (by omega), upn (by decide), ups]
  · rw [up_ne (by omega), ups]
