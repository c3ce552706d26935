/-! the class's Reader: words, names, numbers -/
theorem wR_eq : wS 0 = wS 28 ∧ wS 1 = wS 29 ∧ wS 2 = wS 30 ∧ wS 3 = wS 31 ∧ wS 4 = wS 32 ∧ wS 12 = wS 41 ∧ wS 13 = wS 38 ∧ wS 14 = wS 39 ∧ wS 15 = wS 40 ∧ wS 16 = wS 42 ∧ wS 17 = wS 43 ∧ wS 18 = wS 44 ∧ wS 19 = wS 33 ∧ wS 20 = wS 45 ∧ wS 21 = wS 34 ∧ wS 22 = wS 35 ∧ wS 23 = wS 46 ∧ wS 24 = wS 47 ∧ wS 25 = wS 48 ∧ wS 26 = wS 37 ∧ wS 27 = wS 36 := by decide +kernel
/-- the name of this number -/
def nmL (r : F1) (j : Int) : List Int := (List.range (r (173 + j)).toNat).map (fun k : Nat => r (185 + 8 * j + k))
theorem nmL_len {r : F1} {j : Int} : (nmL r j).length = (r (173 + j)).toNat := by simp [nmL]
theorem nmL_at {r : F1} {j k : Int} (h : 0 ≤ k ∧ k < r (173 + j)) : vL (nmL r j) k = r (185 + 8 * j + k) := vL_map (v := fun k => r (185 + 8 * j + k)) ⟨h.1, by omega⟩
theorem hasN_nm {r : F1} {w : List Int} {j : Int} (hw : 1 ≤ w.length) (h0 : 0 ≤ r (173 + j)) : hasN r w j ↔ nmL r j = w := by
  constructor
  · rintro ⟨a, b, c⟩
    exact vL_ext (n := w.length) (by rw [nmL_len]; omega) rfl (fun k k1 k2 => by rw [nmL_at ⟨k1, by omega⟩]; exact c k k1 k2)
  · intro e
    have l := nmL_len (r := r) (j := j)
    rw [e] at l
    refine ⟨by omega, by omega, fun k k1 k2 => ?_⟩
    rw [← e, nmL_at ⟨k1, by omega⟩]
def NmC (L : ML) (r : F1) : Prop := (∀ p, 0 ≤ p → p < r 4 → L 76 p = pkW (nmL r p)) ∧ ∀ s, 0 ≤ s → s < r 5 → L 77 s = pkW (nmL r (7 + s))
theorem nmL_ok {r : F1} (hW : WFp r) {j : Int} (hj : 0 ≤ j ∧ j < 12) : (nmL r j).length ≤ 8 ∧ ∀ k, 0 ≤ k → k < ((nmL r j).length : Int) → 97 ≤ vL (nmL r j) k ∧ vL (nmL r j) k ≤ 122 := by
  have h1 := hW.2.2.2.2.2.2.2.1 j hj.1 hj.2
  have h2 := hW.2.2.2.2.2.2.2.2.2.1 j
  have l := nmL_len (r := r) (j := j)
  refine ⟨by omega, fun k k1 k2 => ?_⟩
  rw [nmL_at ⟨k1, by omega⟩]
  exact h2 k hj.1 hj.2 k1 (by omega)
/-- reading goes on, the TOKEN at a at hand -/
def RdK (I : MI) (L : ML) (bt : F1) (n : Int) (P : Nat) (r : F1) (a : Int) : Prop := I 2 = bt ∧ PR I P r ∧ NmC L r ∧ I 75 6 = 0 ∧ TkC I L bt n a
def RdO (I : MI) (L : ML) (bt : F1) (n : Int) (P : Nat) (r : F1) (o : PO) : Prop := match o with
  | .inl q => I 2 = bt ∧ I 75 6 = q.1 ∧ I 75 7 = q.2
  | .inr a => RdK I L bt n P r a
def RdF (P : Nat) (I : MI) (L : ML) (I' : MI) (L' : ML) : Prop := (∀ c, c ≠ 75 → c ≠ 78 → c ≠ 79 → (c < P ∨ P + 35 < c) → I' c = I c) ∧ ∀ c, c ≠ 76 → c ≠ 77 → c ≠ 79 → L' c = L c
theorem RdF.rf {P : Nat} {I : MI} {L : ML} : RdF P I L I L := ⟨fun _ _ _ _ _ => rfl, fun _ _ _ _ => rfl⟩
theorem RdF.tr {P : Nat} {I I' I'' : MI} {L L' L'' : ML} (h : RdF P I L I' L') (h' : RdF P I' L' I'' L'') : RdF P I L I'' L'' := ⟨fun c a b d e => (h'.1 c a b d e).trans (h.1 c a b d e), fun c a b d => (h'.2 c a b d).trans (h.2 c a b d)⟩
theorem RdF.tm {P : Nat} {I I' : MI} {L L' : ML} (h : TmQ I L I' L') : RdF P I L I' L' := ⟨fun c _ _ d _ => h.1 c (by simpa using d), fun c _ _ d => h.2.2 c d⟩
theorem RdF.fs {P : Nat} {I I' : MI} {L L' : ML} (h : RdF P I L I' L') {c : Nat} {k v : Int} (hc : c = 75 ∨ c = 78 ∨ c = 79) : RdF P I L (up I' c k v) L' := ⟨fun a x y z w => by rw [up_ne (by omega)]; exact h.1 a x y z w, h.2⟩
theorem RdF.fp {P : Nat} {I I' I'' : MI} {L L' : ML} (h : RdF P I L I' L') (hf : FrP P I' I'') : RdF P I L I'' L' := ⟨fun a x y z w => (hf a w).trans (h.1 a x y z w), h.2⟩
/-- values told so far -/
def VC (I : MI) (m : Int) (v : F1) : Prop := I 75 4 = m ∧ ∀ j, 0 ≤ j → j < m → I 78 j = v j
theorem VC.c {I I' : MI} {m : Int} {v : F1} (h : VC I m v) (e1 : I' 75 4 = I 75 4) (e2 : I' 78 = I 78) : VC I' m v := ⟨e1.trans h.1, fun j a b => by rw [e2]; exact h.2 j a b⟩
theorem TkC.c {I I' : MI} {L L' : ML} {bt : F1} {n a : Int} (h : TkC I L bt n a) (e : I' 79 = I 79) (e2 : L' 79 = L 79) : TkC I' L' bt n a := by
  unfold TkC at h ⊢
  rw [e, e2]
  exact h
theorem PR.cr {P : Nat} (hP : isP P) {I I' : MI} {r : F1} (hW : WFp r) (h : PR I P r) (e : ∀ c, c ≠ 75 → c ≠ 78 → c ≠ 79 → I' c = I c) : PR I' P r := by
  have hp : P = 3 ∨ P = 39 := hP
  have hd := hW.1
  unfold wHd at hd
  exact h.c (by omega) (fun c a b => e c (by omega) (by omega) (by omega))
set_option maxHeartbeats 4000000 in
theorem c_X6_fail {E : ET} {I : MI} {L : ML} {R : MR} {Q : Option AV → MI → ML → MR → Prop} {num a : Int} (hT : Topo R) (ha : I 79 4 = a) (hn : 0 ≤ num ∧ num ≤ 9) (h : Q (some (vi 0)) (up (up I 75 6 num) 75 7 a) L R) : CT E M_X6_fail 161 yX6_fail [(vr (75)), (vi (num))] I L R Q := by
  refine CT_of rfl rfl (fun h => by cases h) (Nat.le_of_ble_eq_true rfl) (fun X => ?_)
  show V X _ z0 0 [some (vr (75)), some (vi (num))] [] I L R _
  subst ha
  refine s_aload_n 1 dX6_fail_0 rfl rfl ?_
  refine s_iload_n 2 dX6_fail_1 rfl rfl ?_
  refine s_putI 5 dX6_fail_2 rfl fl_X6_40 (fun _ => rfl) (fun _ => rfl) (fun _ _ _ _ => rfl) sh_75 (Nat.le_of_ble_eq_true rfl) (by first | omega | exact bI_r _ | exact iI_r _) ?_
  refine s_aload_n 6 dX6_fail_5 rfl rfl ?_
  refine s_aload_n 7 dX6_fail_6 rfl rfl ?_
  refine s_getR 10 dX6_fail_7 rfl fl_X6_27 (fun _ _ _ _ => rfl) (T_X6_tokens hT) sh_75 (Nat.le_of_ble_eq_true rfl) ?_
  refine s_getI 13 dX6_fail_10 rfl fl_X6_77 (fun _ _ _ _ => rfl) sh_79 (Nat.le_of_ble_eq_true rfl) (fun r_10 => ?_)
  refine s_putI 16 dX6_fail_13 rfl fl_X6_44 (fun _ => rfl) (fun _ => rfl) (fun _ _ _ _ => rfl) sh_75 (Nat.le_of_ble_eq_true rfl) (by first | omega | exact bI_r _ | exact iI_r _) ?_
  refine s_iconst 17 dX6_fail_16 rfl ?_
  refine s_zret dX6_fail_17 rfl (by first | omega | exact bI_b _) rfl ?_
  rw [show up I 75 6 num 79 4 = I 79 4 from congrFun (up_ne (by decide)) 4]; exact h
theorem RdO.fl {I : MI} {L : ML} {bt r : F1} {n : Int} {P : Nat} {num a : Int} (h : I 2 = bt) : RdO (up (up I 75 6 num) 75 7 a) L bt n P r (.inl (num, a)) := ⟨by rw [up_ne (by decide), up_ne (by decide)]; exact h, by rw [upn (by decide), ups], ups⟩
set_option maxHeartbeats 4000000 in
theorem c_X6_tell {E : ET} {I : MI} {L : ML} {R : MR} {Q : Option AV → MI → ML → MR → Prop} {m v : Int} (hT : Topo R) (hm : I 75 4 = m) (h8 : 0 ≤ m ∧ m < 8) (hv : -2147483648 ≤ v ∧ v ≤ 2147483647) (h : Q (some (vi 1)) (up (up I 78 m v) 75 4 (m + 1)) L R) : CT E M_X6_tell 161 yX6_tell [(vr (75)), (vi (v))] I L R Q := by
  refine CT_of rfl rfl (fun h => by cases h) (Nat.le_of_ble_eq_true rfl) (fun X => ?_)
  show V X _ z0 0 [some (vr (75)), some (vi (v))] [] I L R _
  subst hm
  refine s_aload_n 1 dX6_tell_0 rfl rfl ?_
  skip
  refine s_getI 4 dX6_tell_1 rfl fl_X6_78 (fun _ _ _ _ => rfl) sh_75 (Nat.le_of_ble_eq_true rfl) (fun r_1 => ?_)
  refine s_bipush 6 dX6_tell_4 rfl (by decide) ?_
  refine s_icmp_ge 29 9 dX6_tell_6 rfl rfl (by first | omega | exact bI_r _ | exact iI_r _) (by first | omega | exact bI_r _ | exact iI_r _) (fun h_6 => by exfalso; omega) (fun h_6 => ?_)
  refine s_aload_n 10 dX6_tell_9 rfl rfl ?_
  refine s_getR 13 dX6_tell_10 rfl fl_X6_18 (fun _ _ _ _ => rfl) (T_X6_values hT) sh_75 (Nat.le_of_ble_eq_true rfl) ?_
  refine s_aload_n 14 dX6_tell_13 rfl rfl ?_
  refine s_getI 17 dX6_tell_14 rfl fl_X6_78 (fun _ _ _ _ => rfl) sh_75 (Nat.le_of_ble_eq_true rfl) (fun r_14 => ?_)
  refine s_iload_n 18 dX6_tell_17 rfl rfl ?_
  refine s_iast 19 dX6_tell_18 rfl sh_78 (Nat.le_of_ble_eq_true rfl) (by omega) (by omega) (by first | omega | exact bI_r _ | exact iI_r _) ?_
  refine s_aload_n 20 dX6_tell_19 rfl rfl ?_
  refine s_dup 21 dX6_tell_20 rfl rfl ?_
  refine s_getI 24 dX6_tell_21 rfl fl_X6_78 (fun _ _ _ _ => rfl) sh_75 (Nat.le_of_ble_eq_true rfl) (fun r_21 => ?_)
  rw [up_ne (by decide)]
  refine s_iconst 25 dX6_tell_24 rfl ?_
  refine s_iadd 26 dX6_tell_25 rfl ?_
  refine s_putI 29 dX6_tell_26 rfl fl_X6_78 (fun _ => rfl) (fun _ => rfl) (fun _ _ _ _ => rfl) sh_75 (Nat.le_of_ble_eq_true rfl) (by first | omega | exact bI_r _ | exact iI_r _) ?_
  refine s_iconst 30 dX6_tell_29 rfl ?_
  refine s_zret dX6_tell_30 rfl (by first | omega | exact bI_b _) rfl ?_
  exact h
theorem VC.tl {I : MI} {m x : Int} {v : F1} (h : VC I m v) : VC (up (up I 78 m x) 75 4 (m + 1)) (m + 1) (fun j => if j = m then x else v j) := by
  refine ⟨ups, fun j a b => ?_⟩
  rw [up_ne (by decide), upd9]
  by_cases e : j = m
  · simp only [if_pos e]
  · simp only [if_neg e]; exact h.2 j a (by omega)
/-- the tokens' state after a move, for what goes on -/
theorem RdK.mv {P : Nat} (hP : isP P) {I I' : MI} {L L' : ML} {bt r : F1} {n a b : Int} (hW : WFp r) (h : RdK I L bt n P r a) (h1 : TmQ I L I' L') (h2 : TkC I' L' bt n b) : RdK I' L' bt n P r b := by
  obtain ⟨a1, a2, a3, a4, a5⟩ := h
  have e : ∀ c, c ≠ 79 → I' c = I c := fun c hc => h1.1 c (by simpa using hc)
  refine ⟨by rw [e 2 (by decide)]; exact a1, a2.cr hP hW (fun c _ _ z => e c z), ?_, by rw [e 75 (by decide)]; exact a4, h2⟩
  unfold NmC
  rw [h1.2.2 76 (by decide), h1.2.2 77 (by decide)]
  exact a3
theorem RdK.tl {P : Nat} (hP : isP P) {I : MI} {L : ML} {bt r : F1} {n a m x : Int} (hW : WFp r) (h : RdK I L bt n P r a) : RdK (up (up I 78 m x) 75 4 (m + 1)) L bt n P r a := by
  obtain ⟨a1, a2, a3, a4, a5⟩ := h
  exact ⟨by rw [up_ne (by decide), up_ne (by decide)]; exact a1, a2.cr hP hW (fun c c1 c2 c3 => by rw [up_ne c1, up_ne c2]), a3, by rw [upn (by decide), up_ne (by decide)]; exact a4, a5.c (by rw [up_ne (by decide), up_ne (by decide)]) rfl⟩
theorem isE_l {q : Int × Int} : bI (¬ isE (.inl q)) = 0 := bI_f (fun z => z trivial)
theorem isE_r {a : Int} : bI (¬ isE (.inr a)) = 1 := bI_t id
set_option maxHeartbeats 4000000 in
theorem c_X6_word {E : ET} {I : MI} {L : ML} {R : MR} {Q : Option AV → MI → ML → MR → Prop} {bt r : F1} {n a m : Int} {v : F1} {P : Nat} {k : Nat} {q9 : ST0} {w : List Int} {o : PO} (hT : Topo R) (hP : isP P) (hn : 0 ≤ n ∧ n ≤ 900) (hb : ∀ k, 0 ≤ bt k ∧ bt k ≤ 255) (hk : STRS[k]? = some q9) (ew : wS k = w) (hW : WFp r) (hS : RdK I L bt n P r a) (hV : VC I m v) (eo : muW bt n w (.inr a) = o) (h : ∀ I' L', RdF P I L I' L' → RdO I' L' bt n P r o → (¬ isE o → VC I' m v) → Q (some (vi (bI (¬ isE o)))) I' L' R) : CT E M_X6_word 161 yX6_word [(vr (75)), (vq 0 (k))] I L R Q := by
  refine CT_of rfl rfl (fun h => by cases h) (Nat.le_of_ble_eq_true rfl) (fun X => ?_)
  show V X _ z0 0 [some (vr (75)), some (vq 0 (k))] [] I L R _
  subst ew
  subst eo
  by_cases z : isW bt n (wS k) (.inr a)
  · rw [muW_t z, isE_r] at h
    refine s_aload_n 1 dX6_word_0 rfl rfl ?_
    refine s_getR 4 dX6_word_1 rfl fl_X6_27 (fun _ _ _ _ => rfl) (T_X6_tokens hT) sh_75 (Nat.le_of_ble_eq_true rfl) ?_
    refine s_aloadq_n 5 dX6_word_4 rfl rfl ?_
    refine s_callV0 (M' := M_X10_isWord) (as := [_]) 8 dX6_word_5 rfl cw_X6_82 rfl rfl sh_79 rfl (by decide) (Nat.le_of_ble_eq_true rfl) (Nat.le_of_ble_eq_true rfl) (Nat.le_of_ble_eq_true rfl) (Nat.le_of_ble_eq_true rfl) ⟨rfl, rfl, rfl⟩ ?_
    refine c_X10_isWord hT hk hS.2.2.2.2 ?_
    refine s_ifb_ne 17 11 dX6_word_8 rfl rfl (fun h_8 => ?_) (fun h_8 => by exfalso; exact absurd z h_8)
    refine s_aload_n 18 dX6_word_17 rfl rfl ?_
    refine s_getR 21 dX6_word_18 rfl fl_X6_27 (fun _ _ _ _ => rfl) (T_X6_tokens hT) sh_75 (Nat.le_of_ble_eq_true rfl) ?_
    refine s_callV0 (M' := M_X10_move) (as := []) 24 dX6_word_21 rfl cw_X6_58 rfl rfl sh_79 rfl (by decide) (Nat.le_of_ble_eq_true rfl) (Nat.le_of_ble_eq_true rfl) (Nat.le_of_ble_eq_true rfl) (Nat.le_of_ble_eq_true rfl) ⟨rfl, rfl, rfl⟩ ?_
    refine c_X10_move2 hT hS.1 hn hb hS.2.2.2.2 (fun I1 L1 g1 g2 => ?_)
    refine s_iconst 25 dX6_word_24 rfl ?_
    refine s_zret dX6_word_25 rfl (by first | omega | exact bI_b _) rfl ?_
    exact h I1 L1 (RdF.tm g1) (hS.mv hP hW g1 g2) (fun _ => hV.c (by rw [g1.1 75 (by decide)]) (g1.1 78 (by decide)))
  · rw [muW_f z, isE_l] at h
    refine s_aload_n 1 dX6_word_0 rfl rfl ?_
    refine s_getR 4 dX6_word_1 rfl fl_X6_27 (fun _ _ _ _ => rfl) (T_X6_tokens hT) sh_75 (Nat.le_of_ble_eq_true rfl) ?_
    refine s_aloadq_n 5 dX6_word_4 rfl rfl ?_
    refine s_callV0 (M' := M_X10_isWord) (as := [_]) 8 dX6_word_5 rfl cw_X6_82 rfl rfl sh_79 rfl (by decide) (Nat.le_of_ble_eq_true rfl) (Nat.le_of_ble_eq_true rfl) (Nat.le_of_ble_eq_true rfl) (Nat.le_of_ble_eq_true rfl) ⟨rfl, rfl, rfl⟩ ?_
    refine c_X10_isWord hT hk hS.2.2.2.2 ?_
    refine s_ifb_ne 17 11 dX6_word_8 rfl rfl (fun h_8 => by exfalso; exact absurd h_8 z) (fun h_8 => ?_)
    refine s_aload_n 12 dX6_word_11 rfl rfl ?_
    refine s_iconst 13 dX6_word_12 rfl ?_
    refine s_callV0 (M' := M_X6_fail) (as := [_]) 16 dX6_word_13 rfl cw_X6_64 rfl rfl sh_75 rfl (by decide) (Nat.le_of_ble_eq_true rfl) (Nat.le_of_ble_eq_true rfl) (Nat.le_of_ble_eq_true rfl) (Nat.le_of_ble_eq_true rfl) ⟨rfl, rfl, rfl⟩ ?_
    refine c_X6_fail hT hS.2.2.2.2.2.2.1 (by decide) ?_
    refine s_zret dX6_word_16 rfl (by first | omega | exact bI_b _) rfl ?_
    exact h _ _ ((RdF.rf.fs (by decide)).fs (by decide)) (RdO.fl hS.1) (fun y => absurd trivial y)
set_option maxHeartbeats 4000000 in
theorem c_X6_whole {E : ET} {I : MI} {L : ML} {R : MR} {Q : Option AV → MI → ML → MR → Prop} {bt r : F1} {n a m lo hi x : Int} {v : F1} {P : Nat} {o : PO} (hT : Topo R) (hP : isP P) (hn : 0 ≤ n ∧ n ≤ 900) (hb : ∀ k, 0 ≤ bt k ∧ bt k ≤ 255) (hlo : -1000 ≤ lo ∧ lo ≤ 1000) (hhi : -1000 ≤ hi ∧ hi ≤ 1000) (hm : 0 ≤ m ∧ m < 8) (hW : WFp r) (hS : RdK I L bt n P r a) (hV : VC I m v) (eo : nuO bt n lo hi (.inr a) = o) (ex : nuV bt n lo hi (.inr a) = x) (h : ∀ I' L', RdF P I L I' L' → RdO I' L' bt n P r o → (¬ isE o → VC I' (m + 1) (fun j => if j = m then x else v j)) → Q (some (vi (bI (¬ isE o)))) I' L' R) : CT E M_X6_whole 161 yX6_whole [(vr (75)), (vi (lo)), (vi (hi))] I L R Q := by
  refine CT_of rfl rfl (fun h => by cases h) (Nat.le_of_ble_eq_true rfl) (fun X => ?_)
  show V X _ z0 0 [some (vr (75)), some (vi (lo)), some (vi (hi)), none] [] I L R _
  subst ex
  subst eo
  have s5 := hS.2.2.2.2.2.2.2.2.1
  by_cases ht : tkE bt n a = 3
  · have e6 := hS.2.2.2.2.2.2.2.2.2.2 ht
    by_cases hf : lo ≤ nuE bt n a ∧ nuE bt n a ≤ hi
    · have eo : nuO bt n lo hi (.inr a) = .inr (nxE bt n a) := (pick_t ht).trans (pick_t hf)
      have ev : nuV bt n lo hi (.inr a) = nuE bt n a := pick_t ⟨ht, hf⟩
      rw [eo, ev, isE_r] at h
      refine s_aload_n 1 dX6_whole_0 rfl rfl ?_
      refine s_getR 4 dX6_whole_1 rfl fl_X6_27 (fun _ _ _ _ => rfl) (T_X6_tokens hT) sh_75 (Nat.le_of_ble_eq_true rfl) ?_
      refine s_getI 7 dX6_whole_4 rfl fl_X6_55 (fun _ _ _ _ => rfl) sh_79 (Nat.le_of_ble_eq_true rfl) (fun r_4 => ?_)
      rw [s5, ht]
      refine s_iconst 8 dX6_whole_7 rfl ?_
      refine s_icmp_eq 17 11 dX6_whole_8 rfl rfl (by decide) (by decide) (fun h_8 => ?_) (fun h_8 => by exfalso; exact absurd rfl h_8)
      refine s_aload_n 18 dX6_whole_17 rfl rfl ?_
      refine s_getR 21 dX6_whole_18 rfl fl_X6_27 (fun _ _ _ _ => rfl) (T_X6_tokens hT) sh_75 (Nat.le_of_ble_eq_true rfl) ?_
      refine s_getI 24 dX6_whole_21 rfl fl_X6_211 (fun _ _ _ _ => rfl) sh_79 (Nat.le_of_ble_eq_true rfl) (fun r_21 => ?_)
      rw [e6]
      refine s_istore_n (ls' := [_, _, _, _]) 25 dX6_whole_24 rfl (Nat.le_of_ble_eq_true rfl) rfl rfl ?_
      refine s_iload_n 26 dX6_whole_25 rfl rfl ?_
      refine s_iload_n 27 dX6_whole_26 rfl rfl ?_
      refine s_icmp_lt 35 30 dX6_whole_27 rfl rfl (by first | omega | exact bI_r _ | exact iI_r _) (by first | omega | exact bI_r _ | exact iI_r _) (fun h_27 => by exfalso; omega) (fun h_27 => ?_)
      refine s_iload_n 31 dX6_whole_30 rfl rfl ?_
      refine s_iload_n 32 dX6_whole_31 rfl rfl ?_
      refine s_icmp_le 41 35 dX6_whole_32 rfl rfl (by first | omega | exact bI_r _ | exact iI_r _) (by first | omega | exact bI_r _ | exact iI_r _) (fun h_32 => ?_) (fun h_32 => by exfalso; omega)
      refine s_aload_n 42 dX6_whole_41 rfl rfl ?_
      refine s_getR 45 dX6_whole_42 rfl fl_X6_27 (fun _ _ _ _ => rfl) (T_X6_tokens hT) sh_75 (Nat.le_of_ble_eq_true rfl) ?_
      refine s_callV0 (M' := M_X10_move) (as := []) 48 dX6_whole_45 rfl cw_X6_58 rfl rfl sh_79 rfl (by decide) (Nat.le_of_ble_eq_true rfl) (Nat.le_of_ble_eq_true rfl) (Nat.le_of_ble_eq_true rfl) (Nat.le_of_ble_eq_true rfl) ⟨rfl, rfl, rfl⟩ ?_
      refine c_X10_move2 hT hS.1 hn hb hS.2.2.2.2 (fun I1 L1 g1 g2 => ?_)
      have hV1 : VC I1 m v := hV.c (by rw [g1.1 75 (by decide)]) (g1.1 78 (by decide))
      refine s_aload_n 49 dX6_whole_48 rfl rfl ?_
      refine s_iload_n 50 dX6_whole_49 rfl rfl ?_
      refine s_callV0 (M' := M_X6_tell) (as := [_]) 53 dX6_whole_50 rfl cw_X6_151 rfl rfl sh_75 rfl (by decide) (Nat.le_of_ble_eq_true rfl) (Nat.le_of_ble_eq_true rfl) (Nat.le_of_ble_eq_true rfl) (Nat.le_of_ble_eq_true rfl) ⟨rfl, rfl, rfl⟩ ?_
      refine c_X6_tell hT hV1.1 hm (by omega) ?_
      refine s_zret dX6_whole_53 rfl (by first | omega | exact bI_b _) rfl ?_
      exact h _ _ (((RdF.tm g1).fs (by decide)).fs (by decide)) ((hS.mv hP hW g1 g2).tl hP hW) (fun _ => hV1.tl)
    · have eo : nuO bt n lo hi (.inr a) = .inl (4, a) := (pick_t ht).trans (pick_f hf)
      rw [eo, isE_l] at h
      refine s_aload_n 1 dX6_whole_0 rfl rfl ?_
      refine s_getR 4 dX6_whole_1 rfl fl_X6_27 (fun _ _ _ _ => rfl) (T_X6_tokens hT) sh_75 (Nat.le_of_ble_eq_true rfl) ?_
      refine s_getI 7 dX6_whole_4 rfl fl_X6_55 (fun _ _ _ _ => rfl) sh_79 (Nat.le_of_ble_eq_true rfl) (fun r_4 => ?_)
      rw [s5, ht]
      refine s_iconst 8 dX6_whole_7 rfl ?_
      refine s_icmp_eq 17 11 dX6_whole_8 rfl rfl (by decide) (by decide) (fun h_8 => ?_) (fun h_8 => by exfalso; exact absurd rfl h_8)
      refine s_aload_n 18 dX6_whole_17 rfl rfl ?_
      refine s_getR 21 dX6_whole_18 rfl fl_X6_27 (fun _ _ _ _ => rfl) (T_X6_tokens hT) sh_75 (Nat.le_of_ble_eq_true rfl) ?_
      refine s_getI 24 dX6_whole_21 rfl fl_X6_211 (fun _ _ _ _ => rfl) sh_79 (Nat.le_of_ble_eq_true rfl) (fun r_21 => ?_)
      rw [e6] at r_21 ⊢
      refine s_istore_n (ls' := [_, _, _, _]) 25 dX6_whole_24 rfl (Nat.le_of_ble_eq_true rfl) rfl rfl ?_
      refine s_iload_n 26 dX6_whole_25 rfl rfl ?_
      refine s_iload_n 27 dX6_whole_26 rfl rfl ?_
      refine s_icmp_lt 35 30 dX6_whole_27 rfl rfl (by first | omega | exact bI_r _ | exact iI_r _) (by first | omega | exact bI_r _ | exact iI_r _) (fun h_27 => ?_) (fun h_27 => ?_)
      · skip
        refine s_aload_n 36 dX6_whole_35 rfl rfl ?_
        refine s_iconst 37 dX6_whole_36 rfl ?_
        refine s_callV0 (M' := M_X6_fail) (as := [_]) 40 dX6_whole_37 rfl cw_X6_64 rfl rfl sh_75 rfl (by decide) (Nat.le_of_ble_eq_true rfl) (Nat.le_of_ble_eq_true rfl) (Nat.le_of_ble_eq_true rfl) (Nat.le_of_ble_eq_true rfl) ⟨rfl, rfl, rfl⟩ ?_
        refine c_X6_fail hT hS.2.2.2.2.2.2.1 (by decide) ?_
        refine s_zret dX6_whole_40 rfl (by first | omega | exact bI_b _) rfl ?_
        exact h _ _ ((RdF.rf.fs (by decide)).fs (by decide)) (RdO.fl hS.1) (fun y => absurd trivial y)
      refine s_iload_n 31 dX6_whole_30 rfl rfl ?_
      refine s_iload_n 32 dX6_whole_31 rfl rfl ?_
      refine s_icmp_le 41 35 dX6_whole_32 rfl rfl (by first | omega | exact bI_r _ | exact iI_r _) (by first | omega | exact bI_r _ | exact iI_r _) (fun h_32 => by exfalso; omega) (fun h_32 => ?_)
      refine s_aload_n 36 dX6_whole_35 rfl rfl ?_
      refine s_iconst 37 dX6_whole_36 rfl ?_
      refine s_callV0 (M' := M_X6_fail) (as := [_]) 40 dX6_whole_37 rfl cw_X6_64 rfl rfl sh_75 rfl (by decide) (Nat.le_of_ble_eq_true rfl) (Nat.le_of_ble_eq_true rfl) (Nat.le_of_ble_eq_true rfl) (Nat.le_of_ble_eq_true rfl) ⟨rfl, rfl, rfl⟩ ?_
      refine c_X6_fail hT hS.2.2.2.2.2.2.1 (by decide) ?_
      refine s_zret dX6_whole_40 rfl (by first | omega | exact bI_b _) rfl ?_
      exact h _ _ ((RdF.rf.fs (by decide)).fs (by decide)) (RdO.fl hS.1) (fun y => absurd trivial y)
  · have eo : nuO bt n lo hi (.inr a) = .inl (1, a) := pick_f ht
    rw [eo, isE_l] at h
    refine s_aload_n 1 dX6_whole_0 rfl rfl ?_
    refine s_getR 4 dX6_whole_1 rfl fl_X6_27 (fun _ _ _ _ => rfl) (T_X6_tokens hT) sh_75 (Nat.le_of_ble_eq_true rfl) ?_
    refine s_getI 7 dX6_whole_4 rfl fl_X6_55 (fun _ _ _ _ => rfl) sh_79 (Nat.le_of_ble_eq_true rfl) (fun r_4 => ?_)
    rw [s5]
    refine s_iconst 8 dX6_whole_7 rfl ?_
    refine s_icmp_eq 17 11 dX6_whole_8 rfl rfl (by first | omega | (unfold clS; omega)) (by first | omega | (unfold clS; omega)) (fun h_8 => by exfalso; exact ht ((clS_i (u := 3) (by omega)).mp (by rw [h_8]; rfl))) (fun h_8 => ?_)
    refine s_aload_n 12 dX6_whole_11 rfl rfl ?_
    refine s_iconst 13 dX6_whole_12 rfl ?_
    refine s_callV0 (M' := M_X6_fail) (as := [_]) 16 dX6_whole_13 rfl cw_X6_64 rfl rfl sh_75 rfl (by decide) (Nat.le_of_ble_eq_true rfl) (Nat.le_of_ble_eq_true rfl) (Nat.le_of_ble_eq_true rfl) (Nat.le_of_ble_eq_true rfl) ⟨rfl, rfl, rfl⟩ ?_
    refine c_X6_fail hT hS.2.2.2.2.2.2.1 (by decide) ?_
    refine s_zret dX6_whole_16 rfl (by first | omega | exact bI_b _) rfl ?_
    exact h _ _ ((RdF.rf.fs (by decide)).fs (by decide)) (RdO.fl hS.1) (fun y => absurd trivial y)
