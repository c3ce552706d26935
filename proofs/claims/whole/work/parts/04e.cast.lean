/-! who CAN, of the same times; all sets of parts; CASTS one after the other -/
theorem BodAt_c {r q q' : F1} {S S' : Int → Prop} (hr : WFr r) (hq : Perm (r 7) q) (e : ∀ i, 0 ≤ i → i < r 7 → q' i = q i) (hS : ∀ k, 0 ≤ k → k < r 7 → (S k ↔ S' k)) {i : Int} (hi : 0 ≤ i ∧ i < r 7) : BodAt r q' S' i ↔ BodAt r q S i := by
  have h1 := hq.1 i hi.1 hi.2
  unfold BodAt
  rw [e i hi.1 hi.2]
  constructor
  · rintro ⟨a, b, c, d⟩
    refine ⟨(hS _ h1.1 h1.2).mpr a, b, c, fun z j j1 j2 j3 j4 => ?_⟩
    have hj := hq.1 j j1 (by omega)
    have := d z j j1 j2 (by rw [e j j1 (by omega)]; exact (hS _ hj.1 hj.2).mp j3) (by rw [e j j1 (by omega)]; exact j4)
    rw [e j j1 (by omega)] at this
    exact this
  · rintro ⟨a, b, c, d⟩
    refine ⟨(hS _ h1.1 h1.2).mp a, b, c, fun z j j1 j2 j3 j4 => ?_⟩
    have hj := hq.1 j j1 (by omega)
    rw [e j j1 (by omega)] at j3 j4 ⊢
    exact d z j j1 j2 ((hS _ hj.1 hj.2).mpr j3) j4
theorem Bod_c {r q q' : F1} {S S' : Int → Prop} (hr : WFr r) (hq : Perm (r 7) q) (e : ∀ i, 0 ≤ i → i < r 7 → q' i = q i) (hS : ∀ k, 0 ≤ k → k < r 7 → (S k ↔ S' k)) {k : Int} : Bod r q' S' k ↔ Bod r q S k := by
  constructor
  · rintro ⟨i, a, b, c, d⟩
    exact ⟨i, a, b, by rw [← e i a b]; exact c, (BodAt_c hr hq e hS ⟨a, b⟩).mp d⟩
  · rintro ⟨i, a, b, c, d⟩
    exact ⟨i, a, b, by rw [e i a b]; exact c, (BodAt_c hr hq e hS ⟨a, b⟩).mpr d⟩
theorem Can_c {r b b' c c' q q' : F1} {rd : Int} {S S' : Int → Prop} (hr : WFr r) (hq : Perm (r 7) q) (eb : ∀ k, 0 ≤ k → k < r 7 → b' k = b k ∧ c' k = c k) (e : ∀ i, 0 ≤ i → i < r 7 → q' i = q i) (hS : ∀ k, 0 ≤ k → k < r 7 → (S k ↔ S' k)) : Can r rd b' c' q' S' ↔ Can r rd b c q S := by
  have hB : ∀ k, Bod r q' S' k ↔ Bod r q S k := fun k => Bod_c hr hq e hS
  have hM : ∀ A B : Int → Prop, MeetS b' c' (r 7) A B ↔ MeetS b c (r 7) A B := by
    intro A B
    constructor
    · rintro ⟨k, l, h1, h2, h3, h4, h5, h6, h7, h8⟩
      refine ⟨k, l, h1, h2, h3, h4, h5, h6, h7, ?_⟩
      unfold meetP at h8 ⊢
      rw [(eb k h1 h2).1, (eb k h1 h2).2, (eb l h3 h4).1, (eb l h3 h4).2] at h8
      exact h8
    · rintro ⟨k, l, h1, h2, h3, h4, h5, h6, h7, h8⟩
      refine ⟨k, l, h1, h2, h3, h4, h5, h6, h7, ?_⟩
      unfold meetP at h8 ⊢
      rw [(eb k h1 h2).1, (eb k h1 h2).2, (eb l h3 h4).1, (eb l h3 h4).2]
      exact h8
  unfold Can
  rw [hM, hM, hM]
  have m1 := MeetS_c (b := b) (c := c) (n := r 7) (A := fun k => S' k ∧ behP r k) (A' := fun k => S k ∧ behP r k) (B := fun k => (S' k ∧ behP r k) ∨ Bod r q' S' k) (B' := fun k => (S k ∧ behP r k) ∨ Bod r q S k) (fun k h1 h2 => by rw [hS k h1 h2]) (fun k h1 h2 => by rw [hS k h1 h2, hB k])
  have m2 := MeetS_c (b := b) (c := c) (n := r 7) (A := fun k => S' k ∧ pupP r k) (A' := fun k => S k ∧ pupP r k) (B := fun k => S' k ∧ pupP r k) (B' := fun k => S k ∧ pupP r k) (fun k h1 h2 => by rw [hS k h1 h2]) (fun k h1 h2 => by rw [hS k h1 h2])
  have m3 := MeetS_c (b := b) (c := c) (n := r 7) (A := Bod r q' S') (A' := Bod r q S) (B := Bod r q' S') (B' := Bod r q S) (fun k h1 h2 => hB k) (fun k h1 h2 => hB k)
  rw [m1, m2, m3]
  have hC : Chain r rd b' c' q' S' ↔ Chain r rd b c q S := by
    constructor
    · intro h i j h1 h2 h3 h4 h5 h6
      have qi := hq.1 i h1 (by omega)
      have qj := hq.1 j (by omega) h3
      have := h i j h1 h2 h3 ((BodAt_c hr hq e hS ⟨h1, by omega⟩).mpr h4) ((BodAt_c hr hq e hS ⟨by omega, h3⟩).mpr h5) (fun m m1 m2 m3 => h6 m m1 m2 ((BodAt_c hr hq e hS ⟨by omega, by omega⟩).mp m3))
      rw [e i h1 (by omega), e j (by omega) h3, (eb _ qi.1 qi.2).2, (eb _ qj.1 qj.2).1] at this
      exact this
    · intro h i j h1 h2 h3 h4 h5 h6
      have qi := hq.1 i h1 (by omega)
      have qj := hq.1 j (by omega) h3
      rw [e i h1 (by omega), e j (by omega) h3, (eb _ qi.1 qi.2).2, (eb _ qj.1 qj.2).1]
      exact h i j h1 h2 h3 ((BodAt_c hr hq e hS ⟨h1, by omega⟩).mp h4) ((BodAt_c hr hq e hS ⟨by omega, h3⟩).mp h5) (fun m m1 m2 m3 => h6 m m1 m2 ((BodAt_c hr hq e hS ⟨by omega, by omega⟩).mpr m3))
  rw [hC]
/-- whether one could be some parts, others CUT -/
def MayB (r : F1) (rd : Int) (b c q : F1) (cut : Int) (s : Int) : Prop := Can r rd b c q (fun k => hasI s (r (54 + 7 * k + 0)) ∧ ¬ hasI cut k)
def MayP (r : F1) (rd g : Int) (sc : F1) (cut : Int) (s : Int) : Prop := MayB r rd (bgF r g sc) (clF r g sc) (sqF r g sc) cut s
/-- all of n -/
def allF (n : Int) : Int := ishl 1 n - 1
theorem allF_v {n : Int} (h : 0 ≤ n ∧ n ≤ 14) : allF n = 2 ^ n.toNat - 1 := by
  have hc : n = 0 ∨ n = 1 ∨ n = 2 ∨ n = 3 ∨ n = 4 ∨ n = 5 ∨ n = 6 ∨ n = 7 ∨ n = 8 ∨ n = 9 ∨ n = 10 ∨ n = 11 ∨ n = 12 ∨ n = 13 ∨ n = 14 := by omega
  rcases hc with rfl | rfl | rfl | rfl | rfl | rfl | rfl | rfl | rfl | rfl | rfl | rfl | rfl | rfl | rfl <;> decide
theorem allF_7 {n : Int} (h : 0 ≤ n ∧ n ≤ 7) : 0 ≤ allF n ∧ allF n ≤ 127 := by
  have hc : n = 0 ∨ n = 1 ∨ n = 2 ∨ n = 3 ∨ n = 4 ∨ n = 5 ∨ n = 6 ∨ n = 7 := by omega
  rcases hc with rfl | rfl | rfl | rfl | rfl | rfl | rfl | rfl <;> decide
set_option maxHeartbeats 4000000 in
theorem c_X12_allParts {E : ET} {I : MI} {L : ML} {R : MR} {Q : Option AV → MI → ML → MR → Prop} {r : F1} (hT : Topo R) (er : I 141 = r) (h : Q (some (vi (allF (r 4)))) I L R) : CT E M_X12_allParts 161 yX12_allParts [(vr (138))] I L R Q := by
  refine CT_of rfl rfl (fun h => by cases h) (Nat.le_of_ble_eq_true rfl) (fun X => ?_)
  show V X _ z0 0 [some (vr (138))] [] I L R _
  refine s_iconst 1 dX12_allParts_0 rfl ?_
  refine s_aload_n 2 dX12_allParts_1 rfl rfl ?_
  refine s_getR 5 dX12_allParts_2 rfl fl_X12_20 (fun _ _ _ _ => rfl) (T_X12_r hT) sh_138 (Nat.le_of_ble_eq_true rfl) ?_
  refine s_iconst 6 dX12_allParts_5 rfl ?_
  refine s_iald 7 dX12_allParts_6 rfl sh_141 (Nat.le_of_ble_eq_true rfl) (by omega) (by omega) (fun r_6 => ?_)
  rw [er] at r_6 ⊢
  refine s_ishl 8 dX12_allParts_7 rfl ?_
  refine s_iconst 9 dX12_allParts_8 rfl ?_
  refine s_isub 10 dX12_allParts_9 rfl ?_
  refine s_iret dX12_allParts_10 rfl rfl ?_
  exact h
set_option maxHeartbeats 4000000 in
theorem c_X12_layMay {E : ET} {I : MI} {L : ML} {R : MR} {Q : Option AV → MI → ML → MR → Prop} {r b c q : F1} {rd cut : Int} (hT : Topo R) (er : I 141 = r) (erd : I 138 30 = rd) (eb : I 150 = b) (ec : I 151 = c) (eq : I 152 = q) (hr : WFr r) (hq : Perm (r 7) q) (hb : ∀ k, 0 ≤ k → k < r 7 → 0 ≤ b k ∧ b k ≤ 4000 ∧ 0 ≤ c k ∧ c k ≤ 4000) (h : ∀ I', Eqo [153] I I' → (∀ s, 0 ≤ s → s ≤ allF (r 4) → I' 153 s = bI (MayB r rd b c q cut s)) → Q none I' L R) : CT E M_X12_layMay 161 yX12_layMay [(vr (138)), (vi (cut))] I L R Q := by
  refine CT_of rfl rfl (fun h => by cases h) (Nat.le_of_ble_eq_true rfl) (fun X => ?_)
  show V X _ z0 0 [some (vr (138)), some (vi (cut)), none] [] I L R _
  have e0 := hr.1
  have ea := allF_7 (n := r 4) (by omega)
  have loop : ∀ (f : Nat) (s : Int) (I1 : MI), allF (r 4) + 1 - s < (f : Int) → 0 ≤ s → s ≤ allF (r 4) + 1 → Eqo [153] I I1 → (∀ k, 0 ≤ k → k < s → I1 153 k = bI (MayB r rd b c q cut k)) → V X M_X12_layMay z0 2 [some (vr (138)), some (vi (cut)), some (vi (s))] [] (I1) L R (RT X M_X12_layMay Q) := by
    intro f
    induction f with
    | zero => intro s I1 h1 h2 h3; omega
    | succ f ih =>
      intro s I1 h1 h2 h3 h4 h5
      have er : I1 141 = r := (h4 141 (by decide)).trans er
      have erd : I1 138 30 = rd := (congrFun (h4 138 (by decide)) 30).trans erd
      have eb : I1 150 = b := (h4 150 (by decide)).trans eb
      have ec : I1 151 = c := (h4 151 (by decide)).trans ec
      have eq : I1 152 = q := (h4 152 (by decide)).trans eq
      refine s_iload_n 3 dX12_layMay_2 rfl rfl ?_
      refine s_aload_n 4 dX12_layMay_3 rfl rfl ?_
      refine s_callV0 (M' := M_X12_allParts) (as := []) 7 dX12_layMay_4 rfl cw_X12_354 rfl rfl sh_138 rfl (by decide) (Nat.le_of_ble_eq_true rfl) (Nat.le_of_ble_eq_true rfl) (Nat.le_of_ble_eq_true rfl) (Nat.le_of_ble_eq_true rfl) ⟨rfl, rfl, rfl⟩ ?_
      refine c_X12_allParts hT er ?_
      refine s_icmp_gt 32 10 dX12_layMay_7 rfl rfl (by first | omega | exact bI_r _ | exact iI_r _) (by first | omega | exact bI_r _ | exact iI_r _) (fun h_7 => ?_) (fun h_7 => ?_)
      · skip
        refine s_vret dX12_layMay_32 rfl rfl ?_
        exact h I1 h4 (fun k a1 a2 => h5 k a1 (by omega))
      refine s_aload_n 11 dX12_layMay_10 rfl rfl ?_
      refine s_getR 14 dX12_layMay_11 rfl fl_X12_59 (fun _ _ _ _ => rfl) (T_X12_may hT) sh_138 (Nat.le_of_ble_eq_true rfl) ?_
      refine s_iload_n 15 dX12_layMay_14 rfl rfl ?_
      refine s_aload_n 16 dX12_layMay_15 rfl rfl ?_
      refine s_aload_n 17 dX12_layMay_16 rfl rfl ?_
      refine s_iload_n 18 dX12_layMay_17 rfl rfl ?_
      refine s_iload_n 19 dX12_layMay_18 rfl rfl ?_
      refine s_callV0 (M' := M_X12_onsOf) (as := [_, _]) 22 dX12_layMay_19 rfl cw_X12_342 rfl rfl sh_138 rfl (by decide) (Nat.le_of_ble_eq_true rfl) (Nat.le_of_ble_eq_true rfl) (Nat.le_of_ble_eq_true rfl) (Nat.le_of_ble_eq_true rfl) ⟨rfl, rfl, rfl⟩ ?_
      refine c_X12_onsOf hT er hr ?_
      refine s_callV0 (M' := M_X12_canHave) (as := [_]) 25 dX12_layMay_22 rfl cw_X12_351 rfl rfl sh_138 rfl (by decide) (Nat.le_of_ble_eq_true rfl) (Nat.le_of_ble_eq_true rfl) (Nat.le_of_ble_eq_true rfl) (Nat.le_of_ble_eq_true rfl) ⟨rfl, rfl, rfl⟩ ?_
      refine c_X12_canHave hT er erd eb ec eq hr hq hb ?_
      refine s_zast 26 dX12_layMay_25 rfl sh_153 (Nat.le_of_ble_eq_true rfl) (by omega) (by omega) (bI_b _) ?_
      refine s_iinc (ls' := [_, _, _]) 29 dX12_layMay_26 rfl rfl (Nat.le_of_ble_eq_true rfl) rfl rfl ?_
      refine s_goto 2 dX12_layMay_29 rfl ?_
      refine ih (s + 1) _ (by omega) (by omega) (by omega) (h4.st (by decide)) (fun k a1 a2 => ?_)
      rw [upd9]
      by_cases ek : k = s
      · rw [if_pos ek, ek]
        exact bI_c (Can_c hr hq (fun _ _ _ => ⟨rfl, rfl⟩) (fun _ _ _ => rfl) (fun k q1 q2 => by rw [has_setOf (by omega) (by omega)]; exact ⟨fun z => ⟨by omega, z⟩, fun z => z.2⟩))
      · rw [if_neg ek]; exact h5 k a1 (by omega)
  refine s_iconst 1 dX12_layMay_0 rfl ?_
  refine s_istore_n (ls' := [_, _, _]) 2 dX12_layMay_1 rfl (Nat.le_of_ble_eq_true rfl) rfl rfl ?_
  exact loop (allF (r 4) + 2).toNat 0 I (by omega) (by omega) (by omega) Eqo.rf (fun k a1 a2 => by omega)
/-- how many players a CAST has; the highest ahead of a place -/
def plF (v : F1) : Nat → Int
  | 0 => 0
  | k + 1 => if v k + 1 > plF v k then v k + 1 else plF v k
def mxF (v : F1) : Nat → Int
  | 0 => 0
  | k + 1 => if v k > mxF v k then v k else mxF v k
theorem plF_s {v : F1} {k : Int} (h : 0 ≤ k) : plF v (k + 1).toNat = if v k + 1 > plF v k.toNat then v k + 1 else plF v k.toNat := by
  rw [show (k + 1).toNat = k.toNat + 1 by omega]
  show (if v (k.toNat : Int) + 1 > _ then _ else _) = _
  rw [show ((k.toNat : Nat) : Int) = k by omega]
theorem mxF_s {v : F1} {k : Int} (h : 0 ≤ k) : mxF v (k + 1).toNat = if v k > mxF v k.toNat then v k else mxF v k.toNat := by
  rw [show (k + 1).toNat = k.toNat + 1 by omega]
  show (if v (k.toNat : Int) > _ then _ else _) = _
  rw [show ((k.toNat : Nat) : Int) = k by omega]
theorem plF_b {v : F1} {n : Int} (hv : ∀ p, 0 ≤ p → p < n → 0 ≤ v p ∧ v p ≤ 6) : ∀ k : Nat, (k : Int) ≤ n → 0 ≤ plF v k ∧ plF v k ≤ 7
  | 0, _ => by simp [plF]
  | k + 1, h => by
    have h1 := plF_b hv k (by omega)
    have h2 := hv k (by omega) (by omega)
    unfold plF
    split <;> omega
theorem mxF_b {v : F1} {n : Int} (hv : ∀ p, 0 ≤ p → p < n → 0 ≤ v p ∧ v p ≤ 6) : ∀ k : Nat, (k : Int) ≤ n → 0 ≤ mxF v k ∧ mxF v k ≤ 6
  | 0, _ => by simp [mxF]
  | k + 1, h => by
    have h1 := mxF_b hv k (by omega)
    have h2 := hv k (by omega) (by omega)
    unfold mxF
    split <;> omega
set_option maxHeartbeats 4000000 in
theorem c_X12_playersOf {E : ET} {I : MI} {L : ML} {R : MR} {Q : Option AV → MI → ML → MR → Prop} {r v : F1} (hT : Topo R) (er : I 141 = r) (ev : I 155 = v) (hr : WFr r) (hv : ∀ p, 0 ≤ p → p < r 4 → 0 ≤ v p ∧ v p ≤ 6) (h : Q (some (vi (plF v (r 4).toNat))) I L R) : CT E M_X12_playersOf 161 yX12_playersOf [(vr (138))] I L R Q := by
  refine CT_of rfl rfl (fun h => by cases h) (Nat.le_of_ble_eq_true rfl) (fun X => ?_)
  show V X _ z0 0 [some (vr (138)), none, none] [] I L R _
  have e0 := hr.1
  have loop : ∀ (f : Nat) (k : Int), r 4 - k < (f : Int) → 0 ≤ k → k ≤ r 4 → V X M_X12_playersOf z0 4 [some (vr (138)), some (vi (plF v k.toNat)), some (vi (k))] [] (I) L R (RT X M_X12_playersOf Q) := by
    intro f
    induction f with
    | zero => intro k h1 h2 h3; omega
    | succ f ih =>
      intro k h1 h2 h3
      refine s_iload_n 5 dX12_playersOf_4 rfl rfl ?_
      refine s_aload_n 6 dX12_playersOf_5 rfl rfl ?_
      refine s_getR 9 dX12_playersOf_6 rfl fl_X12_20 (fun _ _ _ _ => rfl) (T_X12_r hT) sh_138 (Nat.le_of_ble_eq_true rfl) ?_
      refine s_iconst 10 dX12_playersOf_9 rfl ?_
      refine s_iald 11 dX12_playersOf_10 rfl sh_141 (Nat.le_of_ble_eq_true rfl) (by omega) (by omega) (fun r_10 => ?_)
      rw [er] at r_10 ⊢
      refine s_icmp_ge 45 14 dX12_playersOf_11 rfl rfl (by first | omega | exact bI_r _ | exact iI_r _) (by first | omega | exact bI_r _ | exact iI_r _) (fun h_11 => ?_) (fun h_11 => ?_)
      · skip
        refine s_iload_n 46 dX12_playersOf_45 rfl rfl ?_
        refine s_iret dX12_playersOf_46 rfl rfl ?_
        have ek : k = r 4 := by omega
        subst ek
        exact h
      skip
      have e1 := hv k h2 (by omega)
      have e2 := plF_b hv k.toNat (by omega)
      have e3 := plF_s (v := v) h2
      refine s_aload_n 15 dX12_playersOf_14 rfl rfl ?_
      refine s_getR 18 dX12_playersOf_15 rfl fl_X12_66 (fun _ _ _ _ => rfl) (T_X12_given hT) sh_138 (Nat.le_of_ble_eq_true rfl) ?_
      refine s_iload_n 19 dX12_playersOf_18 rfl rfl ?_
      refine s_iald 20 dX12_playersOf_19 rfl sh_155 (Nat.le_of_ble_eq_true rfl) (by omega) (by omega) (fun r_19 => ?_)
      rw [ev] at r_19 ⊢
      refine s_iconst 21 dX12_playersOf_20 rfl ?_
      refine s_iadd 22 dX12_playersOf_21 rfl ?_
      refine s_iload_n 23 dX12_playersOf_22 rfl rfl ?_
      refine s_icmp_le 37 26 dX12_playersOf_23 rfl rfl (by first | omega | exact bI_r _ | exact iI_r _) (by first | omega | exact bI_r _ | exact iI_r _) (fun h_23 => ?_) (fun h_23 => ?_)
      · skip
        refine s_iload_n 38 dX12_playersOf_37 rfl rfl ?_
        refine s_istore_n (ls' := [_, _, _]) 39 dX12_playersOf_38 rfl (Nat.le_of_ble_eq_true rfl) rfl rfl ?_
        refine s_iinc (ls' := [_, _, _]) 42 dX12_playersOf_39 rfl rfl (Nat.le_of_ble_eq_true rfl) rfl rfl ?_
        refine s_goto 4 dX12_playersOf_42 rfl ?_
        have e9 := ih (k + 1) (by omega) (by omega) (by omega)
        first | (rw [e3, if_pos (by omega)] at e9; exact e9) | (rw [e3, if_neg (by omega)] at e9; exact e9)
      refine s_aload_n 27 dX12_playersOf_26 rfl rfl ?_
      refine s_getR 30 dX12_playersOf_27 rfl fl_X12_66 (fun _ _ _ _ => rfl) (T_X12_given hT) sh_138 (Nat.le_of_ble_eq_true rfl) ?_
      refine s_iload_n 31 dX12_playersOf_30 rfl rfl ?_
      refine s_iald 32 dX12_playersOf_31 rfl sh_155 (Nat.le_of_ble_eq_true rfl) (by omega) (by omega) (fun r_31 => ?_)
      rw [ev] at r_31 ⊢
      refine s_iconst 33 dX12_playersOf_32 rfl ?_
      refine s_iadd 34 dX12_playersOf_33 rfl ?_
      refine s_goto 38 dX12_playersOf_34 rfl ?_
      refine s_istore_n (ls' := [_, _, _]) 39 dX12_playersOf_38 rfl (Nat.le_of_ble_eq_true rfl) rfl rfl ?_
      refine s_iinc (ls' := [_, _, _]) 42 dX12_playersOf_39 rfl rfl (Nat.le_of_ble_eq_true rfl) rfl rfl ?_
      refine s_goto 4 dX12_playersOf_42 rfl ?_
      have e9 := ih (k + 1) (by omega) (by omega) (by omega)
      first | (rw [e3, if_pos (by omega)] at e9; exact e9) | (rw [e3, if_neg (by omega)] at e9; exact e9)
  refine s_iconst 1 dX12_playersOf_0 rfl ?_
  refine s_istore_n (ls' := [_, _, _]) 2 dX12_playersOf_1 rfl (Nat.le_of_ble_eq_true rfl) rfl rfl ?_
  refine s_iconst 3 dX12_playersOf_2 rfl ?_
  refine s_istore_n (ls' := [_, _, _]) 4 dX12_playersOf_3 rfl (Nat.le_of_ble_eq_true rfl) rfl rfl ?_
  exact loop (r 4 + 1).toNat 0 (by omega) (by omega) (by omega)
/-- the set of the parts of a player -/
noncomputable def grF (v : F1) (n : Int) (q : Int) : Int := setOf (fun p => v p = q) n.toNat
theorem grF_b {v : F1} {n q : Int} (h : 0 ≤ n ∧ n ≤ 7) : 0 ≤ grF v n q ∧ grF v n q ≤ allF n := by
  have h1 := setOf_lt (fun p => v p = q) (n := n.toNat) (by omega)
  rw [allF_v (by omega)]
  unfold grF
  omega
set_option maxHeartbeats 4000000 in
theorem c_X12_doAllCan {E : ET} {I : MI} {L : ML} {R : MR} {Q : Option AV → MI → ML → MR → Prop} {r v y : F1} {G : Int → Prop} {m : Int} (hT : Topo R) (er : I 141 = r) (ev : I 155 = v) (ey : ∀ s, 0 ≤ s → s ≤ allF (r 4) → I 153 s = bI (G s)) (hr : WFr r) (hv : ∀ p, 0 ≤ p → p < r 4 → 0 ≤ v p ∧ v p ≤ 6) (hm : 0 ≤ m ∧ m ≤ 7) (h : Q (some (vi (bI (∀ q, 0 ≤ q → q < m → G (grF v (r 4) q))))) I L R) : CT E M_X12_doAllCan 161 yX12_doAllCan [(vr (138)), (vi (m))] I L R Q := by
  refine CT_of rfl rfl (fun h => by cases h) (Nat.le_of_ble_eq_true rfl) (fun X => ?_)
  show V X _ z0 0 [some (vr (138)), some (vi (m)), none, none, none, none] [] I L R _
  have e0 := hr.1
  have ea := allF_7 (n := r 4) (by omega)
  have loop : ∀ (f : Nat) (k : Int) (P : Prop) (w1 w2 : Option AV), m - k < (f : Int) → 0 ≤ k → k ≤ m → (P ↔ ∀ q, 0 ≤ q → q < k → G (grF v (r 4) q)) → V X M_X12_doAllCan z0 4 [some (vr 138), some (vi m), some (vi (bI P)), some (vi k), w1, w2] [] I L R (RT X M_X12_doAllCan Q) := by
    intro f
    induction f with
    | zero => intro k P w1 w2 h1 h2 h3; omega
    | succ f ih =>
      intro k P w1 w2 h1 h2 h3 hP
      have fin60 : P → k < m → V X M_X12_doAllCan z0 60 [some (vr (138)), some (vi (m)), some (vi (bI P)), some (vi (k)), some (vi (grF v (r 4) k)), some (vi (r 4))] [] (I) L R (RT X M_X12_doAllCan Q) := by
        intro hPt hkm
        have e2 := grF_b (v := v) (n := r 4) (q := k) (by omega)
        have e4 := ey _ e2.1 e2.2
        refine s_aload_n 61 dX12_doAllCan_60 rfl rfl ?_
        refine s_getR 64 dX12_doAllCan_61 rfl fl_X12_59 (fun _ _ _ _ => rfl) (T_X12_may hT) sh_138 (Nat.le_of_ble_eq_true rfl) ?_
        refine s_iload 66 dX12_doAllCan_64 rfl rfl ?_
        refine s_zald 67 dX12_doAllCan_66 rfl sh_153 (Nat.le_of_ble_eq_true rfl) (by omega) (by omega) (fun r_66 => ?_)
        rw [e4] at r_66 ⊢
        refine s_istore_n (ls' := [_, _, _, _, _, _]) 68 dX12_doAllCan_67 rfl (Nat.le_of_ble_eq_true rfl) rfl rfl ?_
        refine s_iinc (ls' := [_, _, _, _, _, _]) 71 dX12_doAllCan_68 rfl rfl (Nat.le_of_ble_eq_true rfl) rfl rfl ?_
        refine s_goto 4 dX12_doAllCan_71 rfl ?_
        refine ih (k + 1) (G (grF v (r 4) k)) _ _ (by omega) (by omega) (by omega) ⟨fun z q a1 a2 => ?_, fun z => z k h2 (by omega)⟩
        by_cases eq : q = k
        · rw [eq]; exact z
        · exact hP.mp hPt q a1 (by omega)
      have loop2 : ∀ (g : Nat) (j : Int), r 4 - j < (g : Int) → 0 ≤ j → j ≤ r 4 → P → k < m → V X M_X12_doAllCan z0 19 [some (vr (138)), some (vi (m)), some (vi (bI P)), some (vi (k)), some (vi (setOf (fun p => v p = k) j.toNat)), some (vi (j))] [] (I) L R (RT X M_X12_doAllCan Q) := by
        intro g
        induction g with
        | zero => intro j k1 k2 k3; omega
        | succ g ih2 =>
          intro j k1 k2 k3 hPt hkm
          have e2 := grF_b (v := v) (n := r 4) (q := k) (by omega)
          refine s_iload 21 dX12_doAllCan_19 rfl rfl ?_
          refine s_aload_n 22 dX12_doAllCan_21 rfl rfl ?_
          refine s_getR 25 dX12_doAllCan_22 rfl fl_X12_20 (fun _ _ _ _ => rfl) (T_X12_r hT) sh_138 (Nat.le_of_ble_eq_true rfl) ?_
          refine s_iconst 26 dX12_doAllCan_25 rfl ?_
          refine s_iald 27 dX12_doAllCan_26 rfl sh_141 (Nat.le_of_ble_eq_true rfl) (by omega) (by omega) (fun r_26 => ?_)
          rw [er] at r_26 ⊢
          refine s_icmp_ge 60 30 dX12_doAllCan_27 rfl rfl (by first | omega | exact bI_r _ | exact iI_r _) (by first | omega | exact bI_r _ | exact iI_r _) (fun h_27 => ?_) (fun h_27 => ?_)
          · skip
            have ej : j = r 4 := by omega
            subst ej
            have e3 : setOf (fun p => v p = k) (r 4).toNat = grF v (r 4) k := rfl
            rw [e3]
            exact fin60 hPt hkm
          skip
          have e1 := hv j k2 (by omega)
          refine s_iload 32 dX12_doAllCan_30 rfl rfl ?_
          refine s_aload_n 33 dX12_doAllCan_32 rfl rfl ?_
          refine s_getR 36 dX12_doAllCan_33 rfl fl_X12_66 (fun _ _ _ _ => rfl) (T_X12_given hT) sh_138 (Nat.le_of_ble_eq_true rfl) ?_
          refine s_iload 38 dX12_doAllCan_36 rfl rfl ?_
          refine s_iald 39 dX12_doAllCan_38 rfl sh_155 (Nat.le_of_ble_eq_true rfl) (by omega) (by omega) (fun r_38 => ?_)
          rw [ev] at r_38 ⊢
          refine s_iload_n 40 dX12_doAllCan_39 rfl rfl ?_
          refine s_icmp_ne 50 43 dX12_doAllCan_40 rfl rfl (by first | omega | exact bI_r _ | exact iI_r _) (by first | omega | exact bI_r _ | exact iI_r _) (fun h_40 => ?_) (fun h_40 => ?_)
          · skip
            refine s_iconst 51 dX12_doAllCan_50 rfl ?_
            refine s_ior 52 dX12_doAllCan_51 rfl ?_
            refine s_istore (ls' := [_, _, _, _, _, _]) 54 dX12_doAllCan_52 rfl (Nat.le_of_ble_eq_true rfl) rfl rfl ?_
            refine s_iinc (ls' := [_, _, _, _, _, _]) 57 dX12_doAllCan_54 rfl rfl (Nat.le_of_ble_eq_true rfl) rfl rfl ?_
            refine s_goto 19 dX12_doAllCan_57 rfl ?_
            first | (rw [setOf_t k2 (by assumption)]; exact ih2 (j + 1) (by omega) (by omega) (by omega) hPt hkm) | (rw [setOf_f k2 (by assumption)]; exact ih2 (j + 1) (by omega) (by omega) (by omega) hPt hkm)
          refine s_iconst 44 dX12_doAllCan_43 rfl ?_
          refine s_iload 46 dX12_doAllCan_44 rfl rfl ?_
          refine s_ishl 47 dX12_doAllCan_46 rfl ?_
          refine s_goto 51 dX12_doAllCan_47 rfl ?_
          refine s_ior 52 dX12_doAllCan_51 rfl ?_
          refine s_istore (ls' := [_, _, _, _, _, _]) 54 dX12_doAllCan_52 rfl (Nat.le_of_ble_eq_true rfl) rfl rfl ?_
          refine s_iinc (ls' := [_, _, _, _, _, _]) 57 dX12_doAllCan_54 rfl rfl (Nat.le_of_ble_eq_true rfl) rfl rfl ?_
          refine s_goto 19 dX12_doAllCan_57 rfl ?_
          first | (rw [setOf_t k2 (by assumption)]; exact ih2 (j + 1) (by omega) (by omega) (by omega) hPt hkm) | (rw [setOf_f k2 (by assumption)]; exact ih2 (j + 1) (by omega) (by omega) (by omega) hPt hkm)
      refine s_iload_n 5 dX12_doAllCan_4 rfl rfl ?_
      refine s_iload_n 6 dX12_doAllCan_5 rfl rfl ?_
      refine s_icmp_ge 74 9 dX12_doAllCan_6 rfl rfl (by first | omega | exact bI_r _ | exact iI_r _) (by first | omega | exact bI_r _ | exact iI_r _) (fun h_6 => ?_) (fun h_6 => ?_)
      · skip
        refine s_iload_n 75 dX12_doAllCan_74 rfl rfl ?_
        refine s_zret dX12_doAllCan_75 rfl (by first | omega | exact bI_b _) rfl ?_
        rw [bI_c (show P ↔ _ from ?_)]; exact h
        first | (rw [hP, show k = m by omega]) | exact ⟨fun z => absurd z (by assumption), fun z => absurd (hP.mpr (fun q a1 a2 => z q a1 (by omega))) (by assumption)⟩
      refine s_iload_n 10 dX12_doAllCan_9 rfl rfl ?_
      refine s_ifb_eq 74 13 dX12_doAllCan_10 rfl rfl (fun h_10 => ?_) (fun h_10 => ?_)
      · skip
        refine s_iload_n 75 dX12_doAllCan_74 rfl rfl ?_
        refine s_zret dX12_doAllCan_75 rfl (by first | omega | exact bI_b _) rfl ?_
        rw [bI_c (show P ↔ _ from ?_)]; exact h
        first | (rw [hP, show k = m by omega]) | exact ⟨fun z => absurd z (by assumption), fun z => absurd (hP.mpr (fun q a1 a2 => z q a1 (by omega))) (by assumption)⟩
      refine s_iconst 14 dX12_doAllCan_13 rfl ?_
      refine s_istore (ls' := [_, _, _, _, _, _]) 16 dX12_doAllCan_14 rfl (Nat.le_of_ble_eq_true rfl) rfl rfl ?_
      refine s_iconst 17 dX12_doAllCan_16 rfl ?_
      refine s_istore (ls' := [_, _, _, _, _, _]) 19 dX12_doAllCan_17 rfl (Nat.le_of_ble_eq_true rfl) rfl rfl ?_
      exact loop2 (r 4 + 1).toNat 0 (by omega) (by omega) (by omega) (by assumption) (by assumption)
  refine s_iconst 1 dX12_doAllCan_0 rfl ?_
  refine s_istore_n (ls' := [_, _, _, _, _, _]) 2 dX12_doAllCan_1 rfl (Nat.le_of_ble_eq_true rfl) rfl rfl ?_
  refine s_iconst 3 dX12_doAllCan_2 rfl ?_
  refine s_istore_n (ls' := [_, _, _, _, _, _]) 4 dX12_doAllCan_3 rfl (Nat.le_of_ble_eq_true rfl) rfl rfl ?_
  have := loop (m + 1).toNat 0 True none none (by omega) (by omega) (by omega) ⟨fun _ q a1 a2 => by omega, fun _ => trivial⟩
  rw [bI_t trivial] at this
  exact this
