/-! an ORDER as one int; the class lists them all -/
theorem has_ishl {x j k : Int} (hj : 0 ≤ j ∧ j < 32) (h : 0 ≤ k ∧ k < 32) : hasI (ishl x j) k ↔ j ≤ k ∧ hasI x (k - j) := by
  rw [has_bt h, iI_sl, bt_nat j hj, b_shl j.toNat (by omega) (iI x) (by omega : k.toNat < 32)]
  by_cases e : j.toNat ≤ k.toNat
  · rw [has_bt (by omega)]
    have e2 : (k - j).toNat = k.toNat - j.toNat := by omega
    simp only [e, decide_true, Bool.true_and, e2]
    exact ⟨fun z => ⟨by omega, z⟩, fun z => z.2⟩
  · simp only [e, decide_false, Bool.false_and]
    constructor
    · intro z; cases z
    · intro z; omega
theorem has_ishr {x j k : Int} (hx : 0 ≤ x ∧ x ≤ 2147483647) (hj : 0 ≤ j ∧ j < 32) (h : 0 ≤ k ∧ k < 32) : hasI (ishr x j) k ↔ j + k < 32 ∧ hasI x (j + k) := by
  have h31 : bt (iI x) 31 = false := by
    have := has_lt (x := x) (n := 31) (by omega) ⟨hx.1, by omega⟩ (k := 31) (by omega)
    rw [has_bt (by omega)] at this
    simpa using this
  rw [has_bt h, iI_sr, bt_nat j hj, b_sshr j.toNat (by omega) (iI x) (by omega : k.toNat < 32)]
  by_cases e : j.toNat + k.toNat < 32
  · rw [if_pos e, has_bt (by omega), show (j + k).toNat = j.toNat + k.toNat by omega]
    exact ⟨fun z => ⟨by omega, z⟩, fun z => z.2⟩
  · rw [if_neg e, h31]
    constructor
    · intro z; cases z
    · intro z; omega
/-- the scene at i -/
def oi (o i : Int) : Int := iand (ishr o (3 * (4 - i))) 7
theorem has_7 {k : Int} (h : 0 ≤ k ∧ k < 32) : hasI 7 k ↔ k < 3 := by
  have key : ∀ j : Nat, j < 32 → (hasI 7 j ↔ j < 3) := by decide +kernel
  have := key k.toNat (by omega)
  rw [show ((k.toNat : Nat) : Int) = k by omega] at this
  rw [this]; omega
theorem oi_b (o i : Int) : 0 ≤ oi o i ∧ oi o i < 8 := by
  have := set_lt (n := 3) (by omega) (iand_r (ishr o (3 * (4 - i))) 7) (fun k h1 h2 h => by
    have := (has_and (x := ishr o (3 * (4 - i))) (y := 7) ⟨by omega, h2⟩).mp h
    have := (has_7 ⟨by omega, h2⟩).mp this.2
    omega)
  unfold oi; omega
theorem has_oi {o i t : Int} (ho : 0 ≤ o ∧ o < 32768) (hi : 0 ≤ i ∧ i < 5) (ht : 0 ≤ t ∧ t < 32) : hasI (oi o i) t ↔ t < 3 ∧ hasI o (3 * (4 - i) + t) := by
  unfold oi
  rw [has_and ht, has_ishr (by omega) (by omega) ht, has_7 ht]
  constructor
  · rintro ⟨⟨a, b⟩, c⟩; exact ⟨c, b⟩
  · rintro ⟨c, b⟩; exact ⟨⟨by omega, b⟩, c⟩
theorem v8_has {v t : Int} (hv : 0 ≤ v ∧ v < 8) (ht : 3 ≤ t ∧ t < 32) : ¬ hasI v t := has_lt (n := 3) (by omega) ⟨hv.1, by omega⟩ ht
/-- the int tells this row of n scenes -/
def EnO (o : Int) (v : F1) (n : Int) : Prop := (0 ≤ o ∧ o < 32768) ∧ (∀ i, 0 ≤ i → i < n → oi o i = v i) ∧ ∀ i, n ≤ i → i < 5 → 0 ≤ i → oi o i = 0
theorem EnO.uq {o o' n : Int} {v : F1} (h : EnO o v n) (h' : EnO o' v n) : o = o' := by
  refine set_ext (by have := h.1; omega) (by have := h'.1; omega) (fun k k1 k2 => ?_)
  by_cases z : k < 15
  · have e : ∃ i t : Int, (0 ≤ i ∧ i < 5) ∧ (0 ≤ t ∧ t < 3) ∧ k = 3 * (4 - i) + t := ⟨4 - k / 3, k % 3, by omega, by omega, by omega⟩
    obtain ⟨i, t, hi, ht, rfl⟩ := e
    have h1 := has_oi (t := t) h.1 hi (by omega)
    have h2 := has_oi (t := t) h'.1 hi (by omega)
    have h3 : oi o i = oi o' i := by
      by_cases y : i < n
      · rw [h.2.1 i hi.1 y, h'.2.1 i hi.1 y]
      · rw [h.2.2 i (by omega) hi.2 hi.1, h'.2.2 i (by omega) hi.2 hi.1]
    rw [h3, h2] at h1
    exact ⟨fun y => (h1.mpr ⟨ht.2, y⟩).2, fun y => (h1.mp ⟨ht.2, y⟩).2⟩
  · exact ⟨fun y => absurd y (has_lt (n := 15) (by omega) ⟨h.1.1, by have := h.1.2; omega⟩ ⟨by omega, k2⟩), fun y => absurd y (has_lt (n := 15) (by omega) ⟨h'.1.1, by have := h'.1.2; omega⟩ ⟨by omega, k2⟩)⟩
theorem EnO.c {o n : Int} {v w : F1} (h : EnO o v n) (e : ∀ i, 0 ≤ i → i < n → v i = w i) : EnO o w n := ⟨h.1, fun i a b => by rw [h.2.1 i a b]; exact e i a b, h.2.2⟩
theorem EnO.vb {o n : Int} {v : F1} (h : EnO o v n) {i : Int} (hi : 0 ≤ i ∧ i < n) : 0 ≤ v i ∧ v i < 8 := by rw [← h.2.1 i hi.1 hi.2]; exact oi_b o i
theorem EnO.nil (v : F1) : EnO 0 v 0 := ⟨by omega, fun i a b => by omega, fun i a b c => by
  refine set_ext (by have := oi_b 0 i; omega) (by omega) (fun k k1 k2 => ?_)
  rw [has_oi (by omega) ⟨c, b⟩ ⟨k1, k2⟩]
  exact ⟨fun z => absurd z.2 (fun y => by
    by_cases q : 3 * (4 - i) + k < 32
    · exact has_0 (k := 3 * (4 - i) + k) ⟨by omega, q⟩ y
    · have := z.1; omega), fun z => absurd z (has_0 ⟨k1, k2⟩)⟩⟩
/-- a scene more -/
theorem EnO.put {o n s : Int} {v w : F1} (h : EnO o v n) (hn : 0 ≤ n ∧ n < 5) (hs : 0 ≤ s ∧ s < 8) (hw : ∀ i, 0 ≤ i → i < n → w i = v i) (hws : w n = s) : EnO (ior o (ishl s (3 * (4 - n)))) w (n + 1) := by
  have bit : ∀ k, 0 ≤ k → k < 32 → (hasI (ior o (ishl s (3 * (4 - n)))) k ↔ hasI o k ∨ (3 * (4 - n) ≤ k ∧ hasI s (k - 3 * (4 - n)))) := fun k k1 k2 => by
    rw [has_or ⟨k1, k2⟩, has_ishl (by omega) ⟨k1, k2⟩]
  have hb : 0 ≤ ior o (ishl s (3 * (4 - n))) ∧ ior o (ishl s (3 * (4 - n))) < 32768 := by
    have := set_lt (n := 15) (by omega) (ior_r o (ishl s (3 * (4 - n)))) (fun k h1 h2 z => by
      rcases (bit k (by omega) h2).mp z with y | ⟨y1, y2⟩
      · exact has_lt (n := 15) (by omega) ⟨h.1.1, by have := h.1.2; omega⟩ ⟨h1, h2⟩ y
      · exact v8_has hs ⟨by omega, by omega⟩ y2)
    omega
  have key : ∀ i, 0 ≤ i → i < 5 → ∀ t, 0 ≤ t → t < 32 → (hasI (oi (ior o (ishl s (3 * (4 - n)))) i) t ↔ if i = n then hasI s t else hasI (oi o i) t) := by
    intro i i1 i2 t t1 t2
    rw [has_oi hb ⟨i1, i2⟩ ⟨t1, t2⟩]
    by_cases t3 : t < 3
    · rw [bit _ (by omega) (by omega)]
      by_cases e : i = n
      · rw [if_pos e]
        have z0 : ¬ hasI o (3 * (4 - i) + t) := fun y => by
          have g := (has_oi h.1 ⟨i1, i2⟩ ⟨t1, t2⟩).mpr ⟨t3, y⟩
          rw [h.2.2 i (by omega) i2 i1] at g
          exact has_0 ⟨t1, t2⟩ g
        rw [show 3 * (4 - i) + t - 3 * (4 - n) = t by omega]
        exact ⟨fun y => y.2.elim (fun q => absurd q z0) (fun q => q.2), fun y => ⟨t3, Or.inr ⟨by omega, y⟩⟩⟩
      · rw [if_neg e, has_oi h.1 ⟨i1, i2⟩ ⟨t1, t2⟩]
        constructor
        · rintro ⟨-, y | ⟨y1, y2⟩⟩
          · exact ⟨t3, y⟩
          · exact absurd y2 (v8_has hs ⟨by omega, by omega⟩)
        · rintro ⟨-, y⟩; exact ⟨t3, Or.inl y⟩
    · constructor
      · intro y; exact absurd y.1 t3
      · intro y
        by_cases e : i = n
        · rw [if_pos e] at y; exact absurd y (v8_has hs ⟨by omega, t2⟩)
        · rw [if_neg e] at y; exact absurd y (v8_has (oi_b o i) ⟨by omega, t2⟩)
  refine ⟨hb, fun i a b => ?_, fun i a b c => ?_⟩
  · refine set_ext (by have := oi_b (ior o (ishl s (3 * (4 - n)))) i; omega) ?_ (fun t t1 t2 => ?_)
    · by_cases e : i = n
      · rw [e, hws]; omega
      · rw [hw i a (by omega)]; have := h.vb (i := i) ⟨a, by omega⟩; omega
    · rw [key i a (by omega) t t1 t2]
      by_cases e : i = n
      · rw [if_pos e, e, hws]
      · rw [if_neg e, hw i a (by omega), h.2.1 i a (by omega)]
  · refine set_ext (by have := oi_b (ior o (ishl s (3 * (4 - n)))) i; omega) (by omega) (fun t t1 t2 => ?_)
    rw [key i c b t t1 t2, if_neg (by omega), h.2.2 i (by omega) b c]
set_option maxHeartbeats 4000000 in
theorem c_X11_shiftAt {E : ET} {I : MI} {L : ML} {R : MR} {Q : Option AV → MI → ML → MR → Prop} {i : Int} (hi : 0 ≤ i ∧ i < 5) (h : Q (some (vi (3 * (4 - i)))) I L R) : CT E M_X11_shiftAt 161 yX11_shiftAt [(vi (i))] I L R Q := by
  refine CT_of rfl rfl (fun h => by cases h) (Nat.le_of_ble_eq_true rfl) (fun X => ?_)
  show V X _ z0 0 [some (vi (i))] [] I L R _
  refine s_iconst 1 dX11_shiftAt_0 rfl ?_
  refine s_iconst 2 dX11_shiftAt_1 rfl ?_
  refine s_iload_n 3 dX11_shiftAt_2 rfl rfl ?_
  refine s_isub 4 dX11_shiftAt_3 rfl ?_
  refine s_imul 5 dX11_shiftAt_4 rfl ?_
  refine s_iret dX11_shiftAt_5 rfl rfl ?_
  exact h
set_option maxHeartbeats 4000000 in
theorem c_X11_sceneAt {E : ET} {I : MI} {L : ML} {R : MR} {Q : Option AV → MI → ML → MR → Prop} {o i : Int} (hi : 0 ≤ i ∧ i < 5) (h : Q (some (vi (oi o i))) I L R) : CT E M_X11_sceneAt 161 yX11_sceneAt [(vi (o)), (vi (i))] I L R Q := by
  refine CT_of rfl rfl (fun h => by cases h) (Nat.le_of_ble_eq_true rfl) (fun X => ?_)
  show V X _ z0 0 [some (vi (o)), some (vi (i))] [] I L R _
  refine s_iload_n 1 dX11_sceneAt_0 rfl rfl ?_
  refine s_iload_n 2 dX11_sceneAt_1 rfl rfl ?_
  refine s_callS0 (M' := M_X11_shiftAt) (as := [_]) 5 dX11_sceneAt_2 rfl cw_X11_376 rfl rfl (Nat.le_of_ble_eq_true rfl) (Nat.le_of_ble_eq_true rfl) (Nat.le_of_ble_eq_true rfl) ⟨rfl, rfl, rfl⟩ ?_
  refine c_X11_shiftAt (by omega) ?_
  refine s_ishr 6 dX11_sceneAt_5 rfl ?_
  refine s_bipush 8 dX11_sceneAt_6 rfl (by decide) ?_
  refine s_iand 9 dX11_sceneAt_8 rfl ?_
  refine s_iret dX11_sceneAt_9 rfl rfl ?_
  exact h
theorem EnO.swap {o i j n : Int} {v : F1} (h : EnO o v n) (hn : n ≤ 5) (hi : 0 ≤ i ∧ i < n) (hj : 0 ≤ j ∧ j < n) : EnO (ixor (ixor o (ishl (ixor (oi o i) (oi o j)) (3 * (4 - i)))) (ishl (ixor (oi o i) (oi o j)) (3 * (4 - j)))) (tnF v i j) n := by
  have xr : ∀ x y : Int, -2147483648 ≤ ixor x y ∧ ixor x y ≤ 2147483647 := fun x y => iI_r _
  have ub : ∀ t, 3 ≤ t → t < 32 → ¬ hasI (ixor (oi o i) (oi o j)) t := fun t t1 t2 => by
    rw [has_xor (by omega)]
    exact fun y => y ⟨fun q => absurd q (v8_has (oi_b o i) ⟨t1, t2⟩), fun q => absurd q (v8_has (oi_b o j) ⟨t1, t2⟩)⟩
  generalize hO : ixor (ixor o (ishl (ixor (oi o i) (oi o j)) (3 * (4 - i)))) (ishl (ixor (oi o i) (oi o j)) (3 * (4 - j))) = O
  have bit : ∀ k, 0 ≤ k → k < 32 → (hasI O k ↔ ¬ (¬ (hasI o k ↔ (3 * (4 - i) ≤ k ∧ hasI (ixor (oi o i) (oi o j)) (k - 3 * (4 - i)))) ↔ (3 * (4 - j) ≤ k ∧ hasI (ixor (oi o i) (oi o j)) (k - 3 * (4 - j))))) := fun k k1 k2 => by
    rw [← hO, has_xor ⟨k1, k2⟩, has_xor ⟨k1, k2⟩, has_ishl (by omega) ⟨k1, k2⟩, has_ishl (by omega) ⟨k1, k2⟩]
  have hb : 0 ≤ O ∧ O < 32768 := by
    have := set_lt (x := O) (n := 15) (by omega) (by rw [← hO]; exact xr _ _) (fun k h1 h2 z => by
      have g := (bit k (by omega) h2).mp z
      have a1 : ¬ hasI o k := has_lt (n := 15) (by omega) ⟨h.1.1, by have := h.1.2; omega⟩ ⟨h1, h2⟩
      have a2 : ¬ (3 * (4 - i) ≤ k ∧ hasI (ixor (oi o i) (oi o j)) (k - 3 * (4 - i))) := fun y => ub _ (by omega) (by omega) y.2
      have a3 : ¬ (3 * (4 - j) ≤ k ∧ hasI (ixor (oi o i) (oi o j)) (k - 3 * (4 - j))) := fun y => ub _ (by omega) (by omega) y.2
      exact g ⟨fun y => absurd ⟨fun q => absurd q a1, fun q => absurd q a2⟩ y, fun y => absurd y a3⟩)
    omega
  have key : ∀ m, 0 ≤ m → m < 5 → oi O m = if m = j then oi o i else if m = i then oi o j else oi o m := by
    intro m m1 m2
    have hbd : -2147483648 ≤ (if m = j then oi o i else if m = i then oi o j else oi o m) ∧ (if m = j then oi o i else if m = i then oi o j else oi o m) ≤ 2147483647 := by
      have b1 := oi_b o i
      have b2 := oi_b o j
      have b3 := oi_b o m
      by_cases e1 : m = j
      · rw [if_pos e1]; omega
      · rw [if_neg e1]
        by_cases e2 : m = i
        · rw [if_pos e2]; omega
        · rw [if_neg e2]; omega
    refine set_ext (by have := oi_b O m; omega) hbd (fun t t1 t2 => ?_)
    by_cases t3 : t < 3
    · rw [has_oi hb ⟨m1, m2⟩ ⟨t1, t2⟩, bit _ (by omega) (by omega)]
      have om := has_oi h.1 ⟨m1, m2⟩ ⟨t1, t2⟩
      have xi : (3 * (4 - i) ≤ 3 * (4 - m) + t ∧ hasI (ixor (oi o i) (oi o j)) (3 * (4 - m) + t - 3 * (4 - i))) ↔ (m = i ∧ ¬ (hasI (oi o i) t ↔ hasI (oi o j) t)) := by
        constructor
        · rintro ⟨y1, y2⟩
          by_cases e : m = i
          · refine ⟨e, ?_⟩
            rw [e, show 3 * (4 - i) + t - 3 * (4 - i) = t by omega, has_xor ⟨t1, t2⟩] at y2
            exact y2
          · exact absurd y2 (ub _ (by omega) (by omega))
        · rintro ⟨e, y⟩
          refine ⟨by omega, ?_⟩
          rw [e, show 3 * (4 - i) + t - 3 * (4 - i) = t by omega, has_xor ⟨t1, t2⟩]
          exact y
      have xj : (3 * (4 - j) ≤ 3 * (4 - m) + t ∧ hasI (ixor (oi o i) (oi o j)) (3 * (4 - m) + t - 3 * (4 - j))) ↔ (m = j ∧ ¬ (hasI (oi o i) t ↔ hasI (oi o j) t)) := by
        constructor
        · rintro ⟨y1, y2⟩
          by_cases e : m = j
          · refine ⟨e, ?_⟩
            rw [e, show 3 * (4 - j) + t - 3 * (4 - j) = t by omega, has_xor ⟨t1, t2⟩] at y2
            exact y2
          · exact absurd y2 (ub _ (by omega) (by omega))
        · rintro ⟨e, y⟩
          refine ⟨by omega, ?_⟩
          rw [e, show 3 * (4 - j) + t - 3 * (4 - j) = t by omega, has_xor ⟨t1, t2⟩]
          exact y
      rw [xi, xj]
      have om2 : hasI o (3 * (4 - m) + t) ↔ hasI (oi o m) t := ⟨fun y => om.mpr ⟨t3, y⟩, fun y => (om.mp y).2⟩
      rw [om2]
      by_cases e1 : m = j
      · subst e1
        rw [if_pos rfl]
        by_cases e2 : m = i
        · subst e2
          constructor
          · rintro ⟨-, g⟩
            apply Classical.byContradiction
            intro y
            exact g ⟨fun q => absurd ⟨fun w => absurd w y, fun w => absurd Iff.rfl w.2⟩ q, fun q => absurd Iff.rfl q.2⟩
          · intro y
            refine ⟨t3, fun q => ?_⟩
            have := q.mp (fun w => (w.mp y).2 Iff.rfl)
            exact this.2 Iff.rfl
        · generalize hasI (oi o i) t = A; generalize hasI (oi o m) t = B; by_cases a : A <;> by_cases b : B <;> simp [e2, a, b, t3]
      · rw [if_neg e1]
        by_cases e2 : m = i
        · subst e2
          rw [if_pos rfl]
          generalize hasI (oi o m) t = A; generalize hasI (oi o j) t = B; by_cases a : A <;> by_cases b : B <;> simp [e1, a, b, t3]
        · rw [if_neg e2]
          generalize hasI (oi o m) t = A; by_cases a : A <;> simp [e1, e2, a, t3]
    · have big : ∀ m, ¬ hasI (oi o m) t := fun m => v8_has (oi_b o m) ⟨by omega, t2⟩
      refine ⟨fun y => absurd y (v8_has (oi_b O m) ⟨by omega, t2⟩), fun y => ?_⟩
      by_cases e1 : m = j
      · rw [if_pos e1] at y; exact absurd y (big i)
      · rw [if_neg e1] at y
        by_cases e2 : m = i
        · rw [if_pos e2] at y; exact absurd y (big j)
        · rw [if_neg e2] at y; exact absurd y (big m)
  refine ⟨hb, fun m a b => ?_, fun m a b c => ?_⟩
  · rw [key m a (by omega)]
    unfold tnF
    by_cases e1 : m = j
    · rw [if_pos e1, if_pos e1]; exact h.2.1 i hi.1 hi.2
    · rw [if_neg e1, if_neg e1]
      by_cases e2 : m = i
      · rw [if_pos e2, if_pos e2]; exact h.2.1 j hj.1 hj.2
      · rw [if_neg e2, if_neg e2]; exact h.2.1 m a b
  · rw [key m c b, if_neg (by omega), if_neg (by omega)]; exact h.2.2 m a b c
set_option maxHeartbeats 4000000 in
theorem c_X11_swapped {E : ET} {I : MI} {L : ML} {R : MR} {Q : Option AV → MI → ML → MR → Prop} {o i j n : Int} {v : F1} (h0 : EnO o v n) (hn : n ≤ 5) (hi : 0 ≤ i ∧ i < n) (hj : 0 ≤ j ∧ j < n) (h : ∀ O, EnO O (tnF v i j) n → Q (some (vi O)) I L R) : CT E M_X11_swapped 161 yX11_swapped [(vi (o)), (vi (i)), (vi (j))] I L R Q := by
  refine CT_of rfl rfl (fun h => by cases h) (Nat.le_of_ble_eq_true rfl) (fun X => ?_)
  show V X _ z0 0 [some (vi (o)), some (vi (i)), some (vi (j)), none] [] I L R _
  refine s_iload_n 1 dX11_swapped_0 rfl rfl ?_
  refine s_iload_n 2 dX11_swapped_1 rfl rfl ?_
  refine s_callS0 (M' := M_X11_sceneAt) (as := [_, _]) 5 dX11_swapped_2 rfl cw_X11_181 rfl rfl (Nat.le_of_ble_eq_true rfl) (Nat.le_of_ble_eq_true rfl) (Nat.le_of_ble_eq_true rfl) ⟨rfl, rfl, rfl⟩ ?_
  refine c_X11_sceneAt (by omega) ?_
  refine s_iload_n 6 dX11_swapped_5 rfl rfl ?_
  refine s_iload_n 7 dX11_swapped_6 rfl rfl ?_
  refine s_callS0 (M' := M_X11_sceneAt) (as := [_, _]) 10 dX11_swapped_7 rfl cw_X11_181 rfl rfl (Nat.le_of_ble_eq_true rfl) (Nat.le_of_ble_eq_true rfl) (Nat.le_of_ble_eq_true rfl) ⟨rfl, rfl, rfl⟩ ?_
  refine c_X11_sceneAt (by omega) ?_
  refine s_ixor 11 dX11_swapped_10 rfl ?_
  refine s_istore_n (ls' := [_, _, _, _]) 12 dX11_swapped_11 rfl (Nat.le_of_ble_eq_true rfl) rfl rfl ?_
  refine s_iload_n 13 dX11_swapped_12 rfl rfl ?_
  refine s_iload_n 14 dX11_swapped_13 rfl rfl ?_
  refine s_iload_n 15 dX11_swapped_14 rfl rfl ?_
  refine s_callS0 (M' := M_X11_shiftAt) (as := [_]) 18 dX11_swapped_15 rfl cw_X11_376 rfl rfl (Nat.le_of_ble_eq_true rfl) (Nat.le_of_ble_eq_true rfl) (Nat.le_of_ble_eq_true rfl) ⟨rfl, rfl, rfl⟩ ?_
  refine c_X11_shiftAt (by omega) ?_
  refine s_ishl 19 dX11_swapped_18 rfl ?_
  refine s_ixor 20 dX11_swapped_19 rfl ?_
  refine s_iload_n 21 dX11_swapped_20 rfl rfl ?_
  refine s_iload_n 22 dX11_swapped_21 rfl rfl ?_
  refine s_callS0 (M' := M_X11_shiftAt) (as := [_]) 25 dX11_swapped_22 rfl cw_X11_376 rfl rfl (Nat.le_of_ble_eq_true rfl) (Nat.le_of_ble_eq_true rfl) (Nat.le_of_ble_eq_true rfl) ⟨rfl, rfl, rfl⟩ ?_
  refine c_X11_shiftAt (by omega) ?_
  refine s_ishl 26 dX11_swapped_25 rfl ?_
  refine s_ixor 27 dX11_swapped_26 rfl ?_
  refine s_iret dX11_swapped_27 rfl rfl ?_
  exact h _ (h0.swap hn hi hj)
set_option maxHeartbeats 4000000 in
theorem c_X5_isOrder {E : ET} {I : MI} {L : ML} {R : MR} {Q : Option AV → MI → ML → MR → Prop} {P : Nat} {r v : F1} {o : Int} (hT : Topo R) (hP : isP P) (hr : WFr r) (hR : PR I P r) (ho : EnO o v (r 5)) (hv : Perm (r 5) v) (h : Q (some (vi (bI (OrdP r v)))) I L R) : CT E M_X5_isOrder 161 yX5_isOrder [(vr (P)), (vi (o))] I L R Q := by
  refine CT_of rfl rfl (fun h => by cases h) (Nat.le_of_ble_eq_true rfl) (fun X => ?_)
  show V X _ z0 0 [some (vr (P)), some (vi (o)), none, none, none] [] I L R _
  have hp : P = 3 ∨ P = 39 := hP
  have e0 := hr.1
  have e4 := hR.1.2.2.2.2.1
  have eA := hR.2.2.2.2.2.2.1
  have loop : ∀ (f : Nat) (i S : Int) (w4 : Option AV), r 5 - i < (f : Int) → 0 ≤ i → i ≤ r 5 → (∀ k, 0 ≤ k → k < 32 → (hasI S k ↔ ∃ j, 0 ≤ j ∧ j < i ∧ v j = k)) → (∀ j, 0 ≤ j → j < i → ∀ s, 0 ≤ s → s < 32 → hasI (r (49 + v j)) s → ∃ m, 0 ≤ m ∧ m < j ∧ v m = s) → V X M_X5_isOrder z0 4 [some (vr P), some (vi o), some (vi S), some (vi i), w4] [] I L R (RT X M_X5_isOrder Q) := by
    intro f
    induction f with
    | zero => intro i S w4 h1 h2 h3; omega
    | succ f ih =>
      intro i S w4 h1 h2 h3 h4 h5
      by_cases hi : i < r 5
      · have hvi := hv.1 i h2 hi
        have eo := ho.2.1 i h2 hi
        have hb := hr.2.2.1 (v i) hvi.1 (by omega)
        have ea := eA (v i) hvi.1 (by omega)
        by_cases hc : ∀ s, 0 ≤ s → s < 32 → hasI (r (49 + v i)) s → hasI S s
        · skip
          refine s_iload_n 5 dX5_isOrder_4 rfl rfl ?_
          refine s_aload_n 6 dX5_isOrder_5 rfl rfl ?_
          refine s_getI 9 dX5_isOrder_6 rfl fl_X5_48 (fun _ _ _ _ => rfl) (isP_sh hP) (isP_lt hP) (fun r_6 => ?_)
          rw [e4]
          refine s_icmp_ge 57 12 dX5_isOrder_9 rfl rfl (by first | omega | exact bI_r _ | exact iI_r _) (by first | omega | exact bI_r _ | exact iI_r _) (fun h_9 => by exfalso; omega) (fun h_9 => ?_)
          refine s_iload_n 13 dX5_isOrder_12 rfl rfl ?_
          refine s_iload_n 14 dX5_isOrder_13 rfl rfl ?_
          refine s_callSN0 (M' := M_X11_sceneAt) (as := [_, _]) 17 dX5_isOrder_14 rfl cw_X5_86 rfl rfl (Nat.le_of_ble_eq_true rfl) (Nat.le_of_ble_eq_true rfl) (Nat.le_of_ble_eq_true rfl) ⟨rfl, rfl, rfl⟩ ?_
          refine c_X11_sceneAt (by omega) ?_
          rw [eo]
          refine s_istore (ls' := [_, _, _, _, _]) 19 dX5_isOrder_17 rfl (Nat.le_of_ble_eq_true rfl) rfl rfl ?_
          refine s_iload 21 dX5_isOrder_19 rfl rfl ?_
          refine s_aload_n 22 dX5_isOrder_21 rfl rfl ?_
          refine s_getI 25 dX5_isOrder_22 rfl fl_X5_48 (fun _ _ _ _ => rfl) (isP_sh hP) (isP_lt hP) (fun r_22 => ?_)
          rw [e4]
          refine s_icmp_ge 42 28 dX5_isOrder_25 rfl rfl (by first | omega | exact bI_r _ | exact iI_r _) (by first | omega | exact bI_r _ | exact iI_r _) (fun h_25 => by exfalso; omega) (fun h_25 => ?_)
          refine s_aload_n 29 dX5_isOrder_28 rfl rfl ?_
          refine s_getR 32 dX5_isOrder_29 rfl fl_X5_26 (fun _ _ _ _ => rfl) (T_X5_ahead hT hP) (isP_sh hP) (isP_lt hP) ?_
          refine s_iload 34 dX5_isOrder_32 rfl rfl ?_
          refine s_iald 35 dX5_isOrder_34 rfl (shP_ahead hP) (ltP_ahead hP) (by omega) (by omega) (fun r_34 => ?_)
          rw [ea]
          refine s_iload_n 36 dX5_isOrder_35 rfl rfl ?_
          refine s_iconst 37 dX5_isOrder_36 rfl ?_
          refine s_ixor 38 dX5_isOrder_37 rfl ?_
          refine s_iand 39 dX5_isOrder_38 rfl ?_
          refine s_if_eq 44 42 dX5_isOrder_39 rfl rfl (by first | omega | exact iand_r _ _) (fun h_39 => ?_) (fun h_39 => by exfalso; exact h_39 ((andn_0 (by omega)).mpr hc))
          refine s_iload_n 45 dX5_isOrder_44 rfl rfl ?_
          refine s_iconst 46 dX5_isOrder_45 rfl ?_
          refine s_iload 48 dX5_isOrder_46 rfl rfl ?_
          refine s_ishl 49 dX5_isOrder_48 rfl ?_
          refine s_ior 50 dX5_isOrder_49 rfl ?_
          refine s_istore_n (ls' := [_, _, _, _, _]) 51 dX5_isOrder_50 rfl (Nat.le_of_ble_eq_true rfl) rfl rfl ?_
          refine s_iinc (ls' := [_, _, _, _, _]) 54 dX5_isOrder_51 rfl rfl (Nat.le_of_ble_eq_true rfl) rfl rfl ?_
          refine s_goto 4 dX5_isOrder_54 rfl ?_
          refine ih (i + 1) _ _ (by omega) (by omega) (by omega) (fun k k1 k2 => ?_) (fun j j1 j2 s s1 s2 s3 => ?_)
          · rw [has_or ⟨k1, k2⟩, h4 k k1 k2, has_shl (by omega) ⟨k1, k2⟩]
            constructor
            · rintro (⟨j, a, b, c⟩ | y)
              · exact ⟨j, a, by omega, c⟩
              · exact ⟨i, h2, by omega, y.symm⟩
            · rintro ⟨j, a, b, c⟩
              by_cases e : j = i
              · rw [e] at c; exact Or.inr c.symm
              · exact Or.inl ⟨j, a, by omega, c⟩
          · by_cases e : j = i
            · subst e; exact (h4 s s1 s2).mp (hc s s1 s2 s3)
            · exact h5 j j1 (by omega) s s1 s2 s3
        · have hno : ¬ OrdP r v := fun z => hc (fun s s1 s2 s3 => (h4 s s1 s2).mpr (z i h2 hi s s1 s2 s3))
          refine s_iload_n 5 dX5_isOrder_4 rfl rfl ?_
          refine s_aload_n 6 dX5_isOrder_5 rfl rfl ?_
          refine s_getI 9 dX5_isOrder_6 rfl fl_X5_48 (fun _ _ _ _ => rfl) (isP_sh hP) (isP_lt hP) (fun r_6 => ?_)
          rw [e4]
          refine s_icmp_ge 57 12 dX5_isOrder_9 rfl rfl (by first | omega | exact bI_r _ | exact iI_r _) (by first | omega | exact bI_r _ | exact iI_r _) (fun h_9 => by exfalso; omega) (fun h_9 => ?_)
          refine s_iload_n 13 dX5_isOrder_12 rfl rfl ?_
          refine s_iload_n 14 dX5_isOrder_13 rfl rfl ?_
          refine s_callSN0 (M' := M_X11_sceneAt) (as := [_, _]) 17 dX5_isOrder_14 rfl cw_X5_86 rfl rfl (Nat.le_of_ble_eq_true rfl) (Nat.le_of_ble_eq_true rfl) (Nat.le_of_ble_eq_true rfl) ⟨rfl, rfl, rfl⟩ ?_
          refine c_X11_sceneAt (by omega) ?_
          rw [eo]
          refine s_istore (ls' := [_, _, _, _, _]) 19 dX5_isOrder_17 rfl (Nat.le_of_ble_eq_true rfl) rfl rfl ?_
          refine s_iload 21 dX5_isOrder_19 rfl rfl ?_
          refine s_aload_n 22 dX5_isOrder_21 rfl rfl ?_
          refine s_getI 25 dX5_isOrder_22 rfl fl_X5_48 (fun _ _ _ _ => rfl) (isP_sh hP) (isP_lt hP) (fun r_22 => ?_)
          rw [e4]
          refine s_icmp_ge 42 28 dX5_isOrder_25 rfl rfl (by first | omega | exact bI_r _ | exact iI_r _) (by first | omega | exact bI_r _ | exact iI_r _) (fun h_25 => by exfalso; omega) (fun h_25 => ?_)
          refine s_aload_n 29 dX5_isOrder_28 rfl rfl ?_
          refine s_getR 32 dX5_isOrder_29 rfl fl_X5_26 (fun _ _ _ _ => rfl) (T_X5_ahead hT hP) (isP_sh hP) (isP_lt hP) ?_
          refine s_iload 34 dX5_isOrder_32 rfl rfl ?_
          refine s_iald 35 dX5_isOrder_34 rfl (shP_ahead hP) (ltP_ahead hP) (by omega) (by omega) (fun r_34 => ?_)
          rw [ea]
          refine s_iload_n 36 dX5_isOrder_35 rfl rfl ?_
          refine s_iconst 37 dX5_isOrder_36 rfl ?_
          refine s_ixor 38 dX5_isOrder_37 rfl ?_
          refine s_iand 39 dX5_isOrder_38 rfl ?_
          refine s_if_eq 44 42 dX5_isOrder_39 rfl rfl (by first | omega | exact iand_r _ _) (fun h_39 => by exfalso; exact hc ((andn_0 (by omega)).mp h_39)) (fun h_39 => ?_)
          refine s_iconst 43 dX5_isOrder_42 rfl ?_
          refine s_zret dX5_isOrder_43 rfl (by first | omega | exact bI_b _) rfl ?_
          exact ret_f hno h
      · have hyes : OrdP r v := fun j a b s c d e => h5 j a (by omega) s c d e
        refine s_iload_n 5 dX5_isOrder_4 rfl rfl ?_
        refine s_aload_n 6 dX5_isOrder_5 rfl rfl ?_
        refine s_getI 9 dX5_isOrder_6 rfl fl_X5_48 (fun _ _ _ _ => rfl) (isP_sh hP) (isP_lt hP) (fun r_6 => ?_)
        rw [e4]
        refine s_icmp_ge 57 12 dX5_isOrder_9 rfl rfl (by first | omega | exact bI_r _ | exact iI_r _) (by first | omega | exact bI_r _ | exact iI_r _) (fun h_9 => ?_) (fun h_9 => by exfalso; omega)
        refine s_iconst 58 dX5_isOrder_57 rfl ?_
        refine s_zret dX5_isOrder_58 rfl (by first | omega | exact bI_b _) rfl ?_
        exact ret_t hyes h
  refine s_iconst 1 dX5_isOrder_0 rfl ?_
  refine s_istore_n (ls' := [_, _, _, _, _]) 2 dX5_isOrder_1 rfl (Nat.le_of_ble_eq_true rfl) rfl rfl ?_
  refine s_iconst 3 dX5_isOrder_2 rfl ?_
  refine s_istore_n (ls' := [_, _, _, _, _]) 4 dX5_isOrder_3 rfl (Nat.le_of_ble_eq_true rfl) rfl rfl ?_
  exact loop 6 0 0 _ (by omega) (by omega) (by omega) (fun k k1 k2 => ⟨fun z => absurd z (has_0 ⟨k1, k2⟩), fun ⟨j, a, b, _⟩ => by omega⟩) (fun j a b => by omega)
