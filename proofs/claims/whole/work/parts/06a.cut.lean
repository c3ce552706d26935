/-! the least APPEARANCES to cut, for one player -/
theorem ior_nat {a b : Nat} (ha : a < 2147483648) (hb : b < 2147483648) : ior a b = ((a ||| b : Nat) : Int) := by
  have hlt : a ||| b < 2147483648 := Nat.or_lt_two_pow (n := 31) ha hb
  apply set_ext (ior_r _ _) (by omega)
  intro k k1 k2
  rw [has_or ⟨k1, k2⟩, has_bt ⟨k1, k2⟩, has_bt ⟨k1, k2⟩, has_bt ⟨k1, k2⟩]
  have t : ∀ n : Nat, n < 2147483648 → (bt (iI (n : Int)) k.toNat = true ↔ n.testBit k.toNat = true) := by
    intro n hn
    unfold bt
    have e : (iI (n : Int)).toBitVec.toNat = n := by rw [iI_nat, pk_tn (by omega)]
    rw [← BitVec.testBit_toNat, e]
  rw [t a ha, t b hb, t _ hlt, Nat.testBit_or, Bool.or_eq_true]
theorem bit_add {x k : Int} (hk : 0 ≤ k ∧ k < 30) (hx : 0 ≤ x ∧ x < 2 ^ k.toNat) : ior x (ishl 1 k) = x + 2 ^ k.toNat := by
  have hp : (2 : Nat) ^ k.toNat ≤ 2 ^ 29 := Nat.pow_le_pow_right (by omega) (by omega)
  have hp2 : (2 : Int) ^ k.toNat = ((2 ^ k.toNat : Nat) : Int) := by simp
  have e1 : ishl 1 k = ((2 ^ k.toNat : Nat) : Int) := by
    refine set_ext (x := ishl 1 k) (iI_r _) (by omega) (fun j j1 j2 => ?_)
    rw [has_shl (by omega) ⟨j1, j2⟩, has_bt ⟨j1, j2⟩]
    unfold bt
    have e : (iI ((2 ^ k.toNat : Nat) : Int)).toBitVec.toNat = 2 ^ k.toNat := by rw [iI_nat, pk_tn (by omega)]
    rw [← BitVec.testBit_toNat, e, Nat.testBit_two_pow]
    simp
    omega
  have e2 : x = ((x.toNat : Nat) : Int) := by omega
  rw [e1, e2, ior_nat (by omega) (by omega), Nat.or_comm, show (2 : Nat) ^ k.toNat ||| x.toNat = 2 ^ k.toNat + x.toNat by
    have := Nat.two_pow_add_eq_or_of_lt (i := k.toNat) (b := x.toNat) (by omega) 1
    rw [Nat.mul_one] at this
    exact this.symm]
  omega
theorem bc_cn (s : Int) : ∀ n : Nat, n ≤ 32 → bcF s n = (cn s n : Int)
  | 0, _ => rfl
  | n + 1, h => by
    unfold bcF cn
    rw [bc_cn s n (by omega)]
    by_cases z : hasI s (n : Int)
    · rw [if_pos z]
      have : iand (ishr s (n : Int)) 1 = 1 := z
      omega
    · rw [if_neg z]
      have : ¬ iand (ishr s (n : Int)) 1 = 1 := z
      have := bit01 s (n : Int)
      omega
theorem cn_c {S T : Int} : ∀ {n : Nat} (_ : ∀ k : Int, 0 ≤ k → k < n → (hasI S k ↔ hasI T k)), cn S n = cn T n
  | 0, _ => rfl
  | n + 1, h => by
    unfold cn
    rw [cn_c (n := n) (fun k a b => h k a (by omega))]
    have := h n (by omega) (by omega)
    by_cases z : hasI T (n : Int)
    · rw [if_pos z, if_pos (this.mpr z)]
    · rw [if_neg z, if_neg (fun y => z (this.mp y))]
theorem cn_put {S k : Int} (hk : 0 ≤ k) (hs : ¬ hasI S k) : ∀ {n : Nat} (_ : n ≤ 32), k < n → cn (ior S (ishl 1 k)) n = cn S n + 1
  | 0, _, h => by omega
  | n + 1, hn, h => by
    unfold cn
    by_cases e : k = n
    · rw [cn_c (S := ior S (ishl 1 k)) (T := S) (n := n) (fun j a b => by
        rw [has_or ⟨a, by omega⟩, has_shl (by omega) ⟨a, by omega⟩]
        exact ⟨fun z => z.elim id (fun y => by omega), Or.inl⟩)]
      subst e
      rw [if_neg hs, if_pos (by rw [has_or (by omega), has_shl (by omega) (by omega)]; exact Or.inr rfl)]
    · rw [cn_put hk hs (n := n) (by omega) (by omega)]
      have : hasI (ior S (ishl 1 k)) (n : Int) ↔ hasI S n := by
        rw [has_or (by omega), has_shl (by omega) (by omega)]
        exact ⟨fun z => z.elim id (fun y => by omega), Or.inl⟩
      by_cases z : hasI S (n : Int)
      · rw [if_pos z, if_pos (this.mpr z)]
      · rw [if_neg z, if_neg (fun y => z (this.mp y))]
theorem cn_bd {S b : Int} (hb : 0 ≤ b) (h : ∀ k, 0 ≤ k → k < 32 → hasI S k → k < b) : ∀ n : Nat, n ≤ 32 → (cn S n : Int) ≤ b
  | 0, _ => by simp [cn]; exact hb
  | n + 1, hn => by
    have ih := cn_bd hb h n (by omega)
    have le := cn_le S n
    unfold cn
    by_cases z : hasI S (n : Int)
    · rw [if_pos z]
      have := h n (by omega) (by omega) z
      omega
    · rw [if_neg z]; omega
def Cd (C : Int → Prop) (t n b x : Int) : Prop := 0 ≤ x ∧ x ≤ 2147483647 ∧ (∀ k, 0 ≤ k → k < 32 → hasI x k → hasI t k ∧ k < b) ∧ bits x = n ∧ C (iand t (ixor x (-1)))
def WoV (C : Int → Prop) (t n b v : Int) : Prop := (v = -1 ∧ ∀ x, ¬ Cd C t n b x) ∨ (Cd C t n b v ∧ ∀ x, Cd C t n b x → v ≤ x)
theorem Cd.lt {C : Int → Prop} {t n b x : Int} (h : Cd C t n b x) (hb : 0 ≤ b ∧ b ≤ 14) : x < 2 ^ b.toNat := (set_lt (n := b.toNat) (by omega) ⟨by have := h.1; omega, h.2.1⟩ (fun k k1 k2 z => by have := (h.2.2.1 k (by omega) k2 z).2; omega)).2
theorem iand_2 {t x y : Int} {k : Int} (e : ∀ j, 0 ≤ j → j < 32 → (hasI y j ↔ hasI x j ∨ j = k)) (hk : 0 ≤ k ∧ k < 32) : iand (iand t (ixor (ishl 1 k) (-1))) (ixor x (-1)) = iand t (ixor y (-1)) := set_ext (iand_r _ _) (iand_r _ _) (fun j a b => by
  rw [has_andn ⟨a, b⟩, has_andn ⟨a, b⟩, has_andn ⟨a, b⟩, has_shl hk ⟨a, b⟩, e j a b]
  constructor
  · rintro ⟨⟨p, q⟩, s⟩
    exact ⟨p, fun z => z.elim s q⟩
  · rintro ⟨p, q⟩
    exact ⟨⟨p, fun z => q (Or.inr z)⟩, fun z => q (Or.inl z)⟩)
theorem Cd_bit {C : Int → Prop} {t n k x : Int} (hk : 0 ≤ k ∧ k < 14) (h : Cd C t n (k + 1) x) (hb : hasI x k) : ∃ y, Cd C (iand t (ixor (ishl 1 k) (-1))) (n - 1) k y ∧ hasI t k ∧ x = ior y (ishl 1 k) := by
  obtain ⟨h0, h1, h2, h3, h4⟩ := h
  have hy : ∀ j, 0 ≤ j → j < 32 → (hasI (iand x (ixor (ishl 1 k) (-1))) j ↔ hasI x j ∧ j ≠ k) := fun j a b => by
    rw [has_andn ⟨a, b⟩, has_shl (by omega) ⟨a, b⟩]
  have hx : ∀ j, 0 ≤ j → j < 32 → (hasI x j ↔ hasI (iand x (ixor (ishl 1 k) (-1))) j ∨ j = k) := fun j a b => by
    rw [hy j a b]
    by_cases e : j = k
    · subst e; exact ⟨fun _ => Or.inr rfl, fun _ => hb⟩
    · exact ⟨fun z => Or.inl ⟨z, e⟩, fun z => z.elim (fun w => w.1) (fun w => absurd w e)⟩
  have ex : x = ior (iand x (ixor (ishl 1 k) (-1))) (ishl 1 k) := set_ext (by omega) (ior_r _ _) (fun j a b => by
    rw [has_or ⟨a, b⟩, has_shl (by omega) ⟨a, b⟩]; exact hx j a b)
  have hlt := set_lt (n := 14) (x := iand x (ixor (ishl 1 k) (-1))) (by omega) (iand_r _ _) (fun j a b z => by
    have := (h2 j (by omega) b ((hy j (by omega) b).mp z).1).2
    omega)
  refine ⟨iand x (ixor (ishl 1 k) (-1)), ⟨hlt.1, by have := hlt.2; omega, fun j a b z => ?_, ?_, ?_⟩, (h2 k hk.1 (by omega) hb).1, ex⟩
  · have w := (hy j a b).mp z
    have w2 := h2 j a b w.1
    refine ⟨?_, by omega⟩
    rw [has_andn ⟨a, b⟩, has_shl (by omega) ⟨a, b⟩]
    exact ⟨w2.1, w.2⟩
  · have e1 : bits x = (cn x 14 : Int) := bc_cn x 14 (by decide)
    have e2 : bits (iand x (ixor (ishl 1 k) (-1))) = (cn (iand x (ixor (ishl 1 k) (-1))) 14 : Int) := bc_cn _ 14 (by decide)
    have e3 := cn_put (S := iand x (ixor (ishl 1 k) (-1))) hk.1 (fun z => ((hy k hk.1 (by omega)).mp z).2 rfl) (n := 14) (by decide) (by omega)
    rw [← ex] at e3
    omega
  · rw [iand_2 hx (by omega)]; exact h4
theorem Cd_put {C : Int → Prop} {t n k y : Int} (hk : 0 ≤ k ∧ k < 14) (ht : hasI t k) (h : Cd C (iand t (ixor (ishl 1 k) (-1))) (n - 1) k y) : Cd C t n (k + 1) (ior y (ishl 1 k)) := by
  obtain ⟨h0, h1, h2, h3, h4⟩ := h
  have hx : ∀ j, 0 ≤ j → j < 32 → (hasI (ior y (ishl 1 k)) j ↔ hasI y j ∨ j = k) := fun j a b => by
    rw [has_or ⟨a, b⟩, has_shl (by omega) ⟨a, b⟩]
  have hn : ¬ hasI y k := fun z => by have := (h2 k hk.1 (by omega) z).2; omega
  have hlt := set_lt (n := 14) (x := ior y (ishl 1 k)) (by omega) (ior_r _ _) (fun j a b z => by
    rcases (hx j (by omega) b).mp z with w | w
    · have := (h2 j (by omega) b w).2; omega
    · omega)
  refine ⟨hlt.1, by have := hlt.2; omega, fun j a b z => ?_, ?_, ?_⟩
  · rcases (hx j a b).mp z with w | w
    · have w2 := h2 j a b w
      rw [has_andn ⟨a, b⟩] at w2
      exact ⟨w2.1.1, by omega⟩
    · subst w; exact ⟨ht, by omega⟩
  · have e1 : bits (ior y (ishl 1 k)) = (cn (ior y (ishl 1 k)) 14 : Int) := bc_cn _ 14 (by decide)
    have e2 : bits y = (cn y 14 : Int) := bc_cn _ 14 (by decide)
    have e3 := cn_put (S := y) hk.1 hn (n := 14) (by decide) (by omega)
    omega
  · rw [← iand_2 hx (by omega)]; exact h4
theorem Cd_no {C : Int → Prop} {t n k x : Int} (h : Cd C t n (k + 1) x) (hb : ¬ hasI x k) : Cd C t n k x := ⟨h.1, h.2.1, fun j a b z => by
  have w := h.2.2.1 j a b z
  refine ⟨w.1, ?_⟩
  have : j ≠ k := fun e => hb (by rw [← e]; exact z)
  omega, h.2.2.2⟩
theorem Cd_mo {C : Int → Prop} {t n k b x : Int} (h : Cd C t n k x) (hb : k ≤ b) : Cd C t n b x := ⟨h.1, h.2.1, fun j a c z => by
  have w := h.2.2.1 j a c z
  exact ⟨w.1, by omega⟩, h.2.2.2⟩
set_option maxHeartbeats 4000000 in
theorem c_X4_without (d : Nat) : ∀ {E : ET} {I : MI} {L : ML} {R : MR} {Q : Option AV → MI → ML → MR → Prop} {N P : Nat} {r sc : F1} {rd g cut t n b : Int} (hT : Topo R) (hN : isN N) (hP : isP P) (hNP : R N 1 = some P) (hr : WFr r) (hR : PR I P r) (hV : NtV I N r rd g sc cut) (hsc : Perm (r 5) sc) (hg : 0 ≤ g ∧ g ≤ 99) (htr : -2147483648 ≤ t ∧ t ≤ 2147483647) (ht : ∀ k, r 7 ≤ k → k < 32 → ¬ hasI t k) (hn : 0 ≤ n ∧ n ≤ 3) (hb : 0 ≤ b ∧ b ≤ r 7) (hd : n < (d : Int)) (h : ∀ v, WoV (fun y => Can r rd (bgF r g sc) (clF r g sc) (sqF r g sc) (fun k => hasI y k)) t n b v → Q (some (vi v)) I L R), CT E (M_X4_without d) 161 yX4_without [(vr (N)), (vi (t)), (vi (n)), (vi (b))] I L R Q := by
  induction d with
  | zero => intros; exfalso; omega
  | succ d ih =>
  intro E I L R Q N P r sc rd g cut t n b hT hN hP hNP hr hR hV hsc hg htr ht hn hb hd h
  refine CT_of rfl rfl (fun h => by cases h) (Nat.le_of_ble_eq_true rfl) (fun X => ?_)
  show V X _ z0 0 [some (vr (N)), some (vi (t)), some (vi (n)), some (vi (b)), none, none] [] I L R _
  have e0 := hr.1
  generalize hC : (fun y => Can r rd (bgF r g sc) (clF r g sc) (sqF r g sc) (fun k => hasI y k)) = C at *
  by_cases hn0 : n = 0
  · subst hn0
    have ez : ∀ x, Cd C t 0 b x → x = 0 := fun x hx => set_ext (by have := hx.1; have := hx.2.1; omega) (by omega) (fun j a c => ⟨fun z => by
      exfalso
      have w := hx.2.2.1 j a c z
      have e1 : bits x = (cn x 14 : Int) := bc_cn x 14 (by decide)
      have e2 := hx.2.2.2.1
      have := cn_lt (S := 0) (T := x) (fun k k1 k2 y => absurd y (has_0 ⟨k1, k2⟩)) a (has_0 ⟨a, c⟩) z 14 (by decide) (by omega)
      omega, fun z => absurd z (has_0 ⟨a, c⟩)⟩)
    have et : iand t (ixor 0 (-1)) = t := set_ext (iand_r _ _) htr (fun j a c => by
      rw [has_andn ⟨a, c⟩]
      exact ⟨fun z => z.1, fun z => ⟨z, has_0 ⟨a, c⟩⟩⟩)
    have h0 : Cd C t 0 b 0 ↔ C t := ⟨fun z => by have := z.2.2.2.2; rw [et] at this; exact this, fun z => ⟨by omega, by omega, fun k k1 k2 y => absurd y (has_0 ⟨k1, k2⟩), by decide, by rw [et]; exact z⟩⟩
    have hCt : C t ↔ Can r rd (bgF r g sc) (clF r g sc) (sqF r g sc) (fun k => hasI t k) := by rw [← hC]
    refine s_iload_n 1 dX4_without_0 rfl rfl ?_
    refine s_if_gt 18 4 dX4_without_1 rfl rfl (by first | omega | exact bI_r _ | exact iI_r _) (fun h_1 => by exfalso; omega) (fun h_1 => ?_)
    refine s_aload_n 5 dX4_without_4 rfl rfl ?_
    refine s_iload_n 6 dX4_without_5 rfl rfl ?_
    refine s_callV0 (M' := M_X4_canBe) (as := [_]) 9 dX4_without_6 rfl cw_X4_119 rfl rfl (isN_sh hN) rfl (by decide) (isN_lt hN) (by first | exact Nat.le_of_ble_eq_true rfl | (simp only [mrk]; omega)) (Nat.le_of_ble_eq_true rfl) (Nat.le_of_ble_eq_true rfl) ⟨rfl, rfl, rfl⟩ ?_
    refine c_X4_canBe hT hN hP hNP hr hR hV hsc hg ht ?_
    refine s_ifb_eq 16 12 dX4_without_9 rfl rfl (fun h_9 => ?_) (fun h_9 => ?_)
    · skip
      refine s_iconst 17 dX4_without_16 rfl ?_
      refine s_iret dX4_without_17 rfl rfl ?_
      first | exact h 0 (Or.inr ⟨h0.mpr (hCt.mpr h_9), fun x hx => by rw [ez x hx]; omega⟩) | exact h (-1) (Or.inl ⟨rfl, fun x hx => by have e := ez x hx; subst e; exact h_9 (hCt.mp (h0.mp hx))⟩)
    refine s_iconst 13 dX4_without_12 rfl ?_
    refine s_goto 17 dX4_without_13 rfl ?_
    refine s_iret dX4_without_17 rfl rfl ?_
    first | exact h 0 (Or.inr ⟨h0.mpr (hCt.mpr h_9), fun x hx => by rw [ez x hx]; omega⟩) | exact h (-1) (Or.inl ⟨rfl, fun x hx => by have e := ez x hx; subst e; exact h_9 (hCt.mp (h0.mp hx))⟩)
  · have loop : ∀ (f : Nat) (k : Int) (w : Option AV), b - k < (f : Int) → n - 1 ≤ k → (k ≤ b ∨ k = n - 1) → (∀ x, ¬ Cd C t n (if k ≤ b then k else b) x) → V X (M_X4_without (d + 1)) z0 23 [some (vr N), some (vi t), some (vi n), some (vi b), some (vi k), w] [] I L R (RT X (M_X4_without (d + 1)) Q) := by
      intro f
      induction f with
      | zero =>
        intro k w h1 h2 h3 h4
        rw [if_neg (by omega)] at h4
        refine s_iload 25 dX4_without_23 rfl rfl ?_
        refine s_iload_n 26 dX4_without_25 rfl rfl ?_
        refine s_icmp_ge 78 29 dX4_without_26 rfl rfl (by first | omega | exact bI_r _ | exact iI_r _) (by first | omega | exact bI_r _ | exact iI_r _) (fun h_26 => ?_) (fun h_26 => by exfalso; omega)
        refine s_iconst 79 dX4_without_78 rfl ?_
        refine s_iret dX4_without_79 rfl rfl ?_
        exact h (-1) (Or.inl ⟨rfl, h4⟩)
      | succ f ih2 =>
        intro k w h1 h2 h3 h4
        by_cases hk : k < b
        · rw [if_pos (by omega)] at h4
          have nx : ∀ w, (∀ y, ¬ (Cd C (iand t (ixor (ishl 1 k) (-1))) (n - 1) k y ∧ hasI t k)) → V X (M_X4_without (d + 1)) z0 23 [some (vr N), some (vi t), some (vi n), some (vi b), some (vi (k + 1)), w] [] I L R (RT X (M_X4_without (d + 1)) Q) := fun w hno => ih2 (k + 1) w (by omega) (by omega) (by omega) (fun x => by
            rw [if_pos (by omega)]
            intro hx
            by_cases hb9 : hasI x k
            · obtain ⟨y, y1, y2, y3⟩ := Cd_bit ⟨by omega, by omega⟩ hx hb9
              exact hno y ⟨y1, y2⟩
            · exact h4 x (Cd_no hx hb9))
          by_cases htk : hasI t k
          · skip
            refine s_iload 25 dX4_without_23 rfl rfl ?_
            refine s_iload_n 26 dX4_without_25 rfl rfl ?_
            refine s_icmp_ge 78 29 dX4_without_26 rfl rfl (by first | omega | exact bI_r _ | exact iI_r _) (by first | omega | exact bI_r _ | exact iI_r _) (fun h_26 => by exfalso; omega) (fun h_26 => ?_)
            refine s_iload_n 30 dX4_without_29 rfl rfl ?_
            refine s_iload 32 dX4_without_30 rfl rfl ?_
            refine s_ishr 33 dX4_without_32 rfl ?_
            refine s_iconst 34 dX4_without_33 rfl ?_
            refine s_iand 35 dX4_without_34 rfl ?_
            refine s_iconst 36 dX4_without_35 rfl ?_
            refine s_icmp_ne 72 39 dX4_without_36 rfl rfl (by first | omega | exact iand_r _ _) (by first | omega | exact iand_r _ _) (fun h_36 => by exfalso; exact h_36 htk) (fun h_36 => ?_)
            refine s_aload_n 40 dX4_without_39 rfl rfl ?_
            refine s_iload_n 41 dX4_without_40 rfl rfl ?_
            refine s_iconst 42 dX4_without_41 rfl ?_
            refine s_iload 44 dX4_without_42 rfl rfl ?_
            refine s_ishl 45 dX4_without_44 rfl ?_
            refine s_iconst 46 dX4_without_45 rfl ?_
            refine s_ixor 47 dX4_without_46 rfl ?_
            refine s_iand 48 dX4_without_47 rfl ?_
            refine s_iload_n 49 dX4_without_48 rfl rfl ?_
            refine s_iconst 50 dX4_without_49 rfl ?_
            refine s_isub 51 dX4_without_50 rfl ?_
            refine s_iload 53 dX4_without_51 rfl rfl ?_
            refine s_callV0 (M' := (M_X4_without d)) (as := [_, _, _]) 56 dX4_without_53 rfl cw_X4_137 rfl rfl (isN_sh hN) rfl (by decide) (isN_lt hN) (by first | exact Nat.le_of_ble_eq_true rfl | (simp only [mrk]; omega)) (Nat.le_of_ble_eq_true rfl) (Nat.le_of_ble_eq_true rfl) ⟨rfl, rfl, rfl⟩ ?_
            refine ih hT hN hP hNP hr hR hV hsc hg (iand_r _ _) (fun j j1 j2 z => ?_) (by omega) (by omega) (by omega) (fun v hv => ?_)
            · rw [has_andn ⟨by omega, j2⟩] at z; exact ht j j1 j2 z.1
            rw [hC] at hv
            have vr9 : -2147483648 ≤ v ∧ v ≤ 2147483647 := hv.elim (fun z => by omega) (fun z => by have := z.1.1; have := z.1.2.1; omega)
            refine s_istore (ls' := [_, _, _, _, _, _]) 58 dX4_without_56 rfl (Nat.le_of_ble_eq_true rfl) rfl rfl ?_
            refine s_iload 60 dX4_without_58 rfl rfl ?_
            refine s_iconst 61 dX4_without_60 rfl ?_
            refine s_icmp_eq 72 64 dX4_without_61 rfl rfl (by first | omega | exact bI_r _ | exact iI_r _) (by first | omega | exact bI_r _ | exact iI_r _) (fun h_61 => ?_) (fun h_61 => ?_)
            · skip
              refine s_iinc (ls' := [_, _, _, _, _, _]) 75 dX4_without_72 rfl rfl (Nat.le_of_ble_eq_true rfl) rfl rfl ?_
              refine s_goto 23 dX4_without_75 rfl ?_
              refine nx _ (fun y hy => ?_)
              rcases hv with hv | hv
              · exact hv.2 y hy.1
              · have := hv.1.1; omega
            refine s_iload 66 dX4_without_64 rfl rfl ?_
            refine s_iconst 67 dX4_without_66 rfl ?_
            refine s_iload 69 dX4_without_67 rfl rfl ?_
            refine s_ishl 70 dX4_without_69 rfl ?_
            refine s_ior 71 dX4_without_70 rfl ?_
            refine s_iret dX4_without_71 rfl rfl ?_
            rcases hv with hv | hv
            · exact absurd hv.1 h_61
            · have hlt := hv.1.lt ⟨by omega, by omega⟩
              have hp := Cd_put ⟨by omega, by omega⟩ htk hv.1
              have e1 := bit_add (x := v) (k := k) ⟨by omega, by omega⟩ ⟨hv.1.1, hlt⟩
              refine h _ (Or.inr ⟨Cd_mo hp (by omega), fun x hx => ?_⟩)
              have e2 : (2 : Int) ^ (k + 1).toNat = 2 * 2 ^ k.toNat := by rw [show (k + 1).toNat = k.toNat + 1 by omega, Int.pow_succ]; omega
              by_cases hl : x < 2 ^ (k + 1).toNat
              · have hx1 : Cd C t n (k + 1) x := ⟨hx.1, hx.2.1, fun j a c z => ⟨(hx.2.2.1 j a c z).1, Classical.byContradiction (fun y => has_lt (n := (k + 1).toNat) (by omega) ⟨hx.1, hl⟩ ⟨by omega, c⟩ z)⟩, hx.2.2.2⟩
                by_cases hb9 : hasI x k
                · obtain ⟨y, y1, y2, y3⟩ := Cd_bit ⟨by omega, by omega⟩ hx1 hb9
                  have e3 := bit_add (x := y) (k := k) ⟨by omega, by omega⟩ ⟨y1.1, y1.lt ⟨by omega, by omega⟩⟩
                  have := hv.2 y y1
                  rw [y3]; omega
                · exact absurd (Cd_no hx1 hb9) (h4 x)
              · omega
          · skip
            refine s_iload 25 dX4_without_23 rfl rfl ?_
            refine s_iload_n 26 dX4_without_25 rfl rfl ?_
            refine s_icmp_ge 78 29 dX4_without_26 rfl rfl (by first | omega | exact bI_r _ | exact iI_r _) (by first | omega | exact bI_r _ | exact iI_r _) (fun h_26 => by exfalso; omega) (fun h_26 => ?_)
            refine s_iload_n 30 dX4_without_29 rfl rfl ?_
            refine s_iload 32 dX4_without_30 rfl rfl ?_
            refine s_ishr 33 dX4_without_32 rfl ?_
            refine s_iconst 34 dX4_without_33 rfl ?_
            refine s_iand 35 dX4_without_34 rfl ?_
            refine s_iconst 36 dX4_without_35 rfl ?_
            refine s_icmp_ne 72 39 dX4_without_36 rfl rfl (by first | omega | exact iand_r _ _) (by first | omega | exact iand_r _ _) (fun h_36 => ?_) (fun h_36 => by exfalso; exact htk h_36)
            refine s_iinc (ls' := [_, _, _, _, _, _]) 75 dX4_without_72 rfl rfl (Nat.le_of_ble_eq_true rfl) rfl rfl ?_
            refine s_goto 23 dX4_without_75 rfl ?_
            exact nx _ (fun y hy => htk hy.2)
        · have h4' : ∀ x, ¬ Cd C t n b x := fun x hx => by
            by_cases z : k ≤ b
            · rw [if_pos z] at h4; have : k = b := by omega
              subst this; exact h4 x hx
            · rw [if_neg z] at h4; exact h4 x hx
          refine s_iload 25 dX4_without_23 rfl rfl ?_
          refine s_iload_n 26 dX4_without_25 rfl rfl ?_
          refine s_icmp_ge 78 29 dX4_without_26 rfl rfl (by first | omega | exact bI_r _ | exact iI_r _) (by first | omega | exact bI_r _ | exact iI_r _) (fun h_26 => ?_) (fun h_26 => by exfalso; omega)
          refine s_iconst 79 dX4_without_78 rfl ?_
          refine s_iret dX4_without_79 rfl rfl ?_
          exact h (-1) (Or.inl ⟨rfl, h4'⟩)
    refine s_iload_n 1 dX4_without_0 rfl rfl ?_
    refine s_if_gt 18 4 dX4_without_1 rfl rfl (by first | omega | exact bI_r _ | exact iI_r _) (fun h_1 => ?_) (fun h_1 => by exfalso; omega)
    refine s_iload_n 19 dX4_without_18 rfl rfl ?_
    refine s_iconst 20 dX4_without_19 rfl ?_
    refine s_isub 21 dX4_without_20 rfl ?_
    refine s_istore (ls' := [_, _, _, _, _, _]) 23 dX4_without_21 rfl (Nat.le_of_ble_eq_true rfl) rfl rfl ?_
    refine loop 20 (n - 1) _ (by omega) (by omega) (Or.inr rfl) (fun x hx => ?_)
    have e1 : bits x = (cn x 14 : Int) := bc_cn x 14 (by decide)
    have e2 := hx.2.2.2.1
    have e3 := cn_bd (S := x) (b := n - 1) (by omega) (fun j a c z => by have := (hx.2.2.1 j a c z).2; split at this <;> omega) 14 (by decide)
    omega
set_option maxHeartbeats 4000000 in
theorem c_X4_leastCut {E : ET} {I : MI} {L : ML} {R : MR} {Q : Option AV → MI → ML → MR → Prop} {N P : Nat} {r sc : F1} {rd g cut s n : Int} (hT : Topo R) (hN : isN N) (hP : isP P) (hNP : R N 1 = some P) (hr : WFr r) (hR : PR I P r) (hV : NtV I N r rd g sc cut) (hsc : Perm (r 5) sc) (hg : 0 ≤ g ∧ g ≤ 99) (hn : 0 ≤ n ∧ n ≤ 3) (h : ∀ v, WoV (fun y => Can r rd (bgF r g sc) (clF r g sc) (sqF r g sc) (fun k => hasI y k)) (iand (onsS r s) (ixor cut (-1))) n (r 7) v → Q (some (vi v)) I L R) : CT E M_X4_leastCut 161 yX4_leastCut [(vr (N)), (vi (s)), (vi (n))] I L R Q := by
  refine CT_of rfl rfl (fun h => by cases h) (Nat.le_of_ble_eq_true rfl) (fun X => ?_)
  show V X _ z0 0 [some (vr (N)), some (vi (s)), some (vi (n))] [] I L R _
  have e0 := hr.1
  have e11 := hV.2.2.2.2
  have e7 := hR.1.2.2.2.2.2.2.1
  refine s_aload_n 1 dX4_leastCut_0 rfl rfl ?_
  refine s_aload_n 2 dX4_leastCut_1 rfl rfl ?_
  refine s_getR 5 dX4_leastCut_2 rfl fl_X4_49 (fun _ _ _ _ => rfl) (by assumption) (isN_sh hN) (isN_lt hN) ?_
  refine s_iload_n 6 dX4_leastCut_5 rfl rfl ?_
  refine s_callV0 (M' := M_X5_onsOfParts) (as := [_]) 9 dX4_leastCut_6 rfl cw_X4_116 rfl rfl (isP_sh (by assumption)) rfl (by decide) (isP_lt (by assumption)) (Nat.le_of_ble_eq_true rfl) (Nat.le_of_ble_eq_true rfl) (Nat.le_of_ble_eq_true rfl) ⟨rfl, rfl, rfl⟩ ?_
  refine c_X5_onsOfParts hT hP hr hR ?_
  refine s_aload_n 10 dX4_leastCut_9 rfl rfl ?_
  refine s_getI 13 dX4_leastCut_10 rfl fl_X4_43 (fun _ _ _ _ => rfl) (isN_sh hN) (isN_lt hN) (fun r_10 => ?_)
  rw [e11]
  refine s_iconst 14 dX4_leastCut_13 rfl ?_
  refine s_ixor 15 dX4_leastCut_14 rfl ?_
  refine s_iand 16 dX4_leastCut_15 rfl ?_
  refine s_iload_n 17 dX4_leastCut_16 rfl rfl ?_
  refine s_aload_n 18 dX4_leastCut_17 rfl rfl ?_
  refine s_getR 21 dX4_leastCut_18 rfl fl_X4_49 (fun _ _ _ _ => rfl) (by assumption) (isN_sh hN) (isN_lt hN) ?_
  refine s_getI 24 dX4_leastCut_21 rfl fl_X4_53 (fun _ _ _ _ => rfl) (isP_sh (by assumption)) (isP_lt (by assumption)) (fun r_21 => ?_)
  rw [e7]
  refine s_callV0 (M' := (M_X4_without 4)) (as := [_, _, _]) 27 dX4_leastCut_24 rfl cw_X4_137 rfl rfl (isN_sh hN) rfl (by decide) (isN_lt hN) (by first | exact Nat.le_of_ble_eq_true rfl | (simp only [mrk]; omega)) (Nat.le_of_ble_eq_true rfl) (Nat.le_of_ble_eq_true rfl) ⟨rfl, rfl, rfl⟩ ?_
  refine c_X4_without 4 hT hN hP hNP hr hR hV hsc hg (iand_r _ _) (fun k k1 k2 z => ?_) hn (by omega) (by omega) (fun v hv => ?_)
  · rw [has_andn ⟨by omega, k2⟩, has_onsS (by omega) ⟨by omega, k2⟩] at z
    omega
  refine s_iret dX4_leastCut_27 rfl rfl ?_
  exact h v hv
