/-! whether there is an ORDER, by the class -/
/-- how many of the first so many numbers are in the set -/
def cn (S : Int) : Nat → Nat
  | 0 => 0
  | k + 1 => cn S k + if hasI S k then 1 else 0
theorem cn_le (S : Int) : ∀ k, cn S k ≤ k
  | 0 => Nat.le_refl _
  | k + 1 => by
    have := cn_le S k
    unfold cn
    split <;> omega
theorem cn_mo {S T : Int} (h : ∀ k, 0 ≤ k → k < 32 → hasI S k → hasI T k) : ∀ k : Nat, k ≤ 32 → cn S k ≤ cn T k
  | 0, _ => Nat.le_refl _
  | k + 1, hk => by
    have := cn_mo h k (by omega)
    unfold cn
    by_cases z : hasI S k
    · rw [if_pos z, if_pos (h k (by omega) (by omega) z)]; omega
    · rw [if_neg z]; split <;> omega
theorem cn_lt {S T : Int} (h : ∀ k, 0 ≤ k → k < 32 → hasI S k → hasI T k) {a : Int} (ha : 0 ≤ a) (h1 : ¬ hasI S a) (h2 : hasI T a) : ∀ k : Nat, k ≤ 32 → a < k → cn S k < cn T k
  | 0, _, hk => by omega
  | k + 1, hk, hak => by
    unfold cn
    by_cases e : a = k
    · subst e
      have := cn_mo h k (by omega)
      rw [if_neg h1, if_pos h2]; omega
    · have := cn_lt h ha h1 h2 k (by omega) (by omega)
      by_cases z : hasI S k
      · rw [if_pos z, if_pos (h k (by omega) (by omega) z)]; omega
      · rw [if_neg z]; split <;> omega
theorem cn_all {S : Int} : ∀ k : Nat, cn S k = k → ∀ a : Int, 0 ≤ a → a < k → hasI S a
  | 0, _, a, h1, h2 => by omega
  | k + 1, h, a, h1, h2 => by
    have hl := cn_le S k
    unfold cn at h
    by_cases z : hasI S k
    · rw [if_pos z] at h
      by_cases e : a = k
      · rw [e]; exact z
      · exact cn_all k (by omega) a h1 (by omega)
    · rw [if_neg z] at h; omega
theorem allF_has {n k : Int} (hn : 0 ≤ n ∧ n ≤ 14) (hk : 0 ≤ k ∧ k < 32) : hasI (allF n) k ↔ k < n := by
  have hc : n = 0 ∨ n = 1 ∨ n = 2 ∨ n = 3 ∨ n = 4 ∨ n = 5 ∨ n = 6 ∨ n = 7 ∨ n = 8 ∨ n = 9 ∨ n = 10 ∨ n = 11 ∨ n = 12 ∨ n = 13 ∨ n = 14 := by omega
  have key : ∀ m : Nat, m < 15 → ∀ j : Nat, j < 32 → (hasI (allF m) j ↔ j < m) := by decide +kernel
  have := key n.toNat (by omega) k.toNat (by omega)
  rw [show ((n.toNat : Nat) : Int) = n by omega, show ((k.toNat : Nat) : Int) = k by omega] at this
  rw [this]
  omega
/-- no SCENE of the first n comes ahead of itself -/
def AcyN (A : F1) (n : Int) : Prop := ∃ ρ : Int → Nat, ∀ s, 0 ≤ s → s < n → ∀ u, 0 ≤ u → u < 32 → hasI (A s) u → ρ u < ρ s
theorem mx_32 (ρ : Int → Nat) : ∃ M : Nat, ∀ u : Int, 0 ≤ u → u < 32 → ρ u < M := by
  have : ∀ n : Nat, ∃ M : Nat, ∀ u : Int, 0 ≤ u → u < n → ρ u < M := by
    intro n
    induction n with
    | zero => exact ⟨0, fun u a b => by omega⟩
    | succ n ih =>
      obtain ⟨M, hM⟩ := ih
      refine ⟨M + ρ n + 1, fun u a b => ?_⟩
      by_cases e : u = n
      · rw [e]; omega
      · have := hM u a (by omega); omega
  exact this 32
/-- the closed sets with a rank -/
def Clo (A : F1) (n S : Int) : Prop := ∃ ρ : Int → Nat, ∀ s, 0 ≤ s → s < n → hasI S s → ∀ u, 0 ≤ u → u < 32 → hasI (A s) u → hasI S u ∧ ρ u < ρ s
theorem Clo.add {A : F1} {n S t : Int} (hn : n ≤ 5) (h : Clo A n S) (ht : 0 ≤ t ∧ t < n) (hs : ∀ u, 0 ≤ u → u < 32 → hasI (A t) u → hasI S u) : Clo A n (ior S (ishl 1 t)) := by
  obtain ⟨ρ, hρ⟩ := h
  by_cases z : hasI S t
  · refine ⟨ρ, fun s s1 s2 s3 u u1 u2 u3 => ?_⟩
    have s4 : hasI S s := by
      rcases (has_or ⟨s1, by omega⟩).mp s3 with y | y
      · exact y
      · rw [(has_shl (by omega) ⟨s1, by omega⟩).mp y]; exact z
    have g := hρ s s1 s2 s4 u u1 u2 u3
    exact ⟨(has_or ⟨u1, u2⟩).mpr (Or.inl g.1), g.2⟩
  · obtain ⟨M, hM⟩ := mx_32 ρ
    refine ⟨fun s => if s = t then M else ρ s, fun s s1 s2 s3 u u1 u2 u3 => ?_⟩
    by_cases e : s = t
    · subst e
      have g := hs u u1 u2 u3
      have ut : u ≠ s := fun y => z (by rw [← y]; exact g)
      refine ⟨(has_or ⟨u1, u2⟩).mpr (Or.inl g), ?_⟩
      simp only [if_neg ut, if_true]
      exact hM u u1 u2
    · have s4 : hasI S s := by
        rcases (has_or ⟨s1, by omega⟩).mp s3 with y | y
        · exact y
        · exact absurd ((has_shl (by omega) ⟨s1, by omega⟩).mp y) e
      have g := hρ s s1 s2 s4 u u1 u2 u3
      have ut : u ≠ t := fun y => z (by rw [← y]; exact g.1)
      refine ⟨(has_or ⟨u1, u2⟩).mpr (Or.inl g.1), ?_⟩
      simp only [if_neg ut, if_neg e]
      exact g.2
theorem andn_0 {x y : Int} (hx : -2147483648 ≤ x ∧ x ≤ 2147483647) : iand x (ixor y (-1)) = 0 ↔ ∀ k, 0 ≤ k → k < 32 → hasI x k → hasI y k := by
  constructor
  · intro h k k1 k2 k3
    apply Classical.byContradiction
    intro z
    have := (has_andn (x := x) (y := y) ⟨k1, k2⟩).mpr ⟨k3, z⟩
    rw [h] at this
    exact has_0 ⟨k1, k2⟩ this
  · intro h
    refine set_ext (iand_r _ _) (by omega) (fun k k1 k2 => ⟨fun z => ?_, fun z => absurd z (has_0 ⟨k1, k2⟩)⟩)
    have := (has_andn (x := x) (y := y) ⟨k1, k2⟩).mp z
    exact absurd (h k k1 k2 this.1) this.2
set_option maxHeartbeats 4000000 in
theorem c_X5_hasOrder {E : ET} {I : MI} {L : ML} {R : MR} {Q : Option AV → MI → ML → MR → Prop} {P : Nat} {A : F1} {n : Int} (hT : Topo R) (hP : isP P) (e4 : I P 4 = n) (hn : 0 ≤ n ∧ n ≤ 5) (hA : ∀ s, 0 ≤ s → s < 5 → I (P + 33) s = A s) (hB : ∀ s, 0 ≤ s → s < n → ∀ u, 0 ≤ u → u < 32 → hasI (A s) u → u < n) (h : Q (some (vi (bI (AcyN A n)))) I L R) : CT E M_X5_hasOrder 161 yX5_hasOrder [(vr (P))] I L R Q := by
  refine CT_of rfl rfl (fun h => by cases h) (Nat.le_of_ble_eq_true rfl) (fun X => ?_)
  show V X _ z0 0 [some (vr (P)), none, none, none] [] I L R _
  have hp : P = 3 ∨ P = 39 := hP
  -- one round
  have outer : ∀ (f : Nat) (i S : Int) (w3 : Option AV), n - i < (f : Int) → 0 ≤ i → i ≤ n → (-2147483648 ≤ S ∧ S ≤ 2147483647) → (∀ k, 0 ≤ k → k < 32 → hasI S k → k < n) → Clo A n S → (AcyN A n → i ≤ cn S n.toNat) → V X M_X5_hasOrder z0 4 [some (vr P), some (vi S), some (vi i), w3] [] I L R (RT X M_X5_hasOrder Q) := by
    intro f
    induction f with
    | zero => intro i S w3 h1 h2 h3; omega
    | succ f ih =>
      intro i S w3 h1 h2 h3 h4 h5 h6 h7
      by_cases hi : i < n
      · have inner : ∀ (g : Nat) (s T : Int), n - s < (g : Int) → 0 ≤ s → s ≤ n → (-2147483648 ≤ T ∧ T ≤ 2147483647) → (∀ k, 0 ≤ k → k < 32 → hasI T k → k < n) → Clo A n T → (∀ k, 0 ≤ k → k < 32 → hasI S k → hasI T k) → (∀ t, 0 ≤ t → t < s → (∀ u, 0 ≤ u → u < 32 → hasI (A t) u → hasI S u) → hasI T t) → V X M_X5_hasOrder z0 14 [some (vr (P)), some (vi (T)), some (vi (i)), some (vi (s))] [] (I) L R (RT X M_X5_hasOrder Q) := by
          intro g
          induction g with
          | zero => intro s T k1 k2 k3; omega
          | succ g ihg =>
            intro s T k1 k2 k3 k4 k5 k6 k7 k8
            by_cases hs : s < n
            · by_cases hc : ∀ u, 0 ≤ u → u < 32 → hasI (A s) u → hasI T u
              · have add : ∀ k, 0 ≤ k → k < 32 → hasI T k → hasI (ior T (ishl 1 s)) k := fun k a b c => (has_or ⟨a, b⟩).mpr (Or.inl c)
                refine s_iload_n 15 dX5_hasOrder_14 rfl rfl ?_
                refine s_aload_n 16 dX5_hasOrder_15 rfl rfl ?_
                refine s_getI 19 dX5_hasOrder_16 rfl fl_X5_48 (fun _ _ _ _ => rfl) (isP_sh hP) (isP_lt hP) (fun r_16 => ?_)
                rw [e4]
                refine s_icmp_ge 47 22 dX5_hasOrder_19 rfl rfl (by first | omega | exact bI_r _ | exact iI_r _) (by first | omega | exact bI_r _ | exact iI_r _) (fun h_19 => by exfalso; omega) (fun h_19 => ?_)
                refine s_aload_n 23 dX5_hasOrder_22 rfl rfl ?_
                refine s_getR 26 dX5_hasOrder_23 rfl fl_X5_26 (fun _ _ _ _ => rfl) (T_X5_ahead hT hP) (isP_sh hP) (isP_lt hP) ?_
                refine s_iload_n 27 dX5_hasOrder_26 rfl rfl ?_
                refine s_iald 28 dX5_hasOrder_27 rfl (shP_ahead hP) (ltP_ahead hP) (by omega) (by omega) (fun r_27 => ?_)
                rw [hA s k2 (by omega)] at r_27 ⊢
                refine s_iload_n 29 dX5_hasOrder_28 rfl rfl ?_
                refine s_iconst 30 dX5_hasOrder_29 rfl ?_
                refine s_ixor 31 dX5_hasOrder_30 rfl ?_
                refine s_iand 32 dX5_hasOrder_31 rfl ?_
                refine s_if_ne 41 35 dX5_hasOrder_32 rfl rfl (by first | omega | exact iand_r _ _) (fun h_32 => by exfalso; exact h_32 ((andn_0 r_27).mpr hc)) (fun h_32 => ?_)
                refine s_iload_n 36 dX5_hasOrder_35 rfl rfl ?_
                refine s_iconst 37 dX5_hasOrder_36 rfl ?_
                refine s_iload_n 38 dX5_hasOrder_37 rfl rfl ?_
                refine s_ishl 39 dX5_hasOrder_38 rfl ?_
                refine s_ior 40 dX5_hasOrder_39 rfl ?_
                refine s_istore_n (ls' := [_, _, _, _]) 41 dX5_hasOrder_40 rfl (Nat.le_of_ble_eq_true rfl) rfl rfl ?_
                refine s_iinc (ls' := [_, _, _, _]) 44 dX5_hasOrder_41 rfl rfl (Nat.le_of_ble_eq_true rfl) rfl rfl ?_
                refine s_goto 14 dX5_hasOrder_44 rfl ?_
                refine ihg (s + 1) _ (by omega) (by omega) (by omega) (ior_r _ _) (fun k a b c => ?_) (k6.add (by omega) ⟨k2, hs⟩ hc) (fun k a b c => add k a b (k7 k a b c)) (fun t t1 t2 t3 => ?_)
                · rcases (has_or ⟨a, b⟩).mp c with y | y
                  · exact k5 k a b y
                  · have := (has_shl (by omega) ⟨a, b⟩).mp y; omega
                · by_cases e : t = s
                  · rw [e]; exact (has_or ⟨by omega, by omega⟩).mpr (Or.inr ((has_shl (by omega) (by omega)).mpr rfl))
                  · exact add t t1 (by omega) (k8 t t1 (by omega) t3)
              · skip
                refine s_iload_n 15 dX5_hasOrder_14 rfl rfl ?_
                refine s_aload_n 16 dX5_hasOrder_15 rfl rfl ?_
                refine s_getI 19 dX5_hasOrder_16 rfl fl_X5_48 (fun _ _ _ _ => rfl) (isP_sh hP) (isP_lt hP) (fun r_16 => ?_)
                rw [e4]
                refine s_icmp_ge 47 22 dX5_hasOrder_19 rfl rfl (by first | omega | exact bI_r _ | exact iI_r _) (by first | omega | exact bI_r _ | exact iI_r _) (fun h_19 => by exfalso; omega) (fun h_19 => ?_)
                refine s_aload_n 23 dX5_hasOrder_22 rfl rfl ?_
                refine s_getR 26 dX5_hasOrder_23 rfl fl_X5_26 (fun _ _ _ _ => rfl) (T_X5_ahead hT hP) (isP_sh hP) (isP_lt hP) ?_
                refine s_iload_n 27 dX5_hasOrder_26 rfl rfl ?_
                refine s_iald 28 dX5_hasOrder_27 rfl (shP_ahead hP) (ltP_ahead hP) (by omega) (by omega) (fun r_27 => ?_)
                rw [hA s k2 (by omega)] at r_27 ⊢
                refine s_iload_n 29 dX5_hasOrder_28 rfl rfl ?_
                refine s_iconst 30 dX5_hasOrder_29 rfl ?_
                refine s_ixor 31 dX5_hasOrder_30 rfl ?_
                refine s_iand 32 dX5_hasOrder_31 rfl ?_
                refine s_if_ne 41 35 dX5_hasOrder_32 rfl rfl (by first | omega | exact iand_r _ _) (fun h_32 => ?_) (fun h_32 => by exfalso; exact hc ((andn_0 r_27).mp h_32))
                refine s_iinc (ls' := [_, _, _, _]) 44 dX5_hasOrder_41 rfl rfl (Nat.le_of_ble_eq_true rfl) rfl rfl ?_
                refine s_goto 14 dX5_hasOrder_44 rfl ?_
                refine ihg (s + 1) T (by omega) (by omega) (by omega) k4 k5 k6 k7 (fun t t1 t2 t3 => ?_)
                by_cases e : t = s
                · exact absurd (fun u a b c => k7 u a b (t3 u a b (by rw [e]; exact c))) hc
                · exact k8 t t1 (by omega) t3
            · have es : s = n := by omega
              refine s_iload_n 15 dX5_hasOrder_14 rfl rfl ?_
              refine s_aload_n 16 dX5_hasOrder_15 rfl rfl ?_
              refine s_getI 19 dX5_hasOrder_16 rfl fl_X5_48 (fun _ _ _ _ => rfl) (isP_sh hP) (isP_lt hP) (fun r_16 => ?_)
              rw [e4]
              refine s_icmp_ge 47 22 dX5_hasOrder_19 rfl rfl (by first | omega | exact bI_r _ | exact iI_r _) (by first | omega | exact bI_r _ | exact iI_r _) (fun h_19 => ?_) (fun h_19 => by exfalso; omega)
              refine s_iinc (ls' := [_, _, _, _]) 50 dX5_hasOrder_47 rfl rfl (Nat.le_of_ble_eq_true rfl) rfl rfl ?_
              refine s_goto 4 dX5_hasOrder_50 rfl ?_
              refine ih (i + 1) T _ (by omega) (by omega) (by omega) k4 k5 k6 (fun hAc => ?_)
              have h7 := h7 hAc
              have mo := cn_mo k7 n.toNat (by omega)
              by_cases full : cn S n.toNat = n.toNat
              · omega
              · have hex : ∃ t, (0 ≤ t ∧ t < n) ∧ ¬ hasI S t := Classical.byContradiction (fun z => full (by
                  have all : ∀ m : Nat, (m : Int) ≤ n → cn S m = m := fun m => by
                    induction m with
                    | zero => exact fun _ => rfl
                    | succ m ihm =>
                      intro hm
                      have y : hasI S m := Classical.byContradiction (fun y => z ⟨m, ⟨by omega, by omega⟩, y⟩)
                      show cn S m + _ = _
                      rw [ihm (by omega), if_pos y]
                  exact all n.toNat (by omega)))
                obtain ⟨ρ, hρ⟩ := hAc
                obtain ⟨t0, t1, t2⟩ := hex
                obtain ⟨t, ⟨⟨y1, y2⟩, y3⟩, y4⟩ := least_un (ρ := ρ) (S := fun s => (0 ≤ s ∧ s < n) ∧ ¬ hasI S s) (ρ t0) t0 (Nat.le_refl _) ⟨t1, t2⟩
                have hin : hasI T t := k8 t y1 (by omega) (fun u u1 u2 u3 => Classical.byContradiction (fun y => by
                  have q1 := hρ t y1 y2 u u1 u2 u3
                  have q2 := y4 u ⟨⟨u1, hB t y1 y2 u u1 u2 u3⟩, y⟩
                  omega))
                have := cn_lt k7 y1 y3 hin n.toNat (by omega) (by omega)
                omega
        refine s_iload_n 5 dX5_hasOrder_4 rfl rfl ?_
        refine s_aload_n 6 dX5_hasOrder_5 rfl rfl ?_
        refine s_getI 9 dX5_hasOrder_6 rfl fl_X5_48 (fun _ _ _ _ => rfl) (isP_sh hP) (isP_lt hP) (fun r_6 => ?_)
        rw [e4]
        refine s_icmp_ge 53 12 dX5_hasOrder_9 rfl rfl (by first | omega | exact bI_r _ | exact iI_r _) (by first | omega | exact bI_r _ | exact iI_r _) (fun h_9 => by exfalso; omega) (fun h_9 => ?_)
        refine s_iconst 13 dX5_hasOrder_12 rfl ?_
        refine s_istore_n (ls' := [_, _, _, _]) 14 dX5_hasOrder_13 rfl (Nat.le_of_ble_eq_true rfl) rfl rfl ?_
        exact inner (n + 1).toNat 0 S (by omega) (by omega) (by omega) h4 h5 h6 (fun k a b c => c) (fun t t1 t2 => by omega)
      · have ei : i = n := by omega
        have fin : AcyN A n ↔ S = allF n := by
          constructor
          · intro hAc
            have c1 := h7 hAc
            have c2 := cn_le S n.toNat
            have all := cn_all (S := S) n.toNat (by omega)
            refine set_ext h4 (by have := allF_v (n := n) (by omega); have h14 := allF_14 (n := n) (by omega); omega) (fun k k1 k2 => ?_)
            rw [allF_has (by omega) ⟨k1, k2⟩]
            exact ⟨fun z => h5 k k1 k2 z, fun z => all k k1 (by omega)⟩
          · intro e
            obtain ⟨ρ, hρ⟩ := h6
            refine ⟨ρ, fun s s1 s2 u u1 u2 u3 => ?_⟩
            have hs : hasI S s := by rw [e, allF_has (by omega) ⟨s1, by omega⟩]; exact s2
            exact (hρ s s1 s2 hs u u1 u2 u3).2
        have h14 := allF_14 (n := n) (by omega)
        refine s_iload_n 5 dX5_hasOrder_4 rfl rfl ?_
        refine s_aload_n 6 dX5_hasOrder_5 rfl rfl ?_
        refine s_getI 9 dX5_hasOrder_6 rfl fl_X5_48 (fun _ _ _ _ => rfl) (isP_sh hP) (isP_lt hP) (fun r_6 => ?_)
        rw [e4]
        refine s_icmp_ge 53 12 dX5_hasOrder_9 rfl rfl (by first | omega | exact bI_r _ | exact iI_r _) (by first | omega | exact bI_r _ | exact iI_r _) (fun h_9 => ?_) (fun h_9 => by exfalso; omega)
        refine s_iload_n 54 dX5_hasOrder_53 rfl rfl ?_
        refine s_iconst 55 dX5_hasOrder_54 rfl ?_
        refine s_aload_n 56 dX5_hasOrder_55 rfl rfl ?_
        refine s_getI 59 dX5_hasOrder_56 rfl fl_X5_48 (fun _ _ _ _ => rfl) (isP_sh hP) (isP_lt hP) (fun r_56 => ?_)
        rw [e4]
        refine s_ishl 60 dX5_hasOrder_59 rfl ?_
        refine s_iconst 61 dX5_hasOrder_60 rfl ?_
        refine s_isub 62 dX5_hasOrder_61 rfl ?_
        refine s_icmp_ne 69 65 dX5_hasOrder_62 rfl rfl (by first | omega | exact h4 | exact (show -2147483648 ≤ allF n ∧ allF n ≤ 2147483647 by omega)) (by first | omega | exact h4 | exact (show -2147483648 ≤ allF n ∧ allF n ≤ 2147483647 by omega)) (fun h_62 => ?_) (fun h_62 => ?_)
        · skip
          refine s_iconst 70 dX5_hasOrder_69 rfl ?_
          refine s_zret dX5_hasOrder_70 rfl (by first | omega | exact bI_b _) rfl ?_
          first | exact ret_t (fin.mpr (show S = allF n by assumption)) h | exact ret_f (fun z => absurd (fin.mp z) (show ¬ S = allF n by assumption)) h
        refine s_iconst 66 dX5_hasOrder_65 rfl ?_
        refine s_goto 70 dX5_hasOrder_66 rfl ?_
        refine s_zret dX5_hasOrder_70 rfl (by first | omega | exact bI_b _) rfl ?_
        first | exact ret_t (fin.mpr (show S = allF n by assumption)) h | exact ret_f (fun z => absurd (fin.mp z) (show ¬ S = allF n by assumption)) h
  refine s_iconst 1 dX5_hasOrder_0 rfl ?_
  refine s_istore_n (ls' := [_, _, _, _]) 2 dX5_hasOrder_1 rfl (Nat.le_of_ble_eq_true rfl) rfl rfl ?_
  refine s_iconst 3 dX5_hasOrder_2 rfl ?_
  refine s_istore_n (ls' := [_, _, _, _]) 4 dX5_hasOrder_3 rfl (Nat.le_of_ble_eq_true rfl) rfl rfl ?_
  exact outer 6 0 0 _ (by omega) (by omega) (by omega) (by omega) (fun k a b c => absurd c (has_0 ⟨a, b⟩)) ⟨fun _ => 0, fun s a b c => absurd c (has_0 ⟨a, by omega⟩)⟩ (fun _ => by omega)
theorem Anc_le {r : F1} {ρ : Int → Nat} {one : Int} (hρ : ∀ s, 0 ≤ s → s < 5 → ∀ u, 0 ≤ u → u < 32 → hasI (r (49 + s)) u → ρ u < ρ s) : ∀ (m : Nat) (s : Int), 0 ≤ s → s < 32 → Anc r one m s → ρ s ≤ ρ one
  | 0, s, _, _, h => by rw [show s = one from h]; exact Nat.le_refl _
  | m + 1, s, h0, h1, h => by
    obtain ⟨u, u1, u2, u3, u4⟩ := h
    have := Anc_le hρ m u u1 (by omega) u3
    have := hρ u u1 u2 s h0 h1 u4
    omega
/-- an after more makes a circle just if the second came ahead of the first -/
theorem acy_new {r r' : F1} {one two : Int} (h1 : 0 ≤ one ∧ one < 5) (h2 : 0 ≤ two ∧ two < 5) (ha : Acy r) (e2 : r' (49 + two) = ior (r (49 + two)) (ishl 1 one)) (e : ∀ s, 0 ≤ s → s < 5 → s ≠ two → r' (49 + s) = r (49 + s)) : Acy r' ↔ ¬ AncP r one two := by
  have new : ∀ s, 0 ≤ s → s < 5 → ∀ u, 0 ≤ u → u < 32 → (hasI (r' (49 + s)) u ↔ hasI (r (49 + s)) u ∨ (s = two ∧ u = one)) := by
    intro s s1 s2 u u1 u2
    by_cases z : s = two
    · rw [z, e2, has_or ⟨u1, u2⟩, has_shl (by omega) ⟨u1, u2⟩]
      constructor
      · rintro (y | y)
        · exact Or.inl y
        · exact Or.inr ⟨rfl, y⟩
      · rintro (y | ⟨-, y⟩)
        · exact Or.inl y
        · exact Or.inr y
    · rw [e s s1 s2 z]
      exact ⟨fun y => Or.inl y, fun y => y.elim id (fun w => absurd w.1 z)⟩
  constructor
  · rintro ⟨ρ, hρ⟩ ⟨m, hm⟩
    have q1 := Anc_le (r := r) (ρ := ρ) (fun s s1 s2 u u1 u2 hu => hρ s s1 s2 u u1 u2 ((new s s1 s2 u u1 u2).mpr (Or.inl hu))) m two h2.1 (by omega) hm
    have q2 := hρ two h2.1 h2.2 one h1.1 (by omega) ((new two h2.1 h2.2 one h1.1 (by omega)).mpr (Or.inr ⟨rfl, rfl⟩))
    omega
  · intro x4
    obtain ⟨ρ, hρ⟩ := ha
    refine ⟨fun s => @ite Nat (AncP r one s) (Classical.propDecidable _) (ρ s) (ρ s + (ρ one + 1)), fun s s1 s2 u u1 u2 hu => ?_⟩
    rcases (new s s1 s2 u u1 u2).mp hu with y | ⟨y1, y2⟩
    · have h1 := hρ s s1 s2 u u1 u2 y
      by_cases z : AncP r one s
      · have zu : AncP r one u := z.st ⟨s1, s2⟩ y
        simp only [if_pos z, if_pos zu]; exact h1
      · by_cases zu : AncP r one u
        · simp only [if_neg z, if_pos zu]; omega
        · simp only [if_neg z, if_neg zu]; omega
    · subst y1; subst y2
      simp only [if_pos (AncP.rf : AncP r u u), if_neg x4]; omega
