/-! in how many ways: counted by numbers, counted by sets -/
theorem smI_add {f : Int → Int} {a : Nat} : ∀ b : Nat, smI f (a + b) = smI f a + smI (fun k => f (a + k)) b
  | 0 => by show smI f a = smI f a + 0; omega
  | b + 1 => by
    show smI f (a + b) + f ((a + b : Nat) : Int) = smI f a + (smI (fun k => f (a + k)) b + f (a + (b : Nat)))
    rw [smI_add b, Int.natCast_add]; omega
theorem smI_c {f g : Int → Int} : ∀ {n : Nat}, (∀ k : Int, 0 ≤ k → k < n → f k = g k) → smI f n = smI g n
  | 0, _ => rfl
  | n + 1, h => by
    show smI f n + f n = smI g n + g n
    rw [smI_c (fun k a b => h k a (by omega)), h n (by omega) (by omega)]
theorem smI_pl {f g : Int → Int} : ∀ n : Nat, smI (fun k => f k + g k) n = smI f n + smI g n
  | 0 => rfl
  | n + 1 => by
    show smI (fun k => f k + g k) n + (f n + g n) = (smI f n + f n) + (smI g n + g n)
    rw [smI_pl n]; omega
theorem smI_0 {f : Int → Int} : ∀ {n : Nat}, (∀ k : Int, 0 ≤ k → k < n → f k = 0) → smI f n = 0
  | 0, _ => rfl
  | n + 1, h => by
    show smI f n + f n = 0
    rw [smI_0 (fun k a b => h k a (by omega)), h n (by omega) (by omega)]; rfl
theorem who_sm {G : Int → Prop} {n m : Int} : ∀ N : Nat, whoF G n m N = smI (fun c => pick (∀ q, 0 ≤ q → q < m → G (grF (dgF m c) n q)) 1 0) N
  | 0 => rfl
  | N + 1 => by
    show whoF G n m N + _ = smI _ N + _
    rw [who_sm N]
theorem lf_add {m c d : Int} (hm : 0 < m) (n : Nat) : ∀ k : Nat, k ≤ n → lfF m (c + d * m ^ n) k = lfF m c k + d * m ^ (n - k)
  | 0, _ => rfl
  | k + 1, h => by
    show lfF m (c + d * m ^ n) k / m = lfF m c k / m + d * m ^ (n - (k + 1))
    rw [lf_add hm n k (by omega), show n - k = (n - (k + 1)) + 1 by omega, Int.pow_succ, ← Int.mul_assoc, Int.add_mul_ediv_right _ _ (by omega)]
theorem lf_lt {m c : Int} (hm : 0 < m) (n : Nat) (h : 0 ≤ c ∧ c < m ^ n) : ∀ k : Nat, k ≤ n → 0 ≤ lfF m c k ∧ lfF m c k < m ^ (n - k)
  | 0, _ => h
  | k + 1, hk => by
    have ih := lf_lt hm n h k (by omega)
    show 0 ≤ lfF m c k / m ∧ lfF m c k / m < m ^ (n - (k + 1))
    rw [show n - k = (n - (k + 1)) + 1 by omega, Int.pow_succ] at ih
    exact ⟨Int.ediv_nonneg ih.1 (by omega), Int.ediv_lt_of_lt_mul hm ih.2⟩
theorem dg_lo {m c d : Int} (hm : 0 < m) {n : Nat} {p : Int} (hp : 0 ≤ p ∧ p < n) : dgF m (c + d * m ^ n) p = dgF m c p := by
  unfold dgF
  rw [lf_add hm n p.toNat (by omega), show n - p.toNat = (n - p.toNat - 1) + 1 by omega, Int.pow_succ, ← Int.mul_assoc, Int.add_mul_emod_self_right]
theorem dg_hi {m c d : Int} (hm : 0 < m) {n : Nat} (hc : 0 ≤ c ∧ c < m ^ n) (hd : 0 ≤ d ∧ d < m) : dgF m (c + d * m ^ n) n = d := by
  unfold dgF
  have h := lf_lt hm n hc n (Nat.le_refl _)
  rw [show ((n : Int)).toNat = n by omega, lf_add hm n n (Nat.le_refl _)]
  rw [Nat.sub_self, Int.pow_zero] at *
  rw [show lfF m c n = 0 by omega, Int.mul_one, Int.zero_add]
  exact Int.emod_eq_of_lt hd.1 hd.2
theorem or_top : ∀ n : Fin 7, ∀ x : Fin 64, x.val < 2 ^ n.val → ior (x.val : Nat) (ishl 1 (n.val : Nat)) = (x.val : Nat) + (2 ^ n.val : Nat) ∧ ior (x.val : Nat) 0 = (x.val : Nat) := by decide +kernel
theorem gr_st {v : F1} {n : Nat} {q : Int} (hn : n ≤ 6) : grF v ((n + 1 : Nat) : Int) q = grF v n q + (if v n = q then ((2 ^ n : Nat) : Int) else (0 : Int)) := by
  have hb := setOf_lt (fun p => v p = q) (n := n) (by omega)
  have hp : (2 : Nat) ^ n ≤ 2 ^ 6 := Nat.pow_le_pow_right (by omega) hn
  have hp3 : (2 : Int) ^ n = ((2 ^ n : Nat) : Int) := by simp
  have h := or_top ⟨n, by omega⟩ ⟨(setOf (fun p => v p = q) n).toNat, by omega⟩ (by show (setOf (fun p => v p = q) n).toNat < 2 ^ n; omega)
  simp only [] at h
  rw [show (((setOf (fun p => v p = q) n).toNat : Nat) : Int) = setOf (fun p => v p = q) n by omega] at h
  unfold grF
  rw [show (((n + 1 : Nat) : Int)).toNat = n + 1 by omega, show ((n : Nat) : Int).toNat = n by omega]
  by_cases z : v n = q
  · have := setOf_t (P := fun p => v p = q) (k := (n : Int)) (by omega) z
    rw [show ((n : Int)).toNat = n by omega, show ((n : Int) + 1).toNat = n + 1 by omega] at this
    rw [if_pos z, ← this]; exact h.1
  · have := setOf_n (P := fun p => v p = q) (k := (n : Int)) (by omega) z
    rw [show ((n : Int)).toNat = n by omega, show ((n : Int) + 1).toNat = n + 1 by omega] at this
    rw [if_neg z, this, Int.add_zero]
theorem gr_dg {m c d : Int} (hm : 0 < m) {n : Nat} (hn : n ≤ 6) (hc : 0 ≤ c ∧ c < m ^ n) (hd : 0 ≤ d ∧ d < m) {q : Int} : grF (dgF m (c + d * m ^ n)) ((n + 1 : Nat) : Int) q = grF (dgF m c) n q + (if d = q then ((2 ^ n : Nat) : Int) else (0 : Int)) := by
  rw [gr_st hn, dg_hi hm hc hd, grF_c (v := dgF m (c + d * m ^ n)) (v' := dgF m c) (fun k a b => dg_lo hm ⟨a, b⟩)]
def R3 : Nat → (Int → Int → Int → Int) → Int
  | 0, V => V 0 0 0
  | n + 1, V => R3 n (fun a b c => V (a + (2 ^ n : Nat)) b c) + R3 n (fun a b c => V a (b + (2 ^ n : Nat)) c) + R3 n (fun a b c => V a b (c + (2 ^ n : Nat)))
def R2 : Nat → (Int → Int → Int) → Int
  | 0, V => V 0 0
  | n + 1, V => R2 n (fun a b => V (a + (2 ^ n : Nat)) b) + R2 n (fun a b => V a (b + (2 ^ n : Nat)))
theorem gr_z {v : F1} {q : Int} : grF v ((0 : Nat) : Int) q = 0 := rfl
theorem D3 : ∀ n : Nat, n ≤ 7 → ∀ V : Int → Int → Int → Int, smI (fun c => V (grF (dgF 3 c) n 0) (grF (dgF 3 c) n 1) (grF (dgF 3 c) n 2)) (3 ^ n) = R3 n V
  | 0, _, V => by
    show 0 + V (grF _ _ _) (grF _ _ _) (grF _ _ _) = V 0 0 0
    rw [gr_z, gr_z, gr_z]; omega
  | n + 1, h, V => by
    have hp3 : (3 : Int) ^ n = ((3 ^ n : Nat) : Int) := by simp
    have seg : ∀ d : Int, 0 ≤ d ∧ d < 3 → ∀ c : Int, 0 ≤ c → c < ((3 ^ n : Nat) : Int) → ∀ q, grF (dgF 3 (c + d * 3 ^ n)) ((n + 1 : Nat) : Int) q = grF (dgF 3 c) n q + (if d = q then ((2 ^ n : Nat) : Int) else (0 : Int)) := fun d hd c c1 c2 q => gr_dg (by decide) (by omega) ⟨c1, by omega⟩ hd
    rw [show (3 : Nat) ^ (n + 1) = 3 ^ n + 3 ^ n + 3 ^ n by rw [Nat.pow_succ]; omega, smI_add, smI_add]
    show _ = R3 n _ + R3 n _ + R3 n _
    rw [← D3 n (by omega), ← D3 n (by omega), ← D3 n (by omega)]
    congr 1
    · congr 1
      · refine smI_c (fun c c1 c2 => ?_)
        have s := seg 0 (by decide) c c1 c2
        rw [Int.zero_mul, Int.add_zero] at s
        rw [s, s, s, if_pos rfl, if_neg (by decide), if_neg (by decide), Int.add_zero, Int.add_zero]
      · refine smI_c (fun c c1 c2 => ?_)
        have s := seg 1 (by decide) c c1 c2
        rw [show c + 1 * 3 ^ n = ((3 ^ n : Nat) : Int) + c by omega] at s
        rw [s, s, s, if_pos rfl, if_neg (by decide), if_neg (by decide), Int.add_zero, Int.add_zero]
    · refine smI_c (fun c c1 c2 => ?_)
      have s := seg 2 (by decide) c c1 c2
      rw [show c + 2 * 3 ^ n = ((3 ^ n + 3 ^ n : Nat) : Int) + c by omega] at s
      rw [s, s, s, if_pos rfl, if_neg (by decide), if_neg (by decide), Int.add_zero, Int.add_zero]
theorem D2 : ∀ n : Nat, n ≤ 7 → ∀ V : Int → Int → Int, smI (fun c => V (grF (dgF 2 c) n 0) (grF (dgF 2 c) n 1)) (2 ^ n) = R2 n V
  | 0, _, V => by
    show 0 + V (grF _ _ _) (grF _ _ _) = V 0 0
    rw [gr_z, gr_z]; omega
  | n + 1, h, V => by
    have hp3 : (2 : Int) ^ n = ((2 ^ n : Nat) : Int) := by simp
    have seg : ∀ d : Int, 0 ≤ d ∧ d < 2 → ∀ c : Int, 0 ≤ c → c < ((2 ^ n : Nat) : Int) → ∀ q, grF (dgF 2 (c + d * 2 ^ n)) ((n + 1 : Nat) : Int) q = grF (dgF 2 c) n q + (if d = q then ((2 ^ n : Nat) : Int) else (0 : Int)) := fun d hd c c1 c2 q => gr_dg (by decide) (by omega) ⟨c1, by omega⟩ hd
    rw [show (2 : Nat) ^ (n + 1) = 2 ^ n + 2 ^ n by rw [Nat.pow_succ]; omega, smI_add]
    show _ = R2 n _ + R2 n _
    rw [← D2 n (by omega), ← D2 n (by omega)]
    congr 1
    · refine smI_c (fun c c1 c2 => ?_)
      have s := seg 0 (by decide) c c1 c2
      rw [Int.zero_mul, Int.add_zero] at s
      rw [s, s, if_pos rfl, if_neg (by decide), Int.add_zero]
    · refine smI_c (fun c c1 c2 => ?_)
      have s := seg 1 (by decide) c c1 c2
      rw [show c + 1 * 2 ^ n = ((2 ^ n : Nat) : Int) + c by omega] at s
      rw [s, s, if_pos rfl, if_neg (by decide), Int.add_zero]
theorem dj_all : ∀ n : Fin 7, ∀ x y : Fin (2 ^ n.val), (iand ((2 ^ n.val : Nat) + (x.val : Nat)) (y.val : Nat) = 0 ↔ iand (x.val : Nat) (y.val : Nat) = 0) ∧ (iand (x.val : Nat) ((2 ^ n.val : Nat) + (y.val : Nat)) = 0 ↔ iand (x.val : Nat) (y.val : Nat) = 0) ∧ ¬ iand ((2 ^ n.val : Nat) + (x.val : Nat)) ((2 ^ n.val : Nat) + (y.val : Nat)) = 0 := by decide +kernel
theorem dj_n {n : Nat} (hn : n ≤ 6) {x y : Int} (hx : 0 ≤ x ∧ x < ((2 ^ n : Nat) : Int)) (hy : 0 ≤ y ∧ y < ((2 ^ n : Nat) : Int)) : (iand (((2 ^ n : Nat) : Int) + x) y = 0 ↔ iand x y = 0) ∧ (iand x (((2 ^ n : Nat) : Int) + y) = 0 ↔ iand x y = 0) ∧ ¬ iand (((2 ^ n : Nat) : Int) + x) (((2 ^ n : Nat) : Int) + y) = 0 := by
  have hp : (2 : Nat) ^ n ≤ 2 ^ 6 := Nat.pow_le_pow_right (by omega) hn
  have h := dj_all ⟨n, by omega⟩ ⟨x.toNat, by show x.toNat < 2 ^ n; omega⟩ ⟨y.toNat, by show y.toNat < 2 ^ n; omega⟩
  simp only [] at h
  rw [show ((x.toNat : Nat) : Int) = x by omega, show ((y.toNat : Nat) : Int) = y by omega] at h
  exact h
theorem E3 : ∀ n : Nat, n ≤ 7 → ∀ V : Int → Int → Int → Int, smI (fun x => smI (fun y => pick (iand x y = 0) (V x y (((2 ^ n : Nat) : Int) - 1 - x - y)) 0) (2 ^ n)) (2 ^ n) = R3 n V
  | 0, _, V => by
    show 0 + (0 + pick (iand ((0 : Nat) : Int) ((0 : Nat) : Int) = 0) (V ((0 : Nat) : Int) ((0 : Nat) : Int) _) 0) = V 0 0 0
    rw [pick_t (by decide)]
    show 0 + (0 + V 0 0 0) = V 0 0 0
    omega
  | n + 1, h, V => by
    have e2 : (2 : Nat) ^ (n + 1) = 2 ^ n + 2 ^ n := by rw [Nat.pow_succ]; omega
    rw [e2]
    show _ = R3 n _ + R3 n _ + R3 n _
    rw [← E3 n (by omega), ← E3 n (by omega), ← E3 n (by omega), smI_add]
    have A : smI (fun x => smI (fun y => pick (iand x y = 0) (V x y (((2 ^ n + 2 ^ n : Nat) : Int) - 1 - x - y)) 0) (2 ^ n + 2 ^ n)) (2 ^ n) = smI (fun x => smI (fun y => pick (iand x y = 0) (V x y (((2 ^ n : Nat) : Int) - 1 - x - y + ((2 ^ n : Nat) : Int))) 0) (2 ^ n)) (2 ^ n) + smI (fun x => smI (fun y => pick (iand x y = 0) (V x (y + ((2 ^ n : Nat) : Int)) (((2 ^ n : Nat) : Int) - 1 - x - y)) 0) (2 ^ n)) (2 ^ n) := by
      rw [← smI_pl]
      refine smI_c (fun x x1 x2 => ?_)
      rw [smI_add]
      congr 1
      · refine smI_c (fun y y1 y2 => ?_)
        rw [show ((2 ^ n + 2 ^ n : Nat) : Int) - 1 - x - y = ((2 ^ n : Nat) : Int) - 1 - x - y + ((2 ^ n : Nat) : Int) by omega]
      · refine smI_c (fun y y1 y2 => ?_)
        have d := (dj_n (n := n) (by omega) ⟨x1, x2⟩ ⟨y1, y2⟩).2.1
        rw [show ((2 ^ n + 2 ^ n : Nat) : Int) - 1 - x - (((2 ^ n : Nat) : Int) + y) = ((2 ^ n : Nat) : Int) - 1 - x - y by omega, Int.add_comm ((2 ^ n : Nat) : Int) y] at *
        exact pick_c d rfl rfl
    have B : smI (fun k => (fun x => smI (fun y => pick (iand x y = 0) (V x y (((2 ^ n + 2 ^ n : Nat) : Int) - 1 - x - y)) 0) (2 ^ n + 2 ^ n)) (((2 ^ n : Nat) : Int) + k)) (2 ^ n) = smI (fun x => smI (fun y => pick (iand x y = 0) (V (x + ((2 ^ n : Nat) : Int)) y (((2 ^ n : Nat) : Int) - 1 - x - y)) 0) (2 ^ n)) (2 ^ n) := by
      refine smI_c (fun x x1 x2 => ?_)
      show smI _ (2 ^ n + 2 ^ n) = _
      rw [smI_add]
      refine (congr (congrArg HAdd.hAdd ?_) (smI_0 (fun y y1 y2 => ?_))).trans (Int.add_zero _)
      · refine smI_c (fun y y1 y2 => ?_)
        have d := (dj_n (n := n) (by omega) ⟨x1, x2⟩ ⟨y1, y2⟩).1
        rw [show ((2 ^ n + 2 ^ n : Nat) : Int) - 1 - (((2 ^ n : Nat) : Int) + x) - y = ((2 ^ n : Nat) : Int) - 1 - x - y by omega, Int.add_comm ((2 ^ n : Nat) : Int) x] at *
        exact pick_c d rfl rfl
      · have d := (dj_n (n := n) (by omega) ⟨x1, x2⟩ ⟨y1, y2⟩).2.2
        exact pick_f d
    rw [A, B]
    omega
theorem E2 : ∀ n : Nat, ∀ V : Int → Int → Int, smI (fun x => V x (((2 ^ n : Nat) : Int) - 1 - x)) (2 ^ n) = R2 n V
  | 0, V => by
    show 0 + V 0 0 = V 0 0
    omega
  | n + 1, V => by
    have e2 : (2 : Nat) ^ (n + 1) = 2 ^ n + 2 ^ n := by rw [Nat.pow_succ]; omega
    rw [e2]
    show _ = R2 n _ + R2 n _
    rw [← E2 n, ← E2 n, smI_add, Int.add_comm]
    congr 1
    · refine smI_c (fun x x1 x2 => ?_)
      rw [show ((2 ^ n + 2 ^ n : Nat) : Int) - 1 - (((2 ^ n : Nat) : Int) + x) = ((2 ^ n : Nat) : Int) - 1 - x by omega, Int.add_comm ((2 ^ n : Nat) : Int) x]
    · refine smI_c (fun x x1 x2 => ?_)
      rw [show ((2 ^ n + 2 ^ n : Nat) : Int) - 1 - x = ((2 ^ n : Nat) : Int) - 1 - x + ((2 ^ n : Nat) : Int) by omega]
theorem sb_all : ∀ t y : Fin 128, iand (y.val : Nat) (t.val : Nat) = (y.val : Nat) → ixor (t.val : Nat) (y.val : Nat) = (t.val : Nat) - (y.val : Nat) ∧ y.val ≤ t.val := by decide +kernel
theorem sb_x {t y : Int} (ht : 0 ≤ t ∧ t ≤ 127) (hy : 0 ≤ y ∧ y ≤ 127) (h : sub y t) : ixor t y = t - y ∧ y ≤ t := by
  have a := sb_all ⟨t.toNat, by omega⟩ ⟨y.toNat, by omega⟩
  simp only [] at a
  rw [show ((t.toNat : Nat) : Int) = t by omega, show ((y.toNat : Nat) : Int) = y by omega] at a
  have := a h
  omega
theorem sf_all : ∀ n : Fin 8, ∀ x y : Fin (2 ^ n.val), (iand (y.val : Nat) ((2 ^ n.val : Nat) - 1 - (x.val : Nat) : Int) = (y.val : Nat) ↔ iand (x.val : Nat) (y.val : Nat) = 0) ∧ iand (x.val : Nat) ((2 ^ n.val : Nat) - 1 : Int) = (x.val : Nat) := by decide +kernel
theorem sf_n {n : Nat} (hn : n ≤ 7) {x y : Int} (hx : 0 ≤ x ∧ x < ((2 ^ n : Nat) : Int)) (hy : 0 ≤ y ∧ y < ((2 ^ n : Nat) : Int)) : (sub y (((2 ^ n : Nat) : Int) - 1 - x) ↔ iand x y = 0) ∧ sub x (((2 ^ n : Nat) : Int) - 1) := by
  have hp : (2 : Nat) ^ n ≤ 2 ^ 7 := Nat.pow_le_pow_right (by omega) hn
  have h := sf_all ⟨n, by omega⟩ ⟨x.toNat, by show x.toNat < 2 ^ n; omega⟩ ⟨y.toNat, by show y.toNat < 2 ^ n; omega⟩
  simp only [] at h
  rw [show ((x.toNat : Nat) : Int) = x by omega, show ((y.toNat : Nat) : Int) = y by omega] at h
  exact h
theorem pw_n (m : Nat) : ∀ n : Nat, pwF m n = ((m ^ n : Nat) : Int)
  | 0 => rfl
  | n + 1 => by
    show pwF m n * m = _
    rw [pw_n m n, Nat.pow_succ, Int.natCast_mul]
theorem who_wy {G : Int → Prop} {n : Nat} {m : Int} (hn : n ≤ 7) (hm : 1 ≤ m ∧ m ≤ 3) : whoF G n m (pwF m n).toNat = wyF G (m - 1).toNat (allF n) := by
  have hp : (2 : Nat) ^ n ≤ 2 ^ 7 := Nat.pow_le_pow_right (by omega) hn
  have hq : 0 < (2 : Nat) ^ n := Nat.pow_pos (by decide)
  have hp3 : (2 : Int) ^ n = ((2 ^ n : Nat) : Int) := by simp
  have eS : allF n = ((2 ^ n : Nat) : Int) - 1 := by rw [allF_v (by omega), show ((n : Int)).toNat = n by omega, hp3]
  have eT : (allF n).toNat + 1 = 2 ^ n := by omega
  rw [who_sm]
  rcases (show m = 1 ∨ m = 2 ∨ m = 3 by omega) with rfl | rfl | rfl
  · have e1 : (pwF 1 n).toNat = 1 := by have e : pwF 1 n = ((1 ^ n : Nat) : Int) := pw_n 1 n; rw [Nat.one_pow] at e; omega
    rw [e1]
    show 0 + pick (∀ q, 0 ≤ q → q < 1 → G (grF (dgF 1 ((0 : Nat) : Int)) n q)) 1 0 = pick (G (allF n)) 1 0
    have e0 : grF (dgF 1 0) n 0 = allF n := by
      refine set_ext (setOf_r _ _) (by omega) (fun k k1 k2 => ?_)
      rw [grF_has hn ⟨k1, k2⟩, allF_has (by omega) ⟨k1, k2⟩]
      exact ⟨fun z => z.1, fun z => ⟨z, by unfold dgF; exact Int.emod_one _⟩⟩
    rw [Int.zero_add]
    refine pick_c ⟨fun z => ?_, fun z q q1 q2 => ?_⟩ rfl rfl
    · rw [← e0]; exact z 0 (by decide) (by decide)
    · rw [show q = 0 by omega]; show G (grF (dgF 1 0) n 0); rw [e0]; exact z
  · have e1 : (pwF 2 n).toNat = 2 ^ n := by have e : pwF 2 n = ((2 ^ n : Nat) : Int) := pw_n 2 n; omega
    rw [e1]
    have h := D2 n hn (fun a b => pick (G a ∧ G b) 1 0)
    rw [← E2 n] at h
    show _ = smI (fun x => pick (sub x (allF n) ∧ G x) (pick (G (ixor (allF n) x)) 1 0) 0) ((allF n).toNat + 1)
    rw [eT]
    refine (smI_c (fun c c1 c2 => ?_)).trans (h.trans (smI_c (fun x x1 x2 => ?_)))
    · refine pick_c ⟨fun z => ⟨z 0 (by decide) (by decide), z 1 (by decide) (by decide)⟩, fun z q q1 q2 => ?_⟩ rfl rfl
      rcases (show q = 0 ∨ q = 1 by omega) with rfl | rfl
      · exact z.1
      · exact z.2
    · have sx := (sf_n hn ⟨x1, x2⟩ ⟨x1, x2⟩).2
      rw [← eS] at sx
      have ex := (sb_x (by omega) (by omega) sx).1
      rw [← eS]
      show pick (G x ∧ G (allF n - x)) 1 0 = pick (sub x (allF n) ∧ G x) (pick (G (ixor (allF n) x)) 1 0) 0
      rw [ex]
      by_cases g : G x
      · rw [pick_t (show sub x (allF n) ∧ G x from ⟨sx, g⟩)]
        exact pick_c ⟨fun z => z.2, fun z => ⟨g, z⟩⟩ rfl rfl
      · rw [pick_f (fun z => g z.1), pick_f (fun z => g z.2)]
  · have e1 : (pwF 3 n).toNat = 3 ^ n := by rw [show pwF 3 n = ((3 ^ n : Nat) : Int) from pw_n 3 n]; exact Int.toNat_natCast _
    rw [e1]
    have h := D3 n hn (fun a b c => pick (G a ∧ G b ∧ G c) 1 0)
    rw [← E3 n hn] at h
    show _ = smI (fun x => pick (sub x (allF n) ∧ G x) (smI (fun y => pick (sub y (ixor (allF n) x) ∧ G y) (pick (G (ixor (ixor (allF n) x) y)) 1 0) 0) ((ixor (allF n) x).toNat + 1)) 0) ((allF n).toNat + 1)
    rw [eT]
    refine (smI_c (fun c c1 c2 => ?_)).trans (h.trans (smI_c (fun x x1 x2 => ?_)))
    · refine pick_c ⟨fun z => ⟨z 0 (by decide) (by decide), z 1 (by decide) (by decide), z 2 (by decide) (by decide)⟩, fun z q q1 q2 => ?_⟩ rfl rfl
      rcases (show q = 0 ∨ q = 1 ∨ q = 2 by omega) with rfl | rfl | rfl
      · exact z.1
      · exact z.2.1
      · exact z.2.2
    · have sx := (sf_n hn ⟨x1, x2⟩ ⟨x1, x2⟩).2
      rw [← eS] at sx
      have ex := (sb_x (by omega) (by omega) sx).1
      show smI (fun y => pick (iand x y = 0) (pick (G x ∧ G y ∧ G (((2 ^ n : Nat) : Int) - 1 - x - y)) 1 0) 0) (2 ^ n) = pick (sub x (allF n) ∧ G x) (smI (fun y => pick (sub y (ixor (allF n) x) ∧ G y) (pick (G (ixor (ixor (allF n) x) y)) 1 0) 0) ((ixor (allF n) x).toNat + 1)) 0
      by_cases g : G x
      · rw [pick_t (show sub x (allF n) ∧ G x from ⟨sx, g⟩), ex]
        have hT : 0 ≤ allF n - x ∧ allF n - x ≤ 127 := by omega
        obtain ⟨d, hd⟩ : ∃ d, 2 ^ n = ((allF n - x).toNat + 1) + d := ⟨2 ^ n - ((allF n - x).toNat + 1), by omega⟩
        have ext := smI_z (f := fun y => pick (sub y (allF n - x) ∧ G y) (pick (G (ixor (allF n - x) y)) 1 0) 0) (a := (allF n - x).toNat + 1) d (fun k k1 k2 => pick_f (fun z => by have := (sb_x hT (by omega) z.1).2; omega))
        rw [← ext, ← hd]
        refine smI_c (fun y y1 y2 => ?_)
        have sy := (sf_n hn ⟨x1, x2⟩ ⟨y1, y2⟩).1
        rw [← eS] at sy ⊢
        by_cases dj : iand x y = 0
        · have s2 := sy.mpr dj
          rw [pick_t dj, (sb_x hT (by omega) s2).1]
          by_cases gy : G y
          · rw [pick_t (show sub y (allF n - x) ∧ G y from ⟨s2, gy⟩)]
            exact pick_c ⟨fun z => z.2.2, fun z => ⟨g, gy, z⟩⟩ rfl rfl
          · rw [pick_f (fun z => gy z.2.1), pick_f (fun z => gy z.2)]
        · rw [pick_f dj, pick_f (fun z => dj (sy.mp z.1))]
      · rw [pick_f (fun z => g z.2)]
        exact smI_0 (fun y y1 y2 => by
          by_cases dj : iand x y = 0
          · rw [pick_t dj, pick_f (fun z => g z.1)]
          · rw [pick_f dj])
