/-! a longer gap never hurts -/
theorem tmF_d {r : F1} {g g' : Int} {sc : F1} : ∀ i : Nat, tmF r g' sc i = tmF r g sc i + (g' - g) * i
  | 0 => by simp [tmF]
  | i + 1 => by
    unfold tmF
    rw [tmF_d (g := g) i]
    have : (g' - g) * ((i + 1 : Nat) : Int) = (g' - g) * i + (g' - g) := by
      rw [show ((i + 1 : Nat) : Int) = (i : Int) + 1 by omega, Int.mul_add, Int.mul_one]
    omega
theorem opF_d {r : F1} {g g' : Int} {sc : F1} {s : Int} (hp : Perm (r 5) sc) (hr : WFr r) (hs : 0 ≤ s ∧ s < r 5) : opF r g' sc s = opF r g sc s + (g' - g) * posF sc s := by
  have p := posF_at hp (by have := hr.1; omega) hs
  unfold opF tmI
  rw [tmF_d (g := g), show (((posF sc s).toNat : Nat) : Int) = posF sc s by omega]
theorem tmF_up {r : F1} {g : Int} {sc : F1} (hr : WFr r) (hp : Perm (r 5) sc) (hg : 0 ≤ g) {i : Nat} : ∀ d : Nat, ((i + d : Nat) : Int) ≤ r 5 → tmF r g sc i ≤ tmF r g sc (i + d)
  | 0, _ => Int.le_refl _
  | d + 1, h => by
    have ih := tmF_up hr hp hg (i := i) d (by omega)
    have p := hp.1 ((i + d : Nat) : Int) (by omega) (by omega)
    have w := hr.2.2.1 (sc ((i + d : Nat) : Int)) p.1 (by have := hr.1; omega)
    show _ ≤ tmF r g sc (i + d) + (r (44 + sc ((i + d : Nat) : Int)) + g)
    omega
/-- where an earlier scene ends the later one has not begun -/
theorem op_next {r : F1} {g : Int} {sc : F1} {s t : Int} (hr : WFr r) (hp : Perm (r 5) sc) (hg : 0 ≤ g) (hs : 0 ≤ s ∧ s < r 5) (ht : 0 ≤ t ∧ t < r 5) (h : posF sc s < posF sc t) : opF r g sc s + r (44 + s) ≤ opF r g sc t := by
  have e0 := hr.1
  have ps := posF_at hp (by omega) hs
  have pt := posF_at hp (by omega) ht
  have u := tmF_up hr hp hg (i := (posF sc s).toNat + 1) ((posF sc t).toNat - ((posF sc s).toNat + 1)) (by omega)
  rw [show (posF sc s).toNat + 1 + ((posF sc t).toNat - ((posF sc s).toNat + 1)) = (posF sc t).toNat by omega] at u
  have v : tmF r g sc ((posF sc s).toNat + 1) = tmF r g sc (posF sc s).toNat + (r (44 + sc (((posF sc s).toNat : Nat) : Int)) + g) := rfl
  rw [show (((posF sc s).toNat : Nat) : Int) = posF sc s by omega, ps.2.2] at v
  unfold opF tmI
  omega
theorem srF_cmp {b b' : F1} : ∀ {K : Nat} (_ : ∀ k l : Int, 0 ≤ k → k < K → 0 ≤ l → l < K → (b k > b l ↔ b' k > b' l)), srF b' K = srF b K
  | 0, _ => rfl
  | K + 1, h => by
    have ih := srF_cmp (b := b) (b' := b') (K := K) (fun k l k1 k2 l1 l2 => h k l k1 (by omega) l1 (by omega))
    have hin := (srF_in b K).1
    have ip : ∀ i : Nat, i ≤ K → ipF b' (srF b K) (K : Int) i = ipF b (srF b K) (K : Int) i := by
      intro i
      induction i with
      | zero => intro _; rfl
      | succ i ih2 =>
        intro hi
        have hk := hin (i : Int) (by omega) (by omega)
        have e := h (srF b K i) (K : Int) hk.1 (by omega) (by omega) (by omega)
        unfold ipF
        rw [ih2 (by omega)]
        by_cases z : b (srF b K (i : Int)) > b (K : Int)
        · rw [if_pos z, if_pos (e.mp z)]
        · rw [if_neg z, if_neg (fun y => z (e.mpr y))]
    show inF b' (srF b' K) K K = inF b (srF b K) K K
    rw [ih]
    funext j
    unfold inF
    rw [ip K (Nat.le_refl _)]
theorem MayP_g {r : F1} {rd g g' : Int} {sc : F1} {cut s : Int} (hr : WFr r) (hp : Perm (r 5) sc) (hg : 0 ≤ g) (hgg : g ≤ g') (h : MayP r rd g sc cut s) : MayP r rd g' sc cut s := by
  have e0 := hr.1
  have bd : ∀ k, 0 ≤ k → k < r 7 → bgF r g' sc k = bgF r g sc k + (g' - g) * posF sc (r (54 + 7 * k + 1)) ∧ clF r g' sc k = clF r g sc k + (g' - g) * posF sc (r (54 + 7 * k + 1)) := fun k a b => by
    have w := hr.2.2.2.1 k a b
    have := opF_d (g := g) (g' := g') hp hr (s := r (54 + 7 * k + 1)) ⟨by omega, by omega⟩
    unfold bgF clF
    omega
  have pb : ∀ k, 0 ≤ k → k < r 7 → 0 ≤ posF sc (r (54 + 7 * k + 1)) ∧ posF sc (r (54 + 7 * k + 1)) < r 5 := fun k a b => by
    have w := hr.2.2.2.1 k a b
    have := posF_at hp (by omega) (s := r (54 + 7 * k + 1)) ⟨by omega, by omega⟩
    omega
  have nx : ∀ (q : Int), 0 ≤ q → ∀ k l, 0 ≤ k → k < r 7 → 0 ≤ l → l < r 7 → posF sc (r (54 + 7 * k + 1)) < posF sc (r (54 + 7 * l + 1)) → clF r q sc k ≤ bgF r q sc l ∧ bgF r q sc k < clF r q sc k ∧ bgF r q sc l < clF r q sc l := fun q q0 k l k1 k2 l1 l2 z => by
    have wk := hr.2.2.2.1 k k1 k2
    have wl := hr.2.2.2.1 l l1 l2
    have := op_next hr hp q0 (s := r (54 + 7 * k + 1)) (t := r (54 + 7 * l + 1)) ⟨by omega, by omega⟩ ⟨by omega, by omega⟩ z
    unfold clF bgF
    omega
  have cmp : ∀ k l, 0 ≤ k → k < r 7 → 0 ≤ l → l < r 7 → (bgF r g sc k > bgF r g sc l ↔ bgF r g' sc k > bgF r g' sc l) := fun k l k1 k2 l1 l2 => by
    have dk := bd k k1 k2
    have dl := bd l l1 l2
    rcases Int.lt_trichotomy (posF sc (r (54 + 7 * k + 1))) (posF sc (r (54 + 7 * l + 1))) with z | z | z
    · have a := nx g hg k l k1 k2 l1 l2 z
      have b := nx g' (by omega) k l k1 k2 l1 l2 z
      omega
    · rw [z] at dk
      omega
    · have a := nx g hg l k l1 l2 k1 k2 z
      have b := nx g' (by omega) l k l1 l2 k1 k2 z
      omega
  have eq : sqF r g' sc = sqF r g sc := srF_cmp (fun k l k1 k2 l1 l2 => cmp k l k1 (by omega) l1 (by omega))
  have me : ∀ k l, 0 ≤ k → k < r 7 → 0 ≤ l → l < r 7 → (meetP (bgF r g sc) (clF r g sc) k l ↔ meetP (bgF r g' sc) (clF r g' sc) k l) := fun k l k1 k2 l1 l2 => by
    have dk := bd k k1 k2
    have dl := bd l l1 l2
    unfold meetP
    rcases Int.lt_trichotomy (posF sc (r (54 + 7 * k + 1))) (posF sc (r (54 + 7 * l + 1))) with z | z | z
    · have a := nx g hg k l k1 k2 l1 l2 z
      have b := nx g' (by omega) k l k1 k2 l1 l2 z
      omega
    · rw [z] at dk
      omega
    · have a := nx g hg l k l1 l2 k1 k2 z
      have b := nx g' (by omega) l k l1 l2 k1 k2 z
      omega
  have ms : ∀ A B : Int → Prop, MeetS (bgF r g sc) (clF r g sc) (r 7) A B ↔ MeetS (bgF r g' sc) (clF r g' sc) (r 7) A B := fun A B => by
    constructor
    · rintro ⟨k, l, h1, h2, h3, h4, h5, h6, h7, h8⟩
      exact ⟨k, l, h1, h2, h3, h4, h5, h6, h7, (me k l h1 h2 h3 h4).mp h8⟩
    · rintro ⟨k, l, h1, h2, h3, h4, h5, h6, h7, h8⟩
      exact ⟨k, l, h1, h2, h3, h4, h5, h6, h7, (me k l h1 h2 h3 h4).mpr h8⟩
  have h : Can r rd (bgF r g sc) (clF r g sc) (sqF r g sc) (fun k => hasI s (r (54 + 7 * k + 0)) ∧ ¬ hasI cut k) := h
  show Can r rd (bgF r g' sc) (clF r g' sc) (sqF r g' sc) (fun k => hasI s (r (54 + 7 * k + 0)) ∧ ¬ hasI cut k)
  rw [eq]
  obtain ⟨h1, h2, h3, h4⟩ := h
  refine ⟨fun z => h1 ((ms _ _).mpr z), fun z => h2 ((ms _ _).mpr z), fun z => h3 ((ms _ _).mpr z), fun i j i1 i2 i3 i4 i5 i6 => ?_⟩
  have hh := h4 i j i1 i2 i3 i4 i5 i6
  have hq := (sq_P (g := g) (sc := sc) hr).1
  have qi := hq i i1 (by omega)
  have qj := hq j (by omega) i3
  have di := bd (sqF r g sc i) qi.1 qi.2
  have dj := bd (sqF r g sc j) qj.1 qj.2
  have so := srF_so (bgF r g sc) (r 7).toNat i j i1 i2 (by omega)
  have pij : posF sc (r (54 + 7 * sqF r g sc i + 1)) ≤ posF sc (r (54 + 7 * sqF r g sc j + 1)) := by
    apply Classical.byContradiction
    intro z
    have a := nx g hg (sqF r g sc j) (sqF r g sc i) qj.1 qj.2 qi.1 qi.2 (by omega)
    have so' : bgF r g sc (sqF r g sc i) < bgF r g sc (sqF r g sc j) ∨ (bgF r g sc (sqF r g sc i) = bgF r g sc (sqF r g sc j) ∧ sqF r g sc i < sqF r g sc j) := so
    omega
  have mul : (g' - g) * posF sc (r (54 + 7 * sqF r g sc i + 1)) ≤ (g' - g) * posF sc (r (54 + 7 * sqF r g sc j + 1)) := Int.mul_le_mul_of_nonneg_left pij (by omega)
  omega
theorem TP_g {r : F1} {rd g g' : Int} {sc : F1} {cut : Int} (hr : WFr r) (hp : Perm (r 5) sc) (hg : 0 ≤ g) (hgg : g ≤ g') (h : TP r rd g sc cut) : TP r rd g' sc cut := (tp_spl hr).mpr (Spl_mo (fun s _ _ z => MayP_g hr hp hg hgg z) ((tp_spl hr).mp h))
/-- the number of the gap told doesn't matter where the gap is given -/
theorem Can_r {r r' : F1} {rd : Int} {b c q : F1} {S : Int → Prop} (hr : WFr r) (hq : Perm (r 7) q) (e : ∀ j, j ≠ 2 → r' j = r j) : Can r' rd b c q S ↔ Can r rd b c q S := by
  have e0 := hr.1
  have k0 : ∀ k o : Int, 0 ≤ k → 0 ≤ o → r' (54 + 7 * k + o) = r (54 + 7 * k + o) := fun k o a b => e _ (by omega)
  have kd : ∀ k, 0 ≤ k → k < r 7 → r' (9 + r (54 + 7 * k + 0)) = r (9 + r (54 + 7 * k + 0)) := fun k a b => e _ (by have := hr.2.2.2.1 k a b; omega)
  have be : ∀ k, 0 ≤ k → (behP r' k ↔ behP r k) := fun k a => by unfold behP; rw [k0 k 6 a (by decide)]
  have pu : ∀ k, 0 ≤ k → k < r 7 → (pupP r' k ↔ pupP r k) := fun k a b => by unfold pupP; rw [k0 k 6 a (by decide), k0 k 0 a (by decide), kd k a b]
  have ba : ∀ i, 0 ≤ i → i < r 7 → (BodAt r' q S i ↔ BodAt r q S i) := fun i a b => by
    have qi := hq.1 i a b
    unfold BodAt
    rw [be _ qi.1, k0 (q i) 0 qi.1 (by decide), kd _ qi.1 qi.2]
    constructor
    · rintro ⟨x, y, z, w⟩
      refine ⟨x, y, z, fun u j j1 j2 j3 j4 => ?_⟩
      have qj := hq.1 j j1 (by omega)
      have := w u j j1 j2 j3 (fun v => j4 ((be _ qj.1).mp v))
      rw [k0 (q j) 0 qj.1 (by decide)] at this
      exact this
    · rintro ⟨x, y, z, w⟩
      refine ⟨x, y, z, fun u j j1 j2 j3 j4 => ?_⟩
      have qj := hq.1 j j1 (by omega)
      rw [k0 (q j) 0 qj.1 (by decide)]
      exact w u j j1 j2 j3 (fun v => j4 ((be _ qj.1).mpr v))
  have e7 : r' 7 = r 7 := e 7 (by decide)
  have bo : ∀ k, Bod r' q S k ↔ Bod r q S k := fun k => by
    unfold Bod
    rw [e7]
    constructor
    · rintro ⟨i, a, b, c, d⟩; exact ⟨i, a, b, c, (ba i a b).mp d⟩
    · rintro ⟨i, a, b, c, d⟩; exact ⟨i, a, b, c, (ba i a b).mpr d⟩
  have ne : ∀ k l, 0 ≤ k → k < r 7 → 0 ≤ l → l < r 7 → neF r' rd k l = neF r rd k l := fun k l k1 k2 l1 l2 => by
    have wk := hr.2.2.2.1 k k1 k2
    have wl := hr.2.2.2.1 l l1 l2
    unfold neF chF
    rw [k0 k 0 k1 (by decide), k0 l 0 l1 (by decide), k0 k 5 k1 (by decide), k0 l 4 l1 (by decide), e 1 (by decide), e (16 + r (54 + 7 * k + 0)) (by omega), e (16 + r (54 + 7 * l + 0)) (by omega), e (23 + r (54 + 7 * l + 0)) (by omega), e (9 + r (54 + 7 * l + 0)) (by omega), e (37 + r (54 + 7 * l + 0)) (by omega), e (30 + r (54 + 7 * k + 0)) (by omega)]
  unfold Can
  rw [e7, MeetS_c (A := fun k => S k ∧ behP r' k) (A' := fun k => S k ∧ behP r k) (B := fun k => (S k ∧ behP r' k) ∨ Bod r' q S k) (B' := fun k => (S k ∧ behP r k) ∨ Bod r q S k) (fun k a b => by rw [be k a]) (fun k a b => by rw [be k a, bo k]),
    MeetS_c (A := fun k => S k ∧ pupP r' k) (A' := fun k => S k ∧ pupP r k) (B := fun k => S k ∧ pupP r' k) (B' := fun k => S k ∧ pupP r k) (fun k a b => by rw [pu k a b]) (fun k a b => by rw [pu k a b]),
    MeetS_c (A := Bod r' q S) (A' := Bod r q S) (B := Bod r' q S) (B' := Bod r q S) (fun k a b => bo k) (fun k a b => bo k)]
  have ch : Chain r' rd b c q S ↔ Chain r rd b c q S := by
    unfold Chain
    rw [e7]
    constructor
    · intro h i j i1 i2 i3 i4 i5 i6
      have qi := hq.1 i i1 (by omega)
      have qj := hq.1 j (by omega) i3
      have := h i j i1 i2 i3 ((ba i i1 (by omega)).mpr i4) ((ba j (by omega) i3).mpr i5) (fun m m1 m2 z => i6 m m1 m2 ((ba m (by omega) (by omega)).mp z))
      rw [ne _ _ qi.1 qi.2 qj.1 qj.2] at this
      exact this
    · intro h i j i1 i2 i3 i4 i5 i6
      have qi := hq.1 i i1 (by omega)
      have qj := hq.1 j (by omega) i3
      rw [ne _ _ qi.1 qi.2 qj.1 qj.2]
      exact h i j i1 i2 i3 ((ba i i1 (by omega)).mp i4) ((ba j (by omega) i3).mp i5) (fun m m1 m2 z => i6 m m1 m2 ((ba m (by omega) (by omega)).mpr z))
  rw [ch]
theorem MayP_r {r r' : F1} {rd g : Int} {sc : F1} {cut s : Int} (hr : WFr r) (hp : Perm (r 5) sc) (e : ∀ j, j ≠ 2 → r' j = r j) : MayP r' rd g sc cut s ↔ MayP r rd g sc cut s := by
  have e0 := hr.1
  have tm : ∀ i : Nat, (i : Int) ≤ r 5 → tmF r' g sc i = tmF r g sc i := by
    intro i
    induction i with
    | zero => intro _; rfl
    | succ i ih =>
      intro h
      have p := hp.1 i (by omega) (by omega)
      unfold tmF
      rw [ih (by omega), e (44 + sc (i : Int)) (by omega)]
  have op : ∀ s, 0 ≤ s → s < r 5 → opF r' g sc s = opF r g sc s := fun s a b => by
    have p := posF_at hp (by omega) ⟨a, b⟩
    unfold opF tmI
    exact tm _ (by omega)
  have bc : ∀ k, 0 ≤ k → k < r 7 → bgF r' g sc k = bgF r g sc k ∧ clF r' g sc k = clF r g sc k := fun k a b => by
    have w := hr.2.2.2.1 k a b
    unfold bgF clF
    rw [e (54 + 7 * k + 1) (by omega), e (54 + 7 * k + 2) (by omega), e (54 + 7 * k + 3) (by omega), op _ (by omega) (by omega)]
    exact ⟨rfl, rfl⟩
  have sq : sqF r' g sc = sqF r g sc := by
    unfold sqF
    rw [e 7 (by decide)]
    exact srF_c (fun k a b => (bc k a (by omega)).1)
  have hS : ∀ k, 0 ≤ k → k < r 7 → ((hasI s (r (54 + 7 * k + 0)) ∧ ¬ hasI cut k) ↔ (hasI s (r' (54 + 7 * k + 0)) ∧ ¬ hasI cut k)) := fun k a b => by rw [e (54 + 7 * k + 0) (by omega)]
  show Can r' rd (bgF r' g sc) (clF r' g sc) (sqF r' g sc) (fun k => hasI s (r' (54 + 7 * k + 0)) ∧ ¬ hasI cut k) ↔ _
  rw [Can_r hr (by rw [sq]; exact sq_P hr) e]
  exact Can_c hr (sq_P hr) bc (fun i _ _ => by rw [sq]) hS
theorem TP_r {r r' : F1} {rd g : Int} {sc : F1} {cut : Int} (hr : WFr r) (hp : Perm (r 5) sc) (e : ∀ j, j ≠ 2 → r' j = r j) : TP r' rd g sc cut ↔ TP r rd g sc cut := by
  have : MayP r' rd g sc cut = MayP r rd g sc cut := funext (fun s => propext (MayP_r hr hp e))
  unfold TP
  rw [this, e 4 (by decide), e 3 (by decide)]
theorem gap_of {r s : F1} {v : Int} (hr : WFr r) (hp : Perm (r 5) s) (h : (v = -2 ∧ ¬ TP r (-1) 99 s (s 12)) ∨ (0 ≤ v ∧ v ≤ 99 ∧ TP r (-1) v s (s 12) ∧ ∀ g, 0 ≤ g → g < v → ¬ TP r (-1) g s (s 12))) : gapF r s = v := by
  have e : ∀ g, TP (rG r g) (-1) g s (s 12) ↔ TP r (-1) g s (s 12) := fun g => TP_r hr hp (fun j hj => rG_n hj)
  apply GapV.v
  rcases h with ⟨a, b⟩ | ⟨a, b, c, d⟩
  · exact Or.inl ⟨a, fun g g1 g2 z => b (TP_g hr hp g1 (by omega) ((e g).mp z))⟩
  · exact Or.inr ⟨a, by omega, (e v).mpr c, fun g g1 g2 z => d g g1 g2 ((e g).mp z)⟩
set_option maxHeartbeats 4000000 in
theorem c_X7_leastGap {E : ET} {I : MI} {L : ML} {R : MR} {Q : Option AV → MI → ML → MR → Prop} {P : Nat} {r s : F1} {o : Int} (hT : Topo R) (hP : isP P) (h7 : R 111 0 = some P) (h13 : R 113 1 = some P) (hr : WFr r) (hW : TrW P r I) (ho : EnO o s (r 5)) (hsc : Perm (r 5) s) (hcut : 0 ≤ s 12 ∧ s 12 < 16384) (h : ∀ I', NtF 113 I I' → TrW P r I' → Q (some (vi (gapF r s))) I' L R) : CT E M_X7_leastGap 161 yX7_leastGap [(vr (111)), (vi (o)), (vi (s 12))] I L R Q := by
  refine CT_of rfl rfl (fun h => by cases h) (Nat.le_of_ble_eq_true rfl) (fun X => ?_)
  show V X _ z0 0 [some (vr (111)), some (vi (o)), some (vi (s 12)), none, none, none] [] I L R _
  have loop : ∀ (f : Nat) (step ts : Int) (I1 : MI) (w5 : Option AV), step < (f : Int) → (step = 0 ∨ step = 1 ∨ step = 2 ∨ step = 4 ∨ step = 8 ∨ step = 16 ∨ step = 32 ∨ step = 64) → -1 ≤ ts → ts < 99 → NtF 113 I I1 → TrW P r I1 → (∀ g, 0 ≤ g → g ≤ ts → ¬ TP r (-1) g s (s 12)) → (∀ u, (step = 0 → u = 1) → (step ≠ 0 → u = 2 * step) → TP r (-1) (if ts + u < 99 then ts + u else 99) s (s 12)) → V X M_X7_leastGap z0 20 [some (vr (111)), some (vi (o)), some (vi (s 12)), some (vi (ts)), some (vi (step)), w5] [] (I1) L R (RT X M_X7_leastGap Q) := by
    intro f
    induction f with
    | zero => intro step ts I1 w5 h1 h2; omega
    | succ f ih =>
      intro step ts I1 w5 h1 h2 h3 h4 h5 hW1 h6 h8
      by_cases hz : step = 0
      · subst hz
        have t := h8 1 (fun _ => rfl) (fun z => absurd rfl z)
        have t1 : TP r (-1) (ts + 1) s (s 12) := by
          by_cases y : ts + 1 < 99
          · rw [if_pos y] at t; exact t
          · rw [if_neg y] at t
            rw [show ts + 1 = 99 by omega]; exact t
        have e : gapF r s = ts + 1 := gap_of hr hsc (Or.inr ⟨by omega, by omega, t1, fun g g1 g2 => h6 g g1 (by omega)⟩)
        rw [e] at h
        refine s_iload 22 dX7_leastGap_20 rfl rfl ?_
        refine s_if_le 61 25 dX7_leastGap_22 rfl rfl (by first | omega | exact bI_r _ | exact iI_r _) (fun h_22 => ?_) (fun h_22 => by exfalso; omega)
        refine s_iload_n 62 dX7_leastGap_61 rfl rfl ?_
        refine s_iconst 63 dX7_leastGap_62 rfl ?_
        refine s_iadd 64 dX7_leastGap_63 rfl ?_
        refine s_iret dX7_leastGap_64 rfl rfl ?_
        exact h I1 h5 hW1
      · have t := h8 (2 * step) (fun z => absurd z hz) (fun _ => rfl)
        have ed : idiv step 2 = step / 2 := idiv_v (by omega) (by omega)
        have hs2 : step / 2 = 0 ∨ step / 2 = 1 ∨ step / 2 = 2 ∨ step / 2 = 4 ∨ step / 2 = 8 ∨ step / 2 = 16 ∨ step / 2 = 32 ∨ step / 2 = 64 := by omega
        have u2 : ∀ u : Int, (step / 2 = 0 → u = 1) → (step / 2 ≠ 0 → u = 2 * (step / 2)) → u = step := fun u a b => by
          by_cases y : step / 2 = 0
          · have := a y; omega
          · have := b y; omega
        have go : ∀ (I2 : MI) (w5 : Option AV), NtF 113 I I2 → TrW P r I2 → (ts + step < 99 → TP r (-1) (ts + step) s (s 12)) → V X M_X7_leastGap z0 20 [some (vr (111)), some (vi (o)), some (vi (s 12)), some (vi (ts)), some (vi (step / 2)), w5] [] (I2) L R (RT X M_X7_leastGap Q) := fun I2 w5 g1 g2 g3 => ih (step / 2) ts I2 w5 (by omega) hs2 h3 h4 g1 g2 h6 (fun u a b => by
          rw [u2 u a b]
          by_cases y : ts + step < 99
          · rw [if_pos y]; exact g3 y
          · rw [if_neg y]; rw [if_neg (by omega)] at t; exact t)
        by_cases hlt : ts + step < 99
        · skip
          refine s_iload 22 dX7_leastGap_20 rfl rfl ?_
          refine s_if_le 61 25 dX7_leastGap_22 rfl rfl (by first | omega | exact bI_r _ | exact iI_r _) (fun h_22 => by exfalso; omega) (fun h_22 => ?_)
          refine s_iload_n 26 dX7_leastGap_25 rfl rfl ?_
          refine s_iload 28 dX7_leastGap_26 rfl rfl ?_
          refine s_iadd 29 dX7_leastGap_28 rfl ?_
          refine s_istore (ls' := [_, _, _, _, _, _]) 31 dX7_leastGap_29 rfl (Nat.le_of_ble_eq_true rfl) rfl rfl ?_
          refine s_iload 33 dX7_leastGap_31 rfl rfl ?_
          refine s_bipush 35 dX7_leastGap_33 rfl (by decide) ?_
          refine s_icmp_ge 52 38 dX7_leastGap_35 rfl rfl (by first | omega | exact bI_r _ | exact iI_r _) (by first | omega | exact bI_r _ | exact iI_r _) (fun h_35 => by exfalso; omega) (fun h_35 => ?_)
          refine s_aload_n 39 dX7_leastGap_38 rfl rfl ?_
          refine s_iload_n 40 dX7_leastGap_39 rfl rfl ?_
          refine s_iload 42 dX7_leastGap_40 rfl rfl ?_
          refine s_iload_n 43 dX7_leastGap_42 rfl rfl ?_
          refine s_callV0 (M' := M_X7_goes) (as := [_, _, _]) 46 dX7_leastGap_43 rfl cw_X7_74 rfl rfl sh_111 rfl (by decide) (Nat.le_of_ble_eq_true rfl) (Nat.le_of_ble_eq_true rfl) (Nat.le_of_ble_eq_true rfl) (Nat.le_of_ble_eq_true rfl) ⟨rfl, rfl, rfl⟩ ?_
          refine c_X7_goes hT hP h7 h13 hr hW1 ho hsc ⟨by omega, by omega⟩ hcut (fun I2 g1 g2 => ?_)
          refine s_ifb_ne 52 49 dX7_leastGap_46 rfl rfl (fun h_46 => ?_) (fun h_46 => ?_)
          · skip
            refine s_iload 54 dX7_leastGap_52 rfl rfl ?_
            refine s_iconst 55 dX7_leastGap_54 rfl ?_
            refine s_idiv 56 dX7_leastGap_55 rfl (by first | omega | exact bI_r _ | exact iI_r _) (by omega) ?_
            rw [ed]
            refine s_istore (ls' := [_, _, _, _, _, _]) 58 dX7_leastGap_56 rfl (Nat.le_of_ble_eq_true rfl) rfl rfl ?_
            refine s_goto 20 dX7_leastGap_58 rfl ?_
            first | exact go I2 _ (h5.tr g1) g2 (fun _ => h_46) | exact ih (step / 2) (ts + step) I2 _ (by omega) hs2 (by omega) hlt (h5.tr g1) g2 (fun g g1 g2 z => h_46 (TP_g hr hsc g1 g2 z)) (fun u a b => by rw [u2 u a b, show ts + step + step = ts + 2 * step by omega]; exact t)
          refine s_iload 51 dX7_leastGap_49 rfl rfl ?_
          refine s_istore_n (ls' := [_, _, _, _, _, _]) 52 dX7_leastGap_51 rfl (Nat.le_of_ble_eq_true rfl) rfl rfl ?_
          refine s_iload 54 dX7_leastGap_52 rfl rfl ?_
          refine s_iconst 55 dX7_leastGap_54 rfl ?_
          refine s_idiv 56 dX7_leastGap_55 rfl (by first | omega | exact bI_r _ | exact iI_r _) (by omega) ?_
          rw [ed]
          refine s_istore (ls' := [_, _, _, _, _, _]) 58 dX7_leastGap_56 rfl (Nat.le_of_ble_eq_true rfl) rfl rfl ?_
          refine s_goto 20 dX7_leastGap_58 rfl ?_
          first | exact go I2 _ (h5.tr g1) g2 (fun _ => h_46) | exact ih (step / 2) (ts + step) I2 _ (by omega) hs2 (by omega) hlt (h5.tr g1) g2 (fun g g1 g2 z => h_46 (TP_g hr hsc g1 g2 z)) (fun u a b => by rw [u2 u a b, show ts + step + step = ts + 2 * step by omega]; exact t)
        · skip
          refine s_iload 22 dX7_leastGap_20 rfl rfl ?_
          refine s_if_le 61 25 dX7_leastGap_22 rfl rfl (by first | omega | exact bI_r _ | exact iI_r _) (fun h_22 => by exfalso; omega) (fun h_22 => ?_)
          refine s_iload_n 26 dX7_leastGap_25 rfl rfl ?_
          refine s_iload 28 dX7_leastGap_26 rfl rfl ?_
          refine s_iadd 29 dX7_leastGap_28 rfl ?_
          refine s_istore (ls' := [_, _, _, _, _, _]) 31 dX7_leastGap_29 rfl (Nat.le_of_ble_eq_true rfl) rfl rfl ?_
          refine s_iload 33 dX7_leastGap_31 rfl rfl ?_
          refine s_bipush 35 dX7_leastGap_33 rfl (by decide) ?_
          refine s_icmp_ge 52 38 dX7_leastGap_35 rfl rfl (by first | omega | exact bI_r _ | exact iI_r _) (by first | omega | exact bI_r _ | exact iI_r _) (fun h_35 => ?_) (fun h_35 => by exfalso; omega)
          refine s_iload 54 dX7_leastGap_52 rfl rfl ?_
          refine s_iconst 55 dX7_leastGap_54 rfl ?_
          refine s_idiv 56 dX7_leastGap_55 rfl (by first | omega | exact bI_r _ | exact iI_r _) (by omega) ?_
          rw [ed]
          refine s_istore (ls' := [_, _, _, _, _, _]) 58 dX7_leastGap_56 rfl (Nat.le_of_ble_eq_true rfl) rfl rfl ?_
          refine s_goto 20 dX7_leastGap_58 rfl ?_
          exact go I1 _ h5 hW1 (fun z => absurd z hlt)
  refine s_aload_n 1 dX7_leastGap_0 rfl rfl ?_
  refine s_iload_n 2 dX7_leastGap_1 rfl rfl ?_
  refine s_bipush 4 dX7_leastGap_2 rfl (by decide) ?_
  refine s_iload_n 5 dX7_leastGap_4 rfl rfl ?_
  refine s_callV0 (M' := M_X7_goes) (as := [_, _, _]) 8 dX7_leastGap_5 rfl cw_X7_74 rfl rfl sh_111 rfl (by decide) (Nat.le_of_ble_eq_true rfl) (Nat.le_of_ble_eq_true rfl) (Nat.le_of_ble_eq_true rfl) (Nat.le_of_ble_eq_true rfl) ⟨rfl, rfl, rfl⟩ ?_
  refine c_X7_goes hT hP h7 h13 hr hW ho hsc (by decide) hcut (fun I2 g1 g2 => ?_)
  refine s_ifb_ne 14 11 dX7_leastGap_8 rfl rfl (fun h_8 => ?_) (fun h_8 => ?_)
  · skip
    refine s_iconst 15 dX7_leastGap_14 rfl ?_
    refine s_istore_n (ls' := [_, _, _, _, _, _]) 16 dX7_leastGap_15 rfl (Nat.le_of_ble_eq_true rfl) rfl rfl ?_
    refine s_bipush 18 dX7_leastGap_16 rfl (by decide) ?_
    refine s_istore (ls' := [_, _, _, _, _, _]) 20 dX7_leastGap_18 rfl (Nat.le_of_ble_eq_true rfl) rfl rfl ?_
    refine loop 65 64 (-1) I2 _ (by decide) (by decide) (by decide) (by decide) g1 g2 (fun g a b => by omega) (fun u a b => ?_)
    rw [b (by decide)]
    exact h_8
  refine s_bipush 13 dX7_leastGap_11 rfl (by decide) ?_
  refine s_iret dX7_leastGap_13 rfl rfl ?_
  have e : gapF r s = -2 := gap_of hr hsc (Or.inl ⟨rfl, h_8⟩)
  rw [e] at h
  exact h I2 g1 g2
