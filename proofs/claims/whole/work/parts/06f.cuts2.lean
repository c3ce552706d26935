/-! CASTING: what is cut of each player adds up -/
theorem MayP_m {r : F1} {rd g : Int} {sc : F1} {c1 c2 o : Int} (hr : WFr r) (h : ∀ k, 0 ≤ k → k < r 7 → hasI o (r (54 + 7 * k + 0)) → (hasI c1 k ↔ hasI c2 k)) : MayP r rd g sc c1 o ↔ MayP r rd g sc c2 o := Can_s hr (sq_P hr) (fun k a b => by
  constructor
  · rintro ⟨x, y⟩
    exact ⟨x, fun z => y ((h k a b x).mpr z)⟩
  · rintro ⟨x, y⟩
    exact ⟨x, fun z => y ((h k a b x).mp z)⟩)
noncomputable def KsP (r : F1) (rd g : Int) (sc : F1) (cut s n x : Int) : Prop := Cd (fun y => Can r rd (bgF r g sc) (clF r g sc) (sqF r g sc) (fun k => hasI y k)) (iand (onsS r s) (ixor cut (-1))) n (r 7) x
def LcV (K : Int → Int → Prop) (c v : Int) : Prop := (v = 65536 ∧ ∀ n x, 0 ≤ n → n < c → ¬ K n x) ∨ ∃ n x, 0 ≤ n ∧ n < c ∧ n ≤ 3 ∧ K n x ∧ 0 ≤ x ∧ x < 16384 ∧ v = n * 16384 + x ∧ (∀ y, K n y → x ≤ y) ∧ ∀ n' y, 0 ≤ n' → n' < n → ¬ K n' y
theorem LcV.b {K : Int → Int → Prop} {c v : Int} (h : LcV K c v) : 0 ≤ v ∧ v ≤ 65536 := by
  rcases h with h | ⟨n, x, a, b, d, e, f, g, i, _⟩
  · omega
  · omega
theorem Ks_lt {r : F1} {rd g : Int} {sc : F1} {cut s n x : Int} (hr : WFr r) (h : KsP r rd g sc cut s n x) : 0 ≤ x ∧ x < 16384 := by
  have e0 := hr.1
  have := Cd.lt h ⟨by omega, by omega⟩
  have hp : (2 : Int) ^ (r 7).toNat ≤ 16384 := by
    have : (2 : Nat) ^ (r 7).toNat ≤ 2 ^ 14 := Nat.pow_le_pow_right (by omega) (by omega)
    have e : (2 : Int) ^ (r 7).toNat = ((2 ^ (r 7).toNat : Nat) : Int) := by simp
    omega
  exact ⟨h.1, by omega⟩
/-- one player's cut -/
theorem Ks_iff {r : F1} {rd g : Int} {sc : F1} {cut o x : Int} (hr : WFr r) (hx : 0 ≤ x ∧ x < 16384) : KsP r rd g sc cut o (bits x) x ↔ (∀ k, 0 ≤ k → k < 32 → hasI x k → k < r 7 ∧ hasI o (r (54 + 7 * k + 0)) ∧ ¬ hasI cut k) ∧ MayP r rd g sc (ior cut x) o := by
  have e0 := hr.1
  have hC : Can r rd (bgF r g sc) (clF r g sc) (sqF r g sc) (fun k => hasI (iand (iand (onsS r o) (ixor cut (-1))) (ixor x (-1))) k) ↔ MayP r rd g sc (ior cut x) o := Can_s hr (sq_P hr) (fun k a b => by
    rw [has_andn ⟨a, by omega⟩, has_andn ⟨a, by omega⟩, has_onsS (by omega) ⟨a, by omega⟩, has_or ⟨a, by omega⟩]
    constructor
    · rintro ⟨⟨⟨_, p⟩, q⟩, s⟩
      exact ⟨p, fun z => z.elim q s⟩
    · rintro ⟨p, q⟩
      exact ⟨⟨⟨b, p⟩, fun z => q (Or.inl z)⟩, fun z => q (Or.inr z)⟩)
  unfold KsP Cd
  rw [← hC]
  constructor
  · rintro ⟨_, _, h3, _, h5⟩
    refine ⟨fun k a b c => ?_, h5⟩
    have w := h3 k a b c
    rw [has_andn ⟨a, b⟩, has_onsS (by omega) ⟨a, b⟩] at w
    exact ⟨w.2, w.1.1.2, w.1.2⟩
  · rintro ⟨h3, h5⟩
    refine ⟨hx.1, by omega, fun k a b c => ?_, rfl, h5⟩
    have w := h3 k a b c
    rw [has_andn ⟨a, b⟩, has_onsS (by omega) ⟨a, b⟩]
    exact ⟨⟨⟨w.1, w.2.1⟩, w.2.2⟩, w.1⟩
theorem iand_lt14 {x y : Int} (hx : 0 ≤ x ∧ x < 16384) : 0 ≤ iand x y ∧ iand x y < 16384 := by
  have := set_lt (n := 14) (x := iand x y) (by decide) (iand_r _ _) (fun k a b z => has_lt (n := 14) (by decide) ⟨hx.1, by omega⟩ ⟨by omega, b⟩ ((has_and ⟨by omega, b⟩).mp z).1)
  omega
theorem cost1 {r : F1} {rd g : Int} {sc : F1} {cut x n : Int} {lc : Int → Int} (hr : WFr r) (hx : 0 ≤ x ∧ x < 16384) (hxc : ∀ k, 0 ≤ k → k < 32 → hasI x k → k < r 7 ∧ ¬ hasI cut k) (hL : ∀ s, 0 ≤ s → s ≤ allF (r 4) → LcV (KsP r rd g sc cut s) (n + 1) (lc s)) (hb : bits x ≤ n) : ∀ (m : Nat) (S : Int), 0 ≤ S ∧ S ≤ allF (r 4) → Spl (MayP r rd g sc (ior cut x)) m S → ∃ w, Cst lc m S w ∧ w ≤ wtF (iand x (onsS r S)) 14
  | 0, S, hS, h => ⟨0, ⟨h, rfl⟩, wt_nn _ _⟩
  | m + 1, S, hS, h => by
    have e0 := hr.1
    have a7 := allF_7 (n := r 4) ⟨by omega, by omega⟩
    rcases h with h | ⟨o, o1, o2, o3, o4, o5, o6⟩
    · exact ⟨0, Or.inl ⟨h, rfl⟩, wt_nn _ _⟩
    · have nx := sub_next ⟨hS.1, by omega⟩ ⟨o1, o2⟩ o3
      obtain ⟨w', w1, w2⟩ := cost1 hr hx hxc hL hb m (andN S o) ⟨nx.2.2.2.2.1, by omega⟩ o6
      have xo := iand_lt14 (y := onsS r o) hx
      have hxo : ∀ k, 0 ≤ k → k < 32 → (hasI (iand x (onsS r o)) k ↔ hasI x k ∧ k < r 7 ∧ hasI o (r (54 + 7 * k + 0))) := fun k a b => by rw [has_and ⟨a, b⟩, has_onsS (by omega) ⟨a, b⟩]
      have hK : KsP r rd g sc cut o (bits (iand x (onsS r o))) (iand x (onsS r o)) := (Ks_iff hr xo).mpr ⟨fun k a b c => by
          have w := (hxo k a b).mp c
          exact ⟨w.2.1, w.2.2, (hxc k a b w.1).2⟩, (MayP_m hr (fun k a b c => by
          rw [has_or ⟨a, by omega⟩, has_or ⟨a, by omega⟩, hxo k a (by omega)]
          exact ⟨fun z => z.imp id (fun y => ⟨y, b, c⟩), fun z => z.imp id (fun y => y.1)⟩)).mp o5⟩
      have eb1 : bits (iand x (onsS r o)) = (cn (iand x (onsS r o)) 14 : Int) := bc_cn _ 14 (by decide)
      have eb2 : bits x = (cn x 14 : Int) := bc_cn _ 14 (by decide)
      have cm := cn_mo (S := iand x (onsS r o)) (T := x) (fun k a b c => ((hxo k a b).mp c).1) 14 (by decide)
      have wx := wt_eq xo
      have lo : lc o ≤ wtF (iand x (onsS r o)) 14 := by
        rcases hL o (by omega) (by omega) with ⟨z1, z2⟩ | ⟨n2, x2, z1, z2, z3, z4, z5, z6, z7, z8, z9⟩
        · exact absurd hK (z2 _ _ (by omega) (by omega))
        · rcases Int.lt_trichotomy n2 (bits (iand x (onsS r o))) with y | y | y
          · rw [wx, z7]; omega
          · subst y
            have := z8 _ hK
            rw [wx, z7]; omega
          · exact absurd hK (z9 _ _ (by omega) y)
      refine ⟨lc o + w', Or.inr ⟨o, w', o1, o2, o3, o4, w1, rfl⟩, ?_⟩
      have ad := wt_add (x := iand x (onsS r o)) (y := iand x (onsS r (andN S o))) (z := iand x (onsS r S)) (n := 14) (fun k a b => by
        have k32 : k < 32 := by omega
        rw [hxo k a k32, has_and ⟨a, k32⟩, has_and ⟨a, k32⟩, has_onsS (by omega) ⟨a, k32⟩, has_onsS (by omega) ⟨a, k32⟩]
        by_cases hk : k < r 7
        · have wk := hr.2.2.2.1 k a hk
          unfold andN
          rw [has_andn ⟨wk.1, by omega⟩]
          have so := sub_has o3 (k := r (54 + 7 * k + 0)) ⟨wk.1, by omega⟩
          constructor
          · constructor
            · rintro ⟨p, _, q⟩
              by_cases y : hasI o (r (54 + 7 * k + 0))
              · exact Or.inl ⟨p, hk, y⟩
              · exact Or.inr ⟨p, hk, q, y⟩
            · rintro (⟨p, _, q⟩ | ⟨p, _, q, _⟩)
              · exact ⟨p, hk, so q⟩
              · exact ⟨p, hk, q⟩
          · rintro ⟨⟨_, _, q⟩, ⟨_, _, _, s⟩⟩
            exact s q
        · exact ⟨⟨fun z => absurd z.2.1 hk, fun z => z.elim (fun y => absurd y.2.1 hk) (fun y => absurd y.2.1 hk)⟩, fun z => hk z.1.2.1⟩)
      omega
theorem cost2 {r : F1} {rd g : Int} {sc : F1} {cut n : Int} {lc : Int → Int} (hr : WFr r) (hL : ∀ s, 0 ≤ s → s ≤ allF (r 4) → LcV (KsP r rd g sc cut s) n (lc s)) : ∀ (m : Nat) (S w : Int), 0 ≤ S ∧ S ≤ allF (r 4) → Cst lc m S w → w < 65536 → ∃ x, (0 ≤ x ∧ x < 16384) ∧ (∀ k, 0 ≤ k → k < 32 → hasI x k → k < r 7 ∧ hasI S (r (54 + 7 * k + 0)) ∧ ¬ hasI cut k) ∧ wtF x 14 = w ∧ ∀ y, (∀ k, 0 ≤ k → k < r 7 → hasI S (r (54 + 7 * k + 0)) → (hasI y k ↔ hasI x k)) → Spl (MayP r rd g sc (ior cut y)) m S
  | 0, S, w, hS, h, hw => ⟨0, by omega, fun k a b c => absurd c (has_0 ⟨a, b⟩), by rw [h.2]; decide, fun y _ => h.1⟩
  | m + 1, S, w, hS, h, hw => by
    have e0 := hr.1
    have a7 := allF_7 (n := r 4) ⟨by omega, by omega⟩
    have hl : ∀ s, 0 ≤ s → s ≤ allF (r 4) → 0 ≤ lc s := fun s a b => ((hL s a b).b).1
    rcases h with h | ⟨o, w', o1, o2, o3, o4, o6, o7⟩
    · exact ⟨0, by omega, fun k a b c => absurd c (has_0 ⟨a, b⟩), by rw [h.2]; decide, fun y _ => Or.inl h.1⟩
    · have nx := sub_next ⟨hS.1, by omega⟩ ⟨o1, o2⟩ o3
      have nn : ∀ (m : Nat) (S w : Int), 0 ≤ S ∧ S ≤ allF (r 4) → Cst lc m S w → 0 ≤ w := by
        intro m
        induction m with
        | zero => intro S w _ h; have := h.2; omega
        | succ m ih =>
          intro S w hS h
          rcases h with h | ⟨o, w', o1, o2, o3, o4, o6, o7⟩
          · omega
          · have nx := sub_next ⟨hS.1, by omega⟩ ⟨o1, o2⟩ o3
            have := ih (andN S o) w' ⟨nx.2.2.2.2.1, by omega⟩ o6
            have := hl o (by omega) (by omega)
            omega
      have hw' := nn m (andN S o) w' ⟨nx.2.2.2.2.1, by omega⟩ o6
      have hlo := hl o (by omega) (by omega)
      obtain ⟨x', x1, x2, x3, x4⟩ := cost2 hr hL m (andN S o) w' ⟨nx.2.2.2.2.1, by omega⟩ o6 (by omega)
      rcases hL o (by omega) (by omega) with ⟨z1, z2⟩ | ⟨n2, y2, z1, z2, z3, z4, z5, z6, z7, z8, z9⟩
      · omega
      · have eb : bits y2 = n2 := z4.2.2.2.1
        rw [← eb] at z4
        have hK := (Ks_iff hr ⟨z5, z6⟩).mp z4
        have wy := wt_eq ⟨z5, z6⟩
        have hor : ∀ k, 0 ≤ k → k < 32 → (hasI (ior y2 x') k ↔ hasI y2 k ∨ hasI x' k) := fun k a b => has_or ⟨a, b⟩
        have hdis : ∀ k, 0 ≤ k → k < 32 → ¬ (hasI y2 k ∧ hasI x' k) := fun k a b z => by
          have p := hK.1 k a b z.1
          have q := (x2 k a b z.2).2.1
          have wk := hr.2.2.2.1 k a p.1
          unfold andN at q
          exact ((has_andn ⟨wk.1, by omega⟩).mp q).2 p.2.1
        have hb14 := set_lt (n := 14) (x := ior y2 x') (by decide) (ior_r _ _) (fun k a b z => by
          rcases (hor k (by omega) b).mp z with y | y
          · have := (hK.1 k (by omega) b y).1; omega
          · have := (x2 k (by omega) b y).1; omega)
        refine ⟨ior y2 x', ⟨hb14.1, by have := hb14.2; omega⟩, fun k a b c => ?_, ?_, fun y hy => ?_⟩
        · rcases (hor k a b).mp c with p | p
          · have q := hK.1 k a b p
            have wk := hr.2.2.2.1 k a q.1
            exact ⟨q.1, sub_has o3 ⟨wk.1, by omega⟩ q.2.1, q.2.2⟩
          · have q := x2 k a b p
            have wk := hr.2.2.2.1 k a q.1
            have q2 := q.2.1
            unfold andN at q2
            exact ⟨q.1, ((has_andn ⟨wk.1, by omega⟩).mp q2).1, q.2.2⟩
        · rw [wt_add (x := y2) (y := x') (n := 14) (fun k a b => ⟨hor k a (by omega), hdis k a (by omega)⟩), wy, x3, o7, z7, eb]
        · refine Or.inr ⟨o, o1, o2, o3, o4, (MayP_m hr (fun k a b c => ?_)).mp hK.2, x4 y (fun k a b c => ?_)⟩
          · have wk := hr.2.2.2.1 k a b
            have s := hy k a b (sub_has o3 ⟨wk.1, by omega⟩ c)
            have nx' : ¬ hasI x' k := fun z => by
              have q := (x2 k a (by omega) z).2.1
              unfold andN at q
              exact ((has_andn ⟨wk.1, by omega⟩).mp q).2 c
            rw [has_or ⟨a, by omega⟩, has_or ⟨a, by omega⟩, s, hor k a (by omega)]
            exact ⟨fun z => z.imp id Or.inl, fun z => z.imp id (fun w => w.elim id (fun u => absurd u nx'))⟩
          · have wk := hr.2.2.2.1 k a b
            unfold andN at c
            have c2 := (has_andn ⟨wk.1, by omega⟩).mp c
            have s := hy k a b c2.1
            have ny : ¬ hasI y2 k := fun z => c2.2 (hK.1 k a (by omega) z).2.1
            rw [s, hor k a (by omega)]
            exact ⟨fun z => z.elim (fun w => absurd w ny) id, Or.inr⟩
/-- a cut with which as many players as told do -/
def feP (r : F1) (rd g : Int) (sc : F1) (cut x : Int) : Prop := (0 ≤ x ∧ x < 16384) ∧ (∀ k, 0 ≤ k → k < 32 → hasI x k → k < r 7 ∧ ¬ hasI cut k) ∧ Spl (MayP r rd g sc (ior cut x)) (r 3).toNat (allF (r 4))
def BstV (fe : Int → Prop) (b : Int) : Prop := (b = 65536 ∧ ∀ x, fe x → ¬ bits x ≤ 3) ∨ ∃ x, fe x ∧ bits x ≤ 3 ∧ b = bits x * 16384 + x ∧ b < 65536 ∧ ∀ y, fe y → bits y ≤ 3 → b ≤ bits y * 16384 + y
theorem fe_cost {r : F1} {rd g : Int} {sc : F1} {cut n y : Int} {lc : Int → Int} (hr : WFr r) (hL : ∀ s, 0 ≤ s → s ≤ allF (r 4) → LcV (KsP r rd g sc cut s) (n + 1) (lc s)) (hy : feP r rd g sc cut y) (hb : bits y ≤ n) {v : Int} (hv : ChV lc (r 3).toNat (allF (r 4)) v) : v ≤ bits y * 16384 + y := by
  have e0 := hr.1
  have a7 := allF_7 (n := r 4) ⟨by omega, by omega⟩
  obtain ⟨w, w1, w2⟩ := cost1 hr hy.1 hy.2.1 hL hb (r 3).toNat (allF (r 4)) ⟨a7.1, Int.le_refl _⟩ hy.2.2
  have e : iand y (onsS r (allF (r 4))) = y := set_ext (iand_r _ _) (by have := hy.1; omega) (fun k a b => by
    rw [has_and ⟨a, b⟩, has_onsS (by omega) ⟨a, b⟩]
    refine ⟨fun z => z.1, fun z => ⟨z, (hy.2.1 k a b z).1, ?_⟩⟩
    have wk := hr.2.2.2.1 k a (hy.2.1 k a b z).1
    exact (allF_has ⟨by omega, by omega⟩ ⟨wk.1, by omega⟩).mpr wk.2.1)
  rw [e, wt_eq hy.1] at w2
  have := hv.2.2.2 w w1
  omega
theorem cost_fe {r : F1} {rd g : Int} {sc : F1} {cut n v : Int} {lc : Int → Int} (hr : WFr r) (hL : ∀ s, 0 ≤ s → s ≤ allF (r 4) → LcV (KsP r rd g sc cut s) n (lc s)) (hv : ChV lc (r 3).toNat (allF (r 4)) v) (hlt : v < 65536) : ∃ x, feP r rd g sc cut x ∧ bits x * 16384 + x = v := by
  have a7 := allF_7 (n := r 4) ⟨by have := hr.1; omega, by have := hr.1; omega⟩
  obtain ⟨x, x1, x2, x3, x4⟩ := cost2 hr hL (r 3).toNat (allF (r 4)) v ⟨a7.1, Int.le_refl _⟩ (hv.2.2.1 hlt) hlt
  rw [wt_eq x1] at x3
  exact ⟨x, ⟨x1, fun k a b c => ⟨(x2 k a b c).1, (x2 k a b c).2.2⟩, x4 x (fun k a b c => Iff.rfl)⟩, x3⟩
set_option maxHeartbeats 4000000 in
theorem c_X1_addCuts {E : ET} {I : MI} {L : ML} {R : MR} {Q : Option AV → MI → ML → MR → Prop} {P : Nat} {r sc : F1} {rd g cut n : Int} (hT : Topo R) (hP : isP P) (hNP : R 85 1 = some P) (hr : WFr r) (hsc : Perm (r 5) sc) (hg : 0 ≤ g ∧ g ≤ 99) (hW : GW3 85 P r rd g sc cut I) (hn : 0 ≤ n ∧ n ≤ 3) (hL : ∀ s, 0 ≤ s → s ≤ allF (r 4) → LcV (KsP r rd g sc cut s) n (I 110 s)) (h : ∀ I', Eqo [110] I I' → (∀ s, allF (r 4) < s → I' 110 s = I 110 s) → (∀ s, 0 ≤ s → s ≤ allF (r 4) → LcV (KsP r rd g sc cut s) (n + 1) (I' 110 s)) → Q none I' L R) : CT E M_X1_addCuts 161 yX1_addCuts [(vr (107)), (vi (n))] I L R Q := by
  refine CT_of rfl rfl (fun h => by cases h) (Nat.le_of_ble_eq_true rfl) (fun X => ?_)
  show V X _ z0 0 [some (vr (107)), some (vi (n)), none, none, none] [] I L R _
  have e0 := hr.1
  have hp : P = 3 ∨ P = 39 := hP
  have a7 := allF_7 (n := r 4) ⟨by omega, by omega⟩
  have loop : ∀ (f : Nat) (s : Int) (I1 : MI) (w4 : Option AV), allF (r 4) + 1 - s < (f : Int) → 0 ≤ s → s ≤ allF (r 4) + 1 → Eqo [110] I I1 → (∀ t, allF (r 4) < t → I1 110 t = I 110 t) → (∀ t, s ≤ t → I1 110 t = I 110 t) → (∀ t, 0 ≤ t → t < s → LcV (KsP r rd g sc cut t) (n + 1) (I1 110 t)) → V X M_X1_addCuts z0 10 [some (vr (107)), some (vi (n)), some (vi (allF (r 4))), some (vi (s)), w4] [] (I1) L R (RT X M_X1_addCuts Q) := by
    intro f
    induction f with
    | zero => intro s I1 w4 h1 h2 h3; omega
    | succ f ih =>
      intro s I1 w4 h1 h2 h3 h4 h5 h6 h7
      by_cases hs : s ≤ allF (r 4)
      · have W1 : GW3 85 P r rd g sc cut I1 := hW.eq hr (fun c hc => h4 c (by simp; omega))
        have hLs := hL s h2 hs
        rw [← h6 s (Int.le_refl _)] at hLs
        by_cases e : I1 110 s = 65536
        · have hno : ∀ n' x, 0 ≤ n' → n' < n → ¬ KsP r rd g sc cut s n' x := by
            rcases hLs with z | ⟨n2, x2, z1, z2, z3, z4, z5, z6, z7, _⟩
            · exact z.2
            · omega
          have stA : ∀ v, WoV (fun y => Can r rd (bgF r g sc) (clF r g sc) (sqF r g sc) (fun k => hasI y k)) (iand (onsS r s) (ixor cut (-1))) n (r 7) v → v ≠ -1 → ∀ w4, V X M_X1_addCuts z0 10 [some (vr (107)), some (vi (n)), some (vi (allF (r 4))), some (vi (s + 1)), w4] [] (up I1 110 s (n * 16384 + v)) L R (RT X M_X1_addCuts Q) := by
            intro v hv hne w4
            refine ih (s + 1) _ _ (by omega) (by omega) (by omega) (h4.st (by simp)) (fun t t1 => by rw [upn (by omega)]; exact h5 t t1) (fun t t1 => by rw [upn (by omega)]; exact h6 t (by omega)) (fun t t1 t2 => ?_)
            rw [upd9]
            by_cases et : t = s
            · subst et
              rw [if_pos rfl]
              rcases hv with hv | hv
              · exact absurd hv.1 hne
              · have := Ks_lt hr hv.1
                exact Or.inr ⟨n, v, hn.1, by omega, hn.2, hv.1, by omega, by omega, rfl, hv.2, hno⟩
            · rw [if_neg et]; exact h7 t t1 (by omega)
          have stB : ∀ v, WoV (fun y => Can r rd (bgF r g sc) (clF r g sc) (sqF r g sc) (fun k => hasI y k)) (iand (onsS r s) (ixor cut (-1))) n (r 7) v → v = -1 → ∀ w4, V X M_X1_addCuts z0 10 [some (vr (107)), some (vi (n)), some (vi (allF (r 4))), some (vi (s + 1)), w4] [] (I1) L R (RT X M_X1_addCuts Q) := by
            intro v hv hne w4
            refine ih (s + 1) I1 _ (by omega) (by omega) (by omega) h4 h5 (fun t t1 => h6 t (by omega)) (fun t t1 t2 => ?_)
            by_cases et : t = s
            · subst et
              rcases hv with hv | hv
              · refine Or.inl ⟨e, fun n' x a b => ?_⟩
                by_cases en : n' = n
                · rw [en]; exact hv.2 x
                · exact hno n' x a (by omega)
              · have := hv.1.1; omega
            · exact h7 t t1 (by omega)
          refine s_iload_n 11 dX1_addCuts_10 rfl rfl ?_
          refine s_iload_n 12 dX1_addCuts_11 rfl rfl ?_
          refine s_icmp_gt 70 15 dX1_addCuts_12 rfl rfl (by first | omega | exact bI_r _ | exact iI_r _) (by first | omega | exact bI_r _ | exact iI_r _) (fun h_12 => by exfalso; omega) (fun h_12 => ?_)
          refine s_iload_n 16 dX1_addCuts_15 rfl rfl ?_
          refine s_sipush 19 dX1_addCuts_16 rfl (by decide) ?_
          refine s_icmp_ge 70 22 dX1_addCuts_19 rfl rfl (by first | omega | exact bI_r _ | exact iI_r _) (by first | omega | exact bI_r _ | exact iI_r _) (fun h_19 => by exfalso; omega) (fun h_19 => ?_)
          refine s_aload_n 23 dX1_addCuts_22 rfl rfl ?_
          refine s_getR 26 dX1_addCuts_23 rfl fl_X1_26 (fun _ _ _ _ => rfl) (T_X1_leastCuts hT) sh_107 (Nat.le_of_ble_eq_true rfl) ?_
          refine s_iload_n 27 dX1_addCuts_26 rfl rfl ?_
          refine s_iald 28 dX1_addCuts_27 rfl sh_110 (Nat.le_of_ble_eq_true rfl) (by omega) (by omega) (fun r_27 => ?_)
          rw [e]
          refine s_ldc 30 dX1_addCuts_28 rfl _ ck_X1_32 ?_
          refine s_icmp_ne 64 33 dX1_addCuts_30 rfl rfl (by first | omega | exact bI_r _ | exact iI_r _) (by first | omega | exact bI_r _ | exact iI_r _) (fun h_30 => by exfalso; omega) (fun h_30 => ?_)
          refine s_aload_n 34 dX1_addCuts_33 rfl rfl ?_
          refine s_getR 37 dX1_addCuts_34 rfl fl_X1_36 (fun _ _ _ _ => rfl) (T_X1_night hT) sh_107 (Nat.le_of_ble_eq_true rfl) ?_
          refine s_iload_n 38 dX1_addCuts_37 rfl rfl ?_
          refine s_iload_n 39 dX1_addCuts_38 rfl rfl ?_
          refine s_callV0 (M' := M_X4_leastCut) (as := [_, _]) 42 dX1_addCuts_39 rfl cw_X1_95 rfl rfl (isN_sh isN_85) rfl (by decide) (isN_lt isN_85) (Nat.le_of_ble_eq_true rfl) (Nat.le_of_ble_eq_true rfl) (Nat.le_of_ble_eq_true rfl) ⟨rfl, rfl, rfl⟩ ?_
          refine c_X4_leastCut hT isN_85 hP hNP hr W1.1 W1.2.1 hsc hg hn (fun v hv => ?_)
          have vb : -1 ≤ v ∧ v < 16384 := hv.elim (fun z => by omega) (fun z => by have := Ks_lt hr z.1; omega)
          refine s_istore (ls' := [_, _, _, _, _]) 44 dX1_addCuts_42 rfl (Nat.le_of_ble_eq_true rfl) rfl rfl ?_
          refine s_iload 46 dX1_addCuts_44 rfl rfl ?_
          refine s_iconst 47 dX1_addCuts_46 rfl ?_
          refine s_icmp_eq 64 50 dX1_addCuts_47 rfl rfl (by first | omega | exact bI_r _ | exact iI_r _) (by first | omega | exact bI_r _ | exact iI_r _) (fun h_47 => ?_) (fun h_47 => ?_)
          · skip
            refine s_iinc (ls' := [_, _, _, _, _]) 67 dX1_addCuts_64 rfl rfl (Nat.le_of_ble_eq_true rfl) rfl rfl ?_
            refine s_goto 10 dX1_addCuts_67 rfl ?_
            first | exact stA v hv h_47 _ | exact stB v hv h_47 _
          refine s_aload_n 51 dX1_addCuts_50 rfl rfl ?_
          refine s_getR 54 dX1_addCuts_51 rfl fl_X1_26 (fun _ _ _ _ => rfl) (T_X1_leastCuts hT) sh_107 (Nat.le_of_ble_eq_true rfl) ?_
          refine s_iload_n 55 dX1_addCuts_54 rfl rfl ?_
          refine s_iload_n 56 dX1_addCuts_55 rfl rfl ?_
          refine s_sipush 59 dX1_addCuts_56 rfl (by decide) ?_
          refine s_imul 60 dX1_addCuts_59 rfl ?_
          refine s_iload 62 dX1_addCuts_60 rfl rfl ?_
          refine s_iadd 63 dX1_addCuts_62 rfl ?_
          refine s_iast 64 dX1_addCuts_63 rfl sh_110 (Nat.le_of_ble_eq_true rfl) (by omega) (by omega) (by first | omega | exact bI_r _ | exact iI_r _) ?_
          refine s_iinc (ls' := [_, _, _, _, _]) 67 dX1_addCuts_64 rfl rfl (Nat.le_of_ble_eq_true rfl) rfl rfl ?_
          refine s_goto 10 dX1_addCuts_67 rfl ?_
          first | exact stA v hv h_47 _ | exact stB v hv h_47 _
        · skip
          refine s_iload_n 11 dX1_addCuts_10 rfl rfl ?_
          refine s_iload_n 12 dX1_addCuts_11 rfl rfl ?_
          refine s_icmp_gt 70 15 dX1_addCuts_12 rfl rfl (by first | omega | exact bI_r _ | exact iI_r _) (by first | omega | exact bI_r _ | exact iI_r _) (fun h_12 => by exfalso; omega) (fun h_12 => ?_)
          refine s_iload_n 16 dX1_addCuts_15 rfl rfl ?_
          refine s_sipush 19 dX1_addCuts_16 rfl (by decide) ?_
          refine s_icmp_ge 70 22 dX1_addCuts_19 rfl rfl (by first | omega | exact bI_r _ | exact iI_r _) (by first | omega | exact bI_r _ | exact iI_r _) (fun h_19 => by exfalso; omega) (fun h_19 => ?_)
          refine s_aload_n 23 dX1_addCuts_22 rfl rfl ?_
          refine s_getR 26 dX1_addCuts_23 rfl fl_X1_26 (fun _ _ _ _ => rfl) (T_X1_leastCuts hT) sh_107 (Nat.le_of_ble_eq_true rfl) ?_
          refine s_iload_n 27 dX1_addCuts_26 rfl rfl ?_
          refine s_iald 28 dX1_addCuts_27 rfl sh_110 (Nat.le_of_ble_eq_true rfl) (by omega) (by omega) (fun r_27 => ?_)
          refine s_ldc 30 dX1_addCuts_28 rfl _ ck_X1_32 ?_
          refine s_icmp_ne 64 33 dX1_addCuts_30 rfl rfl (by first | omega | exact bI_r _ | exact iI_r _) (by first | omega | exact bI_r _ | exact iI_r _) (fun h_30 => ?_) (fun h_30 => by exfalso; omega)
          refine s_iinc (ls' := [_, _, _, _, _]) 67 dX1_addCuts_64 rfl rfl (Nat.le_of_ble_eq_true rfl) rfl rfl ?_
          refine s_goto 10 dX1_addCuts_67 rfl ?_
          refine ih (s + 1) I1 _ (by omega) (by omega) (by omega) h4 h5 (fun t t1 => h6 t (by omega)) (fun t t1 t2 => ?_)
          by_cases et : t = s
          · subst et
            rcases hLs with z | ⟨n2, x2, z1, z2, z3⟩
            · exact absurd z.1 e
            · exact Or.inr ⟨n2, x2, z1, by omega, z3⟩
          · exact h7 t t1 (by omega)
      · skip
        refine s_iload_n 11 dX1_addCuts_10 rfl rfl ?_
        refine s_iload_n 12 dX1_addCuts_11 rfl rfl ?_
        refine s_icmp_gt 70 15 dX1_addCuts_12 rfl rfl (by first | omega | exact bI_r _ | exact iI_r _) (by first | omega | exact bI_r _ | exact iI_r _) (fun h_12 => ?_) (fun h_12 => by exfalso; omega)
        refine s_vret dX1_addCuts_70 rfl rfl ?_
        exact h I1 h4 h5 (fun t t1 t2 => h7 t t1 (by omega))
  refine s_aload_n 1 dX1_addCuts_0 rfl rfl ?_
  refine s_getR 4 dX1_addCuts_1 rfl fl_X1_36 (fun _ _ _ _ => rfl) (T_X1_night hT) sh_107 (Nat.le_of_ble_eq_true rfl) ?_
  refine s_callV0 (M' := M_X4_allParts) (as := []) 7 dX1_addCuts_4 rfl cw_X1_45 rfl rfl (isN_sh isN_85) rfl (by decide) (isN_lt isN_85) (Nat.le_of_ble_eq_true rfl) (Nat.le_of_ble_eq_true rfl) (Nat.le_of_ble_eq_true rfl) ⟨rfl, rfl, rfl⟩ ?_
  refine c_X4_allParts hT isN_85 hP hNP hW.1 ?_
  refine s_istore_n (ls' := [_, _, _, _, _]) 8 dX1_addCuts_7 rfl (Nat.le_of_ble_eq_true rfl) rfl rfl ?_
  refine s_iconst 9 dX1_addCuts_8 rfl ?_
  refine s_istore_n (ls' := [_, _, _, _, _]) 10 dX1_addCuts_9 rfl (Nat.le_of_ble_eq_true rfl) rfl rfl ?_
  exact loop 130 0 I _ (by omega) (by omega) (by omega) Eqo.rf (fun _ _ => rfl) (fun _ _ => rfl) (fun t t1 t2 => by omega)
