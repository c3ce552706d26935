/-! the fewest: by sets that fall apart, by CASTS; the first CAST of the fewest -/
theorem allF_go {n : Int} {val : List Int → Int} : ∀ (Ls2 Ls1 : List (List Int)) {v : Int} {br : F1}, AllF n val Ls1 v br → ∃ v' br', AllF n val (Ls1 ++ Ls2) v' br'
  | [], Ls1, v, br, h => ⟨v, br, by rw [List.append_nil]; exact h⟩
  | c :: t, Ls1, v, br, h => by
    have e : Ls1 ++ c :: t = (Ls1 ++ [c]) ++ t := by simp
    rw [e]
    by_cases z : val c = -2 ∨ (v ≠ -2 ∧ v ≤ val c)
    · exact allF_go t (Ls1 ++ [c]) (h.keep z)
    · exact allF_go t (Ls1 ++ [c]) (h.new (br' := vL c) rfl (fun y => z (Or.inl y)) (by omega) (fun k a b => rfl))
theorem allF_ex {n : Int} {val : List Int → Int} (Ls : List (List Int)) : ∃ v br, AllF n val Ls v br := by
  have := allF_go (n := n) (val := val) Ls [] (v := -2) (br := fun _ => 0) (Or.inl ⟨rfl, fun l hl => by cases hl⟩)
  rw [List.nil_append] at this
  exact this
theorem valR_t {G : Int → Prop} {n : Nat} {l : List Int} (h : GL G n (vL l)) : valR G n l = plF (vL l) n := pick_t h
theorem valR_n {G : Int → Prop} {n : Nat} {l : List Int} (h : valR G n l ≠ -2) : GL G n (vL l) := Classical.byContradiction (fun z => h (pick_f z))
theorem few_all {G : Int → Prop} {n : Nat} : AllF n (valR G n) (rgs n) (fewV G n) (bestX (valR G n) (rgs n)) := by
  obtain ⟨v, br, h⟩ := allF_ex (n := (n : Int)) (val := valR G n) (rgs n)
  have hb := h.best
  have mem : ∀ j, j < (rgs n).length → (rgs n).getD j [] ∈ rgs n := fun j hj => by
    rw [List.getD_eq_getElem?_getD, List.getElem?_eq_getElem hj]
    exact List.getElem_mem hj
  have hI : IsFew G n v := by
    rcases h with ⟨a, b⟩ | ⟨P, b, S, h1, h2, h3, h4, h5, h6⟩
    · refine Or.inl ⟨a, fun j hj z => ?_⟩
      have e := b _ (mem j hj)
      rw [valR_t z] at e
      have := plF_nn (vL ((rgs n).getD j [])) n
      omega
    · have eb : (rgs n).getD P.length [] = b := by
        rw [h1, List.getD_eq_getElem?_getD, List.getElem?_append_right (Nat.le_refl _), Nat.sub_self]; rfl
      have gb : GL G n (vL b) := valR_n (by rw [← h2]; exact h3)
      refine Or.inr ⟨P.length, by rw [h1]; simp, by rw [eb]; exact gb, by rw [eb, h2, valR_t gb], fun j hj z => ?_⟩
      have hm := mem j hj
      have e := valR_t z
      have nn := plF_nn (vL ((rgs n).getD j [])) n
      rw [← e]
      generalize hl : (rgs n).getD j [] = l at *
      rw [h1] at hm
      rcases List.mem_append.mp hm with y | y
      · rcases h6 l y with w | w <;> omega
      · rcases List.mem_cons.mp y with y | y
        · subst y; omega
        · rcases h5 l y with w | w <;> omega
  have e := hI.v
  rw [e]
  rcases h with ⟨a, b⟩ | ⟨P, b, S, h1, h2, h3, h4, h5, h6⟩
  · exact Or.inl ⟨a, b⟩
  · exact Or.inr ⟨P, b, S, h1, h2, h3, fun k a c => by rw [hb.2 k a c, if_neg h3]; exact h4 k a c, h5, h6⟩
theorem spl_of_col {G : Int → Prop} : ∀ (k : Nat) (S : Int) (c : Int → Int), 0 ≤ S ∧ S ≤ 127 → (∀ p, 0 ≤ p → p < 32 → hasI S p → 0 ≤ c p ∧ c p < k) → (∀ q o : Int, 0 ≤ q → q < k → 0 < o ∧ o ≤ 127 → (∀ p, 0 ≤ p → p < 32 → (hasI o p ↔ hasI S p ∧ c p = q)) → G o) → Spl G k S
  | 0, S, c, hS, h1, h2 => set_ext (by omega) (by omega) (fun p a b => ⟨fun z => by have := h1 p a b z; omega, fun z => absurd z (has_0 ⟨a, b⟩)⟩)
  | k + 1, S, c, hS, h1, h2 => by
    by_cases hz : S = 0
    · exact Or.inl hz
    · have lo := low_ok (s := S) ⟨by omega, hS.2⟩
      obtain ⟨p0, a1, a2, a3⟩ := (set_ne0 (x := lowI S) (by omega)).mp (by omega)
      have a4 : hasI S p0 := sub_has lo.2.2.1 ⟨a1, a2⟩ a3
      have lt7 : ∀ p, 0 ≤ p → p < 32 → hasI S p → p < 7 := fun p b1 b2 b3 => Classical.byContradiction (fun z => has_lt (n := 7) (by omega) ⟨hS.1, by omega⟩ ⟨by omega, b2⟩ b3)
      have ho : ∀ p, 0 ≤ p → p < 32 → (hasI (setOf (fun p => hasI S p ∧ c p = c p0) 7) p ↔ hasI S p ∧ c p = c p0) := fun p b1 b2 => by
        rw [has_setOf (by omega) ⟨b1, b2⟩]
        exact ⟨fun z => z.2, fun z => ⟨by have := lt7 p b1 b2 z.1; omega, z⟩⟩
      have hb := setOf_lt (fun p => hasI S p ∧ c p = c p0) (n := 7) (by decide)
      generalize setOf (fun p => hasI S p ∧ c p = c p0) 7 = o at ho hb
      have o0 : 0 < o := by
        rcases Int.lt_or_le 0 o with z | z
        · exact z
        · exfalso
          have : o = 0 := by omega
          have := (ho p0 a1 a2).mpr ⟨a4, rfl⟩
          simp_all [has_0 ⟨a1, a2⟩]
      have os : sub o S := sub_of (by omega) (fun p b1 b2 b3 => ((ho p b1 b2).mp b3).1)
      have o1 : o ≤ 127 := by omega
      have cp0 := h1 p0 a1 a2 a4
      have nx := sub_next hS ⟨o0, o1⟩ os
      have hr : ∀ p, 0 ≤ p → p < 32 → (hasI (andN S o) p ↔ hasI S p ∧ c p ≠ c p0) := fun p b1 b2 => by
        unfold andN
        rw [has_andn ⟨b1, b2⟩, ho p b1 b2]
        exact ⟨fun z => ⟨z.1, fun w => z.2 ⟨z.1, w⟩⟩, fun z => ⟨z.1, fun w => z.2 w.2⟩⟩
      refine Or.inr ⟨o, o0, o1, os, and_ne.mpr ⟨p0, a1, a2, (ho p0 a1 a2).mpr ⟨a4, rfl⟩, a3⟩, h2 (c p0) o cp0.1 cp0.2 ⟨o0, o1⟩ ho, spl_of_col k (andN S o) (fun p => if c p = k then c p0 else c p) ⟨nx.2.2.2.2.1, by omega⟩ (fun p b1 b2 b3 => ?_) (fun q x q1 q2 x1 x2 => ?_)⟩
      · have w := (hr p b1 b2).mp b3
        have cp := h1 p b1 b2 w.1
        show 0 ≤ (if c p = k then c p0 else c p) ∧ (if c p = k then c p0 else c p) < k
        by_cases e : c p = k
        · rw [if_pos e]; omega
        · rw [if_neg e]; omega
      · by_cases e : q = c p0
        · refine h2 k x (by omega) (by omega) x1 (fun p b1 b2 => ?_)
          rw [x2 p b1 b2, hr p b1 b2]
          show (hasI S p ∧ c p ≠ c p0) ∧ (if c p = k then c p0 else c p) = q ↔ _
          by_cases z : c p = k
          · rw [if_pos z]
            exact ⟨fun w => ⟨w.1.1, z⟩, fun w => ⟨⟨w.1, by omega⟩, e.symm⟩⟩
          · rw [if_neg z]
            exact ⟨fun w => by omega, fun w => absurd w.2 z⟩
        · refine h2 q x q1 (by omega) x1 (fun p b1 b2 => ?_)
          rw [x2 p b1 b2, hr p b1 b2]
          show (hasI S p ∧ c p ≠ c p0) ∧ (if c p = k then c p0 else c p) = q ↔ _
          by_cases z : c p = k
          · rw [if_pos z]
            exact ⟨fun w => by omega, fun w => by omega⟩
          · rw [if_neg z]
            exact ⟨fun w => ⟨w.1.1, w.2⟩, fun w => ⟨⟨w.1, by omega⟩, w.2⟩⟩
theorem spl_to_col {G : Int → Prop} : ∀ (m : Nat) (S : Int), 0 ≤ S ∧ S ≤ 127 → Spl G m S → ∃ c : Int → Int, (∀ p, 0 ≤ p → p < 32 → hasI S p → 0 ≤ c p ∧ c p < m) ∧ ∀ q o : Int, 0 ≤ q → q < m → 0 < o ∧ o ≤ 127 → (∀ p, 0 ≤ p → p < 32 → (hasI o p ↔ hasI S p ∧ c p = q)) → G o
  | 0, S, hS, h => by
    have h : S = 0 := h
    subst h
    exact ⟨fun _ => 0, fun p a b z => absurd z (has_0 ⟨a, b⟩), fun q o a b => by omega⟩
  | m + 1, S, hS, h => by
    rcases h with h | ⟨o, o1, o2, o3, o4, o5, o6⟩
    · subst h
      refine ⟨fun _ => 0, fun p a b z => absurd z (has_0 ⟨a, b⟩), fun q o a b c d => ?_⟩
      exfalso
      obtain ⟨p, p1, p2, p3⟩ := (set_ne0 (x := o) (by omega)).mp (by omega)
      exact has_0 ⟨p1, p2⟩ ((d p p1 p2).mp p3).1
    · have nx := sub_next hS ⟨o1, o2⟩ o3
      obtain ⟨c, c1, c2⟩ := spl_to_col m (andN S o) ⟨nx.2.2.2.2.1, by omega⟩ o6
      have hr : ∀ p, 0 ≤ p → p < 32 → (hasI (andN S o) p ↔ hasI S p ∧ ¬ hasI o p) := fun p b1 b2 => by
        unfold andN
        rw [has_andn ⟨b1, b2⟩]
      refine ⟨fun p => pick (hasI o p) m (c p), fun p a b z => ?_, fun q x q1 q2 x1 x2 => ?_⟩
      · show 0 ≤ pick (hasI o p) (m : Int) (c p) ∧ pick (hasI o p) (m : Int) (c p) < ((m + 1 : Nat) : Int)
        by_cases y : hasI o p
        · rw [pick_t y]; omega
        · rw [pick_f y]
          have := c1 p a b ((hr p a b).mpr ⟨z, y⟩)
          omega
      · by_cases e : q = m
        · have : x = o := set_ext (by omega) (by omega) (fun p b1 b2 => by
            rw [x2 p b1 b2]
            show hasI S p ∧ pick (hasI o p) (m : Int) (c p) = q ↔ _
            by_cases y : hasI o p
            · rw [pick_t y]; exact ⟨fun _ => y, fun _ => ⟨sub_has o3 ⟨b1, b2⟩ y, e.symm⟩⟩
            · rw [pick_f y]
              exact ⟨fun w => by have := c1 p b1 b2 ((hr p b1 b2).mpr ⟨w.1, y⟩); omega, fun w => absurd w y⟩)
          rw [this]; exact o5
        · refine c2 q x q1 (by omega) x1 (fun p b1 b2 => ?_)
          rw [x2 p b1 b2, hr p b1 b2]
          show hasI S p ∧ pick (hasI o p) (m : Int) (c p) = q ↔ _
          by_cases y : hasI o p
          · rw [pick_t y]; exact ⟨fun w => absurd w.2.symm e, fun w => absurd y w.1.2⟩
          · rw [pick_f y]; exact ⟨fun w => ⟨⟨w.1, y⟩, w.2⟩, fun w => ⟨w.1.1, w.2⟩⟩
theorem plF_gt {v : F1} : ∀ {n : Nat} {k : Int}, 0 ≤ k → k < n → v k < plF v n
  | 0, k, a, b => by omega
  | n + 1, k, a, b => by
    unfold plF
    by_cases e : k = n
    · subst e; split <;> omega
    · have := plF_gt (v := v) (n := n) a (by omega)
      split <;> omega
theorem plF_le {v : F1} {m : Int} (hm : 0 ≤ m) : ∀ {n : Nat} (_ : ∀ k : Int, 0 ≤ k → k < n → v k < m), plF v n ≤ m
  | 0, _ => hm
  | n + 1, h => by
    have := plF_le hm (n := n) (fun k a b => h k a (by omega))
    have := h n (by omega) (by omega)
    unfold plF
    split <;> omega
/-- numbers of groups by the order in which they come -/
theorem canon (c : Int → Int) : ∀ n : Nat, ∃ l ∈ rgs n, l.length = n ∧ (∀ i j : Int, 0 ≤ i → i < n → 0 ≤ j → j < n → (vL l i = vL l j ↔ c i = c j)) ∧ (∀ q : Int, 0 ≤ q → q < plF (vL l) n → ∃ i : Int, 0 ≤ i ∧ i < n ∧ vL l i = q) ∧ ∀ i : Int, 0 ≤ i → i < n → 0 ≤ vL l i
  | 0 => ⟨[], by simp [rgs], rfl, fun i j a b => by omega, fun q a b => by simp [plF] at b; omega, fun i a b => by omega⟩
  | n + 1 => by
    obtain ⟨l, h1, h2, h3, h4, h5⟩ := canon c n
    have pn := plF_nn (vL l) n
    have go : ∀ q : Int, 0 ≤ q → q ≤ plF (vL l) n → (∀ i : Int, 0 ≤ i → i < n → (vL l i = q ↔ c i = c n)) → ∃ l ∈ rgs (n + 1), l.length = n + 1 ∧ (∀ i j : Int, 0 ≤ i → i < (n + 1 : Nat) → 0 ≤ j → j < (n + 1 : Nat) → (vL l i = vL l j ↔ c i = c j)) ∧ (∀ q : Int, 0 ≤ q → q < plF (vL l) (n + 1) → ∃ i : Int, 0 ≤ i ∧ i < (n + 1 : Nat) ∧ vL l i = q) ∧ ∀ i : Int, 0 ≤ i → i < (n + 1 : Nat) → 0 ≤ vL l i := by
      intro q q1 q2 q3
      have e1 : ∀ i : Int, 0 ≤ i → i < n → vL (l ++ [q]) i = vL l i := fun i a b => vL_ap ⟨a, by omega⟩
      have e2 : vL (l ++ [q]) (n : Int) = q := by rw [← h2]; exact vL_at
      have pl : plF (vL (l ++ [q])) (n + 1) = if plF (vL l) n < q + 1 then q + 1 else plF (vL l) n := by
        have := plF_ap (l := l) (x := q)
        rw [h2] at this; exact this
      refine ⟨l ++ [q], ?_, by simp [h2], fun i j i1 i2 j1 j2 => ?_, fun x x1 x2 => ?_, fun i i1 i2 => ?_⟩
      · show l ++ [q] ∈ (rgs n).flatMap (fun l => (List.range ((plF (vL l) n).toNat + 1)).map (fun q : Nat => l ++ [(q : Int)]))
        refine List.mem_flatMap.mpr ⟨l, h1, List.mem_map.mpr ⟨q.toNat, List.mem_range.mpr (by omega), by rw [show ((q.toNat : Nat) : Int) = q by omega]⟩⟩
      · by_cases ei : i = n
        · by_cases ej : j = n
          · rw [ei, ej]; exact ⟨fun _ => rfl, fun _ => rfl⟩
          · rw [ei, e2, e1 j j1 (by omega)]
            have := q3 j j1 (by omega)
            exact ⟨fun z => (this.mp z.symm).symm, fun z => (this.mpr z.symm).symm⟩
        · by_cases ej : j = n
          · rw [ej, e2, e1 i i1 (by omega)]; exact q3 i i1 (by omega)
          · rw [e1 i i1 (by omega), e1 j j1 (by omega)]; exact h3 i j i1 (by omega) j1 (by omega)
      · rw [pl] at x2
        by_cases ex : x = q
        · exact ⟨n, by omega, by omega, by rw [e2, ex]⟩
        · obtain ⟨i, a, b, d⟩ := h4 x x1 (by split at x2 <;> omega)
          exact ⟨i, a, by omega, by rw [e1 i a b]; exact d⟩
      · by_cases ei : i = n
        · rw [ei, e2]; exact q1
        · rw [e1 i i1 (by omega)]; exact h5 i i1 (by omega)
    by_cases e : ∃ j : Int, 0 ≤ j ∧ j < n ∧ c j = c n
    · obtain ⟨j, j1, j2, j3⟩ := e
      have g := plF_gt (v := vL l) j1 j2
      exact go (vL l j) (h5 j j1 j2) (by omega) (fun i i1 i2 => by rw [h3 i j i1 i2 j1 j2, j3])
    · refine go (plF (vL l) n) pn (Int.le_refl _) (fun i i1 i2 => ⟨fun z => ?_, fun z => absurd ⟨i, i1, i2, z⟩ e⟩)
      have := plF_gt (v := vL l) i1 i2
      omega
theorem grF_class {l : List Int} {n : Nat} {q o : Int} (hn : n ≤ 7) (ho : 0 ≤ o ∧ o ≤ 127) (h : ∀ p, 0 ≤ p → p < 32 → (hasI o p ↔ p < (n : Int) ∧ vL l p = q)) : o = grF (vL l) n q := by
  refine set_ext (by omega) (setOf_r _ _) (fun p a b => ?_)
  rw [h p a b]
  unfold grF
  rw [has_setOf (by omega) ⟨a, b⟩, Int.toNat_natCast]
theorem grF_has {v : F1} {n : Nat} {q p : Int} (hn : n ≤ 7) (hp : 0 ≤ p ∧ p < 32) : hasI (grF v n q) p ↔ p < (n : Int) ∧ v p = q := by
  unfold grF
  rw [has_setOf (by omega) hp, Int.toNat_natCast]
theorem rgs_b {n : Nat} (hn : 1 ≤ n ∧ n ≤ 7) {l : List Int} (h : l ∈ rgs n) : ∀ k : Int, 0 ≤ k → k < n → 0 ≤ vL l k ∧ vL l k ≤ 6 := by
  obtain ⟨i, hi, e⟩ := List.getElem_of_mem h
  have := ((rgs_facts hn).2.2 i hi).1
  rw [List.getD_eq_getElem?_getD, List.getElem?_eq_getElem hi, Option.getD_some, e] at this
  exact this
theorem spl_few {G : Int → Prop} {n m : Nat} (hn : 1 ≤ n ∧ n ≤ 7) : Spl G m (allF n) ↔ ∃ l ∈ rgs n, GL G n (vL l) ∧ plF (vL l) n ≤ m := by
  have a7 := allF_7 (n := (n : Int)) ⟨by omega, by omega⟩
  have ha : ∀ p, 0 ≤ p → p < 32 → (hasI (allF n) p ↔ p < (n : Int)) := fun p a b => allF_has ⟨by omega, by omega⟩ ⟨a, b⟩
  constructor
  · intro h
    obtain ⟨c, c1, c2⟩ := spl_to_col m (allF n) a7 h
    obtain ⟨l, h1, h2, h3, h4, h5⟩ := canon c n
    refine ⟨l, h1, fun q q1 q2 => ?_, ?_⟩
    · obtain ⟨i, i1, i2, i3⟩ := h4 q q1 q2
      have ci := c1 i i1 (by omega) ((ha i i1 (by omega)).mpr i2)
      have gb := grF_b (v := vL l) (n := (n : Int)) (q := q) ⟨by omega, by omega⟩
      refine c2 (c i) _ ci.1 ci.2 ⟨?_, by omega⟩ (fun p b1 b2 => ?_)
      · have : hasI (grF (vL l) n q) i := (grF_has hn.2 ⟨i1, by omega⟩).mpr ⟨i2, i3⟩
        rcases Int.lt_or_le 0 (grF (vL l) n q) with z | z
        · exact z
        · have e : grF (vL l) n q = 0 := by omega
          rw [e] at this
          exact absurd this (has_0 ⟨i1, by omega⟩)
      · rw [grF_has hn.2 ⟨b1, b2⟩, ha p b1 b2, ← i3]
        exact ⟨fun z => ⟨z.1, (h3 p i b1 z.1 i1 i2).mp z.2⟩, fun z => ⟨z.1, (h3 p i b1 z.1 i1 i2).mpr z.2⟩⟩
    · have hx : ∀ q : Int, ∃ i : Int, 0 ≤ q → q < plF (vL l) n → 0 ≤ i ∧ i < n ∧ vL l i = q := fun q => by
        by_cases z : 0 ≤ q ∧ q < plF (vL l) n
        · obtain ⟨i, hi⟩ := h4 q z.1 z.2
          exact ⟨i, fun _ _ => hi⟩
        · exact ⟨0, fun a b => absurd ⟨a, b⟩ z⟩
      obtain ⟨w, hw⟩ := Classical.axiomOfChoice hx
      have pn := plF_nn (vL l) n
      have nd := nodup_map (v := fun q => c (w q)) (n := (plF (vL l) n).toNat) (fun i j i1 i2 j1 j2 e => by
        have wi := hw i i1 (by omega)
        have wj := hw j j1 (by omega)
        have := (h3 (w i) (w j) wi.1 wi.2.1 wj.1 wj.2.1).mpr e
        omega)
      have le := nodup_len (L := idl m) nd (fun x hx => by
        obtain ⟨k, k1, k2⟩ := List.mem_map.mp hx
        rw [List.mem_range] at k1
        have wk := hw k (by omega) (by omega)
        have ck := c1 (w k) wk.1 (by omega) ((ha _ wk.1 (by omega)).mpr wk.2.1)
        unfold idl
        refine List.mem_map.mpr ⟨x.toNat, List.mem_range.mpr (by omega), by omega⟩)
      rw [List.length_map, List.length_range] at le
      unfold idl at le
      rw [List.length_map, List.length_range] at le
      omega
  · rintro ⟨l, h1, h2, h3⟩
    have hb := rgs_b hn h1
    have pn := plF_nn (vL l) n
    refine (spl_of_col (plF (vL l) n).toNat (allF n) (vL l) a7 (fun p b1 b2 b3 => ?_) (fun q o q1 q2 o1 o2 => ?_)).le (by omega)
    · have hp := (ha p b1 b2).mp b3
      have := plF_gt (v := vL l) b1 hp
      have := hb p b1 hp
      omega
    · have e := grF_class (l := l) (q := q) hn.2 ⟨by omega, o1.2⟩ (fun p b1 b2 => by rw [o2 p b1 b2, ha p b1 b2])
      rw [e]
      exact h2 q q1 (by omega)
theorem few_spl {G : Int → Prop} {n : Nat} (hn : 1 ≤ n ∧ n ≤ 7) : splV G (allF n) = fewV G n := by
  apply SplV.v
  rcases few_all (G := G) (n := n) with ⟨a, b⟩ | ⟨P, b, S, h1, h2, h3, h4, h5, h6⟩
  · refine Or.inl ⟨a, fun m z => ?_⟩
    obtain ⟨l, l1, l2, l3⟩ := (spl_few hn).mp z
    have e := b l l1
    rw [valR_t l2] at e
    have := plF_nn (vL l) n
    omega
  · have gb : GL G n (vL b) := valR_n (by rw [← h2]; exact h3)
    have ev := valR_t gb
    have pn := plF_nn (vL b) n
    refine Or.inr ⟨by omega, (spl_few hn).mpr ⟨b, by rw [h1]; simp, gb, by omega⟩, fun m m1 z => ?_⟩
    obtain ⟨l, l1, l2, l3⟩ := (spl_few hn).mp z
    have el := valR_t l2
    have := plF_nn (vL l) n
    rw [h1] at l1
    rcases List.mem_append.mp l1 with y | y
    · rcases h6 l y with w | w <;> omega
    · rcases List.mem_cons.mp y with y | y
      · subst y; omega
      · rcases h5 l y with w | w <;> omega
def stF (l : List Int) : List (List Int) := (List.range ((plF (vL l) l.length).toNat + 1)).map (fun q : Nat => l ++ [(q : Int)])
def extF : Nat → List Int → List (List Int)
  | 0, l => [l]
  | m + 1, l => (stF l).flatMap (extF m)
theorem ext_back : ∀ (m : Nat) (l : List Int), extF (m + 1) l = (extF m l).flatMap stF
  | 0, l => by
    show (stF l).flatMap (fun x => [x]) = [l].flatMap stF
    rw [List.flatMap_singleton]
    simp
  | m + 1, l => by
    show (stF l).flatMap (extF (m + 1)) = ((stF l).flatMap (extF m)).flatMap stF
    rw [List.flatMap_assoc]
    exact fm_c (fun x _ => ext_back m x)
theorem ext_rgs : ∀ n : Nat, extF n [] = rgs n ∧ ∀ l ∈ rgs n, l.length = n
  | 0 => ⟨rfl, fun l hl => by simp [rgs] at hl; rw [hl]; rfl⟩
  | n + 1 => by
    obtain ⟨h1, h2⟩ := ext_rgs n
    have e : rgs (n + 1) = (rgs n).flatMap stF := by
      show (rgs n).flatMap _ = _
      refine fm_c (fun l hl => ?_)
      unfold stF
      rw [h2 l hl]
    refine ⟨by rw [ext_back, h1, e], fun l hl => ?_⟩
    rw [e] at hl
    obtain ⟨x, x1, x2⟩ := List.mem_flatMap.mp hl
    obtain ⟨q, -, rfl⟩ := List.mem_map.mp x2
    simp [h2 x x1]
theorem ext_pl : ∀ (m : Nat) (l x : List Int), x ∈ extF m l → x.length = l.length + m ∧ plF (vL l) l.length ≤ plF (vL x) x.length
  | 0, l, x, h => by
    have h : x ∈ [l] := h
    rw [List.mem_singleton.mp h]
    exact ⟨rfl, Int.le_refl _⟩
  | m + 1, l, x, h => by
    obtain ⟨y, y1, y2⟩ := List.mem_flatMap.mp (show x ∈ (stF l).flatMap (extF m) from h)
    obtain ⟨q, -, rfl⟩ := List.mem_map.mp y1
    have ih := ext_pl m _ x y2
    have e := plF_ap (l := l) (x := (q : Int))
    rw [List.length_append, List.length_singleton] at ih
    refine ⟨by omega, ?_⟩
    rw [e] at ih
    split at ih <;> omega
noncomputable def tstG (G : Int → Prop) (n : Nat) (most : Int) (l : List Int) : Bool := @decide (GL G n (vL l) ∧ plF (vL l) n ≤ most) (Classical.propDecidable _)
theorem tstG_t {G : Int → Prop} {n : Nat} {most : Int} {l : List Int} : tstG G n most l = true ↔ GL G n (vL l) ∧ plF (vL l) n ≤ most := by
  unfold tstG
  exact @decide_eq_true_iff _ (Classical.propDecidable _)
theorem fst_range {α : Type} (f : Nat → Option α) : ∀ k : Nat, (List.range k).findSome? f = fstF f k
  | 0 => rfl
  | k + 1 => by
    rw [List.range_succ, List.findSome?_append, fst_range f k]
    show (fstF f k).or ([k].findSome? f) = (match fstF f k with
      | some x => some x
      | none => f k)
    cases h : fstF f k with
    | some x => rfl
    | none =>
      show ([k].findSome? f) = f k
      simp
theorem fst_c {α : Type} {f h : Nat → Option α} : ∀ {k : Nat} (_ : ∀ q, q < k → f q = h q), fstF f k = fstF h k
  | 0, _ => rfl
  | k + 1, e => by
    have := fst_c (f := f) (h := h) (k := k) (fun q a => e q (by omega))
    show (match fstF f k with
      | some x => some x
      | none => f k) = (match fstF h k with
      | some x => some x
      | none => h k)
    rw [this, e k (by omega)]
theorem fst_z {α : Type} {f : Nat → Option α} {k : Nat} : ∀ d : Nat, (∀ q, k ≤ q → q < k + d → f q = none) → fstF f (k + d) = fstF f k
  | 0, _ => rfl
  | d + 1, h => by
    have ih := fst_z (f := f) (k := k) d (fun q a b => h q a (by omega))
    have hd := h (k + d) (by omega) (by omega)
    cases e : fstF f (k + d) with
    | some x => rw [← Nat.add_assoc, fstF_s e, ← ih, e]
    | none => rw [← Nat.add_assoc, fstF_n e, hd, ← ih, e]
theorem gv_find {G : Int → Prop} {n : Nat} {most : Int} (hm : 0 ≤ most) : ∀ (m : Nat) (l : List Int), l.length + m = n → plF (vL l) l.length ≤ most → gvF G n most m l = (extF m l).find? (tstG G n most)
  | 0, l, h1, h2 => by
    show pick (GL G n (vL l)) (some l) none = [l].find? (tstG G n most)
    have en : l.length = n := by omega
    by_cases z : GL G n (vL l)
    · have t : tstG G n most l = true := tstG_t.mpr ⟨z, by rw [← en]; exact h2⟩
      rw [pick_t z, List.find?_cons_of_pos t]
    · have t : ¬ tstG G n most l = true := fun y => z (tstG_t.mp y).1
      rw [pick_f z, List.find?_cons_of_neg t]
      rfl
  | m + 1, l, h1, h2 => by
    have pn := plF_nn (vL l) l.length
    show fstF (fun q : Nat => gvF G n most m (l ++ [(q : Int)])) (trN (plF (vL l) l.length) most) = ((stF l).flatMap (extF m)).find? (tstG G n most)
    unfold stF
    rw [List.flatMap_map, List.find?_flatMap, fst_range]
    have e1 : fstF (fun q : Nat => gvF G n most m (l ++ [(q : Int)])) (trN (plF (vL l) l.length) most) = fstF (fun q : Nat => (extF m (l ++ [(q : Int)])).find? (tstG G n most)) (trN (plF (vL l) l.length) most) := fst_c (fun q hq => by
      refine gv_find hm m (l ++ [(q : Int)]) (by simp; omega) ?_
      rw [List.length_append, List.length_singleton, plF_ap]
      unfold trN at hq
      split at hq <;> split <;> omega)
    rw [e1]
    have le : trN (plF (vL l) l.length) most ≤ (plF (vL l) l.length).toNat + 1 := by
      unfold trN
      split <;> omega
    have e2 := fst_z (f := fun q : Nat => (extF m (l ++ [(q : Int)])).find? (tstG G n most)) (k := trN (plF (vL l) l.length) most) ((plF (vL l) l.length).toNat + 1 - trN (plF (vL l) l.length) most) (fun q q1 q2 => by
      rw [List.find?_eq_none]
      intro x hx hx2
      have px := ext_pl m _ x hx
      have t := (tstG_t.mp hx2).2
      rw [List.length_append, List.length_singleton, plF_ap] at px
      have en : x.length = n := by omega
      rw [en] at px
      have px2 := px.2
      unfold trN at q1
      split at q1 <;> split at px2 <;> omega)
    rw [show trN (plF (vL l) l.length) most + ((plF (vL l) l.length).toNat + 1 - trN (plF (vL l) l.length) most) = (plF (vL l) l.length).toNat + 1 by omega] at e2
    exact e2.symm
theorem gives_best {G : Int → Prop} {n : Nat} (hv : fewV G n ≠ -2) : ∃ b, gvF G n (fewV G n) n [] = some b ∧ ∀ i : Int, 0 ≤ i → i < n → bestX (valR G n) (rgs n) i = vL b i := by
  rcases few_all (G := G) (n := n) with ⟨a, b⟩ | ⟨P, b, S, h1, h2, h3, h4, h5, h6⟩
  · exact absurd a hv
  · have gb : GL G n (vL b) := valR_n (by rw [← h2]; exact h3)
    have ev := valR_t gb
    have pn := plF_nn (vL b) n
    refine ⟨b, ?_, h4⟩
    rw [gv_find (by omega) n [] (by simp) (by show (0 : Int) ≤ _; omega), (ext_rgs n).1, List.find?_eq_some_iff_append]
    refine ⟨tstG_t.mpr ⟨gb, by omega⟩, P, S, h1, fun x hx => ?_⟩
    have : ¬ tstG G n (fewV G n) x = true := fun z => by
      have t := tstG_t.mp z
      have e := valR_t t.1
      rcases h6 x hx with w | w
      · have := plF_nn (vL x) n; omega
      · omega
    simpa using this
