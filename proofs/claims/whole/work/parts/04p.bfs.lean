/-! nearest first -/
theorem prs_mem : ∀ (n : Nat) (L l : List Int), l.length = n → l.Nodup → (∀ x ∈ l, x ∈ L) → l ∈ prs n L
  | 0, L, l, h, _, _ => by
    cases l with
    | nil => simp [prs]
    | cons a t => simp at h
  | n + 1, L, l, h, hd, hs => by
    cases l with
    | nil => simp at h
    | cons a t =>
      have h1 := List.nodup_cons.mp hd
      refine List.mem_flatMap.mpr ⟨a, hs a (by simp), List.mem_map.mpr ⟨t, prs_mem n (L.erase a) t (by simpa using h) h1.2 (fun x hx => ?_), rfl⟩⟩
      have hne : x ≠ a := fun e => h1.1 (e ▸ hx)
      exact (List.mem_erase_of_ne hne).mpr (hs x (by simp [hx]))
theorem vL_map {v : F1} {n : Nat} {k : Int} (h : 0 ≤ k ∧ k < n) : vL ((List.range n).map (fun k : Nat => v k)) k = v k := by
  unfold vL
  rw [List.getD_eq_getElem?_getD, List.getElem?_map, List.getElem?_range (by omega)]
  show v ((k.toNat : Nat) : Int) = _
  rw [show ((k.toNat : Nat) : Int) = k by omega]
theorem nodup_map {v : F1} : ∀ {n : Nat} (_ : ∀ i j : Int, 0 ≤ i → i < n → 0 ≤ j → j < n → v i = v j → i = j), ((List.range n).map (fun k : Nat => v k)).Nodup := by
  intro n h
  rw [List.nodup_iff_pairwise_ne, List.pairwise_map]
  refine List.Pairwise.imp_of_mem (fun {a b} ha hb hab => ?_) (List.nodup_iff_pairwise_ne.mp List.nodup_range)
  intro e
  rw [List.mem_range] at ha hb
  have := h a b (by omega) (by omega) (by omega) (by omega) e
  omega
theorem perms_all {n : Nat} {v : F1} (h : Perm n v) : ∃ l ∈ perms n, ∀ k : Int, 0 ≤ k → k < n → vL l k = v k := by
  refine ⟨(List.range n).map (fun k : Nat => v k), prs_mem n _ _ (by simp) (nodup_map h.2.1) (fun x hx => ?_), fun k a b => vL_map ⟨a, b⟩⟩
  obtain ⟨k, h1, h2⟩ := List.mem_map.mp hx
  rw [List.mem_range] at h1
  have := h.1 k (by omega) (by omega)
  exact List.mem_map.mpr ⟨x.toNat, by rw [List.mem_range]; omega, by omega⟩
theorem vL_ext {n : Nat} {l m : List Int} (hl : l.length = n) (hm : m.length = n) (h : ∀ k : Int, 0 ≤ k → k < n → vL l k = vL m k) : l = m := by
  apply List.ext_getElem (by omega)
  intro i h1 h2
  have := h i (by omega) (by omega)
  unfold vL at this
  rw [List.getD_eq_getElem?_getD, List.getD_eq_getElem?_getD, show ((i : Int).toNat) = i by omega, List.getElem?_eq_getElem h1, List.getElem?_eq_getElem h2] at this
  exact this
theorem nodup_len {α : Type} [DecidableEq α] : ∀ {l L : List α} (_ : l.Nodup) (_ : ∀ x ∈ l, x ∈ L), l.length ≤ L.length
  | [], L, _, _ => Nat.zero_le _
  | a :: t, L, hd, hs => by
    have h1 := List.nodup_cons.mp hd
    have ha := hs a (by simp)
    have := nodup_len (l := t) (L := L.erase a) h1.2 (fun x hx => (List.mem_erase_of_ne (show x ≠ a from fun e => h1.1 (e ▸ hx))).mpr (hs x (by simp [hx])))
    rw [List.length_erase_of_mem ha] at this
    have := List.length_pos_of_mem ha
    simp; omega
theorem perms_len : (perms 1).length ≤ 120 ∧ (perms 2).length ≤ 120 ∧ (perms 3).length ≤ 120 ∧ (perms 4).length ≤ 120 ∧ (perms 5).length ≤ 120 := by decide +kernel
theorem ordL_len {r : F1} (h : 1 ≤ r 5 ∧ r 5 ≤ 5) : (ordL r).length ≤ 120 := by
  refine Nat.le_trans (List.length_filter_le _ _) ?_
  have hc : (r 5).toNat = 1 ∨ (r 5).toNat = 2 ∨ (r 5).toNat = 3 ∨ (r 5).toNat = 4 ∨ (r 5).toNat = 5 := by omega
  obtain ⟨a, b, c, d, e⟩ := perms_len
  rcases hc with z | z | z | z | z <;> rw [z] <;> assumption
theorem ordL_of {r : F1} {l : List Int} (hr : WFr r) (h : l ∈ ordL r) : Perm (r 5) (vL l) ∧ l.length = (r 5).toNat ∧ OrdP r (vL l) := by
  have e0 := hr.1
  have h1 := List.mem_filter.mp h
  have h2 := perm_of (by omega) h1.1
  rw [show (((r 5).toNat : Nat) : Int) = r 5 by omega] at h2
  exact ⟨h2.1, h2.2, ordB_t.mp h1.2⟩
theorem ordL_all {r v : F1} (hr : WFr r) (hp : Perm (r 5) v) (ho : OrdP r v) : ∃ l ∈ ordL r, ∀ k, 0 ≤ k → k < r 5 → vL l k = v k := by
  have e0 := hr.1
  obtain ⟨l, h1, h2⟩ := perms_all (n := (r 5).toNat) (v := v) (by rw [show (((r 5).toNat : Nat) : Int) = r 5 by omega]; exact hp)
  rw [show (((r 5).toNat : Nat) : Int) = r 5 by omega] at h2
  exact ⟨l, List.mem_filter.mpr ⟨h1, ordB_t.mpr ((OrdP_c (fun i a b => h2 i a b)).mpr ho)⟩, h2⟩
theorem ordL_ext {r : F1} (hr : WFr r) {l m : List Int} (hl : l ∈ ordL r) (hm : m ∈ ordL r) (h : ∀ k, 0 ≤ k → k < r 5 → vL l k = vL m k) : l = m := by
  have e0 := hr.1
  exact vL_ext (ordL_of hr hl).2.1 (ordL_of hr hm).2.1 (fun k a b => h k a (by omega))
theorem tn_Perm {n : Int} {v : F1} {i j : Int} (h : Perm n v) (hi : 0 ≤ i ∧ i < j) (hj : j < n) : Perm n (tnF v i j) := by
  have tn : ∀ k, 0 ≤ k → k < n → ∃ k', 0 ≤ k' ∧ k' < n ∧ tnF v i j k = v k' ∧ (k' = if k = j then i else if k = i then j else k) := by
    intro k a b
    unfold tnF
    by_cases e1 : k = j
    · exact ⟨i, by omega, by omega, by rw [if_pos e1], by rw [if_pos e1]⟩
    · by_cases e2 : k = i
      · exact ⟨j, by omega, by omega, by rw [if_neg e1, if_pos e2], by rw [if_neg e1, if_pos e2]⟩
      · exact ⟨k, a, b, by rw [if_neg e1, if_neg e2], by rw [if_neg e1, if_neg e2]⟩
  refine ⟨fun k a b => ?_, fun k m a b c d e => ?_, fun s a b => ?_⟩
  · obtain ⟨k', x1, x2, x3, _⟩ := tn k a b
    rw [x3]; exact h.1 k' x1 x2
  · obtain ⟨k', x1, x2, x3, x4⟩ := tn k a b
    obtain ⟨m', y1, y2, y3, y4⟩ := tn m c d
    rw [x3, y3] at e
    have := h.2.1 k' m' x1 x2 y1 y2 e
    rw [x4, y4] at this
    split at this <;> split at this <;> (try split at this) <;> (try split at this) <;> omega
  · obtain ⟨k, x1, x2, x3⟩ := h.2.2 s a b
    by_cases e1 : k = j
    · refine ⟨i, by omega, by omega, ?_⟩
      unfold tnF
      rw [if_neg (by omega), if_pos rfl, ← e1]; exact x3
    · by_cases e2 : k = i
      · refine ⟨j, by omega, by omega, ?_⟩
        unfold tnF
        rw [if_pos rfl, ← e2]; exact x3
      · refine ⟨k, x1, x2, ?_⟩
        unfold tnF
        rw [if_neg e1, if_neg e2]; exact x3
/-- one swap apart -/
def Sw1 (r : F1) (l l' : List Int) : Prop := l' ∈ ordL r ∧ ∃ i j, 0 ≤ i ∧ i < j ∧ j < r 5 ∧ ∀ k, 0 ≤ k → k < r 5 → vL l' k = tnF (vL l) i j k
/-- by so many swaps at most -/
def Rc (r : F1) (a : List Int) : Nat → List Int → Prop
  | 0 => fun b => b = a
  | d + 1 => fun b => Rc r a d b ∨ ∃ c, Rc r a d c ∧ Sw1 r c b
theorem Rc.le {r : F1} {a b : List Int} {d e : Nat} (h : Rc r a d b) (hd : d ≤ e) : Rc r a e b := by
  induction hd with
  | refl => exact h
  | step _ ih => exact Or.inl ih
def SwV (r : F1) (T : List Int → Prop) (a : List Int) (v : Int) : Prop := (v = -2 ∧ ∀ d b, Rc r a d b → ¬ T b) ∨ (0 ≤ v ∧ (∃ b, Rc r a v.toNat b ∧ T b) ∧ ∀ d : Nat, (d : Int) < v → ∀ b, Rc r a d b → ¬ T b)
theorem SwV.uq {r : F1} {T : List Int → Prop} {a : List Int} {v w : Int} (h : SwV r T a v) (h' : SwV r T a w) : v = w := by
  rcases h with ⟨a1, b⟩ | ⟨a1, ⟨b, b1, b2⟩, c⟩ <;> rcases h' with ⟨a1', b'⟩ | ⟨a1', ⟨b', b1', b2'⟩, c'⟩
  · omega
  · exact absurd b2' (b _ _ b1')
  · exact absurd b2 (b' _ _ b1)
  · rcases Int.lt_trichotomy v w with z | z | z
    · exact absurd b2 (c' _ (by omega) _ b1)
    · exact z
    · exact absurd b2' (c _ (by omega) _ b1')
noncomputable def swF (r : F1) (T : List Int → Prop) (a : List Int) : Int := Classical.epsilon (SwV r T a)
theorem SwV.v {r : F1} {T : List Int → Prop} {a : List Int} {v : Int} (h : SwV r T a v) : swF r T a = v := (Classical.epsilon_spec (p := SwV r T a) ⟨v, h⟩).uq h
def qa (q : List (List Int × Nat)) (i : Nat) : List Int × Nat := q.getD i ([], 0)
theorem qa_mem {q : List (List Int × Nat)} {i : Nat} (h : i < q.length) : qa q i ∈ q := by
  unfold qa
  rw [List.getD_eq_getElem?_getD, List.getElem?_eq_getElem h]
  exact List.getElem_mem h
theorem mem_qa {q : List (List Int × Nat)} {p : List Int × Nat} (h : p ∈ q) : ∃ i, i < q.length ∧ qa q i = p := by
  obtain ⟨i, h1, h2⟩ := List.getElem_of_mem h
  exact ⟨i, h1, by unfold qa; rw [List.getD_eq_getElem?_getD, List.getElem?_eq_getElem h1]; exact h2⟩
theorem qa_app {q : List (List Int × Nat)} {p : List Int × Nat} {i : Nat} (h : i < q.length) : qa (q ++ [p]) i = qa q i := by
  unfold qa
  rw [List.getD_eq_getElem?_getD, List.getD_eq_getElem?_getD, List.getElem?_append_left h]
theorem qa_last {q : List (List Int × Nat)} {p : List Int × Nat} : qa (q ++ [p]) q.length = p := by
  unfold qa
  rw [List.getD_eq_getElem?_getD, List.getElem?_append_right (Nat.le_refl _)]
  simp
/-- the queue, h of it done -/
abbrev BF (r : F1) (T : List Int → Prop) (a : List Int) (q : List (List Int × Nat)) (h : Nat) : Prop := (h ≤ q.length) ∧ (0 < q.length ∧ qa q 0 = (a, 0)) ∧ ((q.map Prod.fst).Nodup) ∧ (∀ p ∈ q, p.1 ∈ ordL r) ∧ (∀ p ∈ q, Rc r a p.2 p.1 ∧ ∀ d, d < p.2 → ¬ Rc r a d p.1) ∧ (∀ i j, i ≤ j → j < q.length → (qa q i).2 ≤ (qa q j).2) ∧ (h < q.length → ∀ i, i < q.length → (qa q i).2 ≤ (qa q h).2 + 1) ∧ (∀ i, i < h → ¬ T (qa q i).1 ∧ ∀ y, Sw1 r (qa q i).1 y → y ∈ q.map Prod.fst) ∧ (∀ i, i < q.length → (qa q i).2 ≤ i)
theorem BF.le {r : F1} {T : List Int → Prop} {a : List Int} {q : List (List Int × Nat)} {h : Nat} (H : BF r T a q h) : h ≤ q.length := H.1
theorem BF.hd {r : F1} {T : List Int → Prop} {a : List Int} {q : List (List Int × Nat)} {h : Nat} (H : BF r T a q h) : 0 < q.length ∧ qa q 0 = (a, 0) := H.2.1
theorem BF.nd {r : F1} {T : List Int → Prop} {a : List Int} {q : List (List Int × Nat)} {h : Nat} (H : BF r T a q h) : (q.map Prod.fst).Nodup := H.2.2.1
theorem BF.om {r : F1} {T : List Int → Prop} {a : List Int} {q : List (List Int × Nat)} {h : Nat} (H : BF r T a q h) : ∀ p ∈ q, p.1 ∈ ordL r := H.2.2.2.1
theorem BF.ds {r : F1} {T : List Int → Prop} {a : List Int} {q : List (List Int × Nat)} {h : Nat} (H : BF r T a q h) : ∀ p ∈ q, Rc r a p.2 p.1 ∧ ∀ d, d < p.2 → ¬ Rc r a d p.1 := H.2.2.2.2.1
theorem BF.so {r : F1} {T : List Int → Prop} {a : List Int} {q : List (List Int × Nat)} {h : Nat} (H : BF r T a q h) : ∀ i j, i ≤ j → j < q.length → (qa q i).2 ≤ (qa q j).2 := H.2.2.2.2.2.1
theorem BF.to {r : F1} {T : List Int → Prop} {a : List Int} {q : List (List Int × Nat)} {h : Nat} (H : BF r T a q h) : h < q.length → ∀ i, i < q.length → (qa q i).2 ≤ (qa q h).2 + 1 := H.2.2.2.2.2.2.1
theorem BF.dn {r : F1} {T : List Int → Prop} {a : List Int} {q : List (List Int × Nat)} {h : Nat} (H : BF r T a q h) : ∀ i, i < h → ¬ T (qa q i).1 ∧ ∀ y, Sw1 r (qa q i).1 y → y ∈ q.map Prod.fst := H.2.2.2.2.2.2.2.1
theorem BF.bd {r : F1} {T : List Int → Prop} {a : List Int} {q : List (List Int × Nat)} {h : Nat} (H : BF r T a q h) : ∀ i, i < q.length → (qa q i).2 ≤ i := H.2.2.2.2.2.2.2.2
theorem BF.pred {r : F1} {T : List Int → Prop} {a : List Int} {q : List (List Int × Nat)} {h : Nat} (H : BF r T a q h) {x : List Int} (hx : x ∈ q.map Prod.fst) : ∃ i, i < q.length ∧ (qa q i).1 = x := by
  obtain ⟨p, h1, h2⟩ := List.mem_map.mp hx
  obtain ⟨i, h3, h4⟩ := mem_qa h1
  exact ⟨i, h3, by rw [h4, h2]⟩
theorem BF.near {r : F1} {T : List Int → Prop} {a : List Int} {q : List (List Int × Nat)} {h : Nat} (H : BF r T a q h) (hh : h < q.length) : ∀ (d : Nat) (b : List Int), Rc r a d b → d ≤ (qa q h).2 → b ∈ q.map Prod.fst
  | 0, b, hb, _ => by
    have e : b = a := hb
    have := qa_mem H.hd.1
    rw [H.hd.2] at this
    exact List.mem_map.mpr ⟨_, this, e.symm⟩
  | d + 1, b, hb, hd => by
    rcases hb with hb | ⟨c, hc, hs⟩
    · exact BF.near H hh d b hb (by omega)
    · obtain ⟨i, h1, h2⟩ := H.pred (BF.near H hh d c hc (by omega))
      have h3 := (H.ds _ (qa_mem h1)).2
      have h4 : (qa q i).2 ≤ d := by
        apply Classical.byContradiction
        intro z
        rw [h2] at h3
        exact h3 d (by omega) hc
      have h5 : i < h := by
        apply Classical.byContradiction
        intro z
        have := H.so h i (by omega) h1
        omega
      exact (H.dn i h5).2 b (by rw [h2]; exact hs)
theorem BF.found {r : F1} {T : List Int → Prop} {a : List Int} {q : List (List Int × Nat)} {h : Nat} (H : BF r T a q h) (hh : h < q.length) (hT : T (qa q h).1) : SwV r T a (qa q h).2 := by
  refine Or.inr ⟨by omega, ⟨(qa q h).1, (H.ds _ (qa_mem hh)).1, hT⟩, fun d hd b hb => ?_⟩
  obtain ⟨i, h1, h2⟩ := H.pred (H.near hh d b hb (by omega))
  have h3 := (H.ds _ (qa_mem h1)).2
  have h4 : (qa q i).2 ≤ d := by
    apply Classical.byContradiction
    intro z
    rw [h2] at h3
    exact h3 d (by omega) hb
  have h5 : i < h := by
    apply Classical.byContradiction
    intro z
    have := H.so h i (by omega) h1
    omega
  have := (H.dn i h5).1
  rw [h2] at this
  exact this
theorem BF.done {r : F1} {T : List Int → Prop} {a : List Int} {q : List (List Int × Nat)} {h : Nat} (H : BF r T a q h) (hh : h = q.length) : SwV r T a (-2) := by
  have all : ∀ (d : Nat) (b : List Int), Rc r a d b → b ∈ q.map Prod.fst := by
    intro d
    induction d with
    | zero =>
      intro b hb
      have e : b = a := hb
      have := qa_mem H.hd.1
      rw [H.hd.2] at this
      exact List.mem_map.mpr ⟨_, this, e.symm⟩
    | succ d ih =>
      intro b hb
      rcases hb with hb | ⟨c, hc, hs⟩
      · exact ih b hb
      · obtain ⟨i, h1, h2⟩ := H.pred (ih c hc)
        exact (H.dn i (by omega)).2 b (by rw [h2]; exact hs)
  refine Or.inl ⟨rfl, fun d b hb => ?_⟩
  obtain ⟨i, h1, h2⟩ := H.pred (all d b hb)
  have := (H.dn i (by omega)).1
  rw [h2] at this
  exact this
theorem BF.add {r : F1} {T : List Int → Prop} {a : List Int} {q : List (List Int × Nat)} {h : Nat} (H : BF r T a q h) (hh : h < q.length) {y : List Int} (hy : Sw1 r (qa q h).1 y) (hn : y ∉ q.map Prod.fst) : BF r T a (q ++ [(y, (qa q h).2 + 1)]) h := by
  refine ⟨by simp; omega, ⟨by simp, by rw [qa_app H.hd.1]; exact H.hd.2⟩, ?_, fun p hp => ?_, fun p hp => ?_, fun i j hij hj => ?_, fun _ i hi => ?_, fun i hi => ?_, fun i hi => ?_⟩
  · rw [List.map_append, List.nodup_append]
    refine ⟨H.nd, by simp, fun x hx z hz e => ?_⟩
    have hz2 : z = y := by simpa using hz
    rw [e, hz2] at hx
    exact hn hx
  · rcases List.mem_append.mp hp with z | z
    · exact H.om p z
    · rw [List.mem_singleton.mp z]; exact hy.1
  · rcases List.mem_append.mp hp with z | z
    · exact H.ds p z
    · rw [List.mem_singleton.mp z]
      exact ⟨Or.inr ⟨_, (H.ds _ (qa_mem hh)).1, hy⟩, fun d hd q1 => hn (H.near hh d y q1 (by simp at hd; omega))⟩
  · have hj' : j < q.length + 1 := by simpa using hj
    rcases Nat.lt_or_ge j q.length with z | z
    · rw [qa_app z, qa_app (by omega)]; exact H.so i j hij z
    · rw [show j = q.length by omega, qa_last]
      rcases Nat.lt_or_ge i q.length with z2 | z2
      · rw [qa_app z2]; exact H.to hh i z2
      · rw [show i = q.length by omega, qa_last]; exact Nat.le_refl _
  · have hi' : i < q.length + 1 := by simpa using hi
    rw [qa_app hh]
    rcases Nat.lt_or_ge i q.length with z2 | z2
    · rw [qa_app z2]; exact H.to hh i z2
    · rw [show i = q.length by omega, qa_last]; exact Nat.le_refl _
  · rw [qa_app (by omega)]
    exact ⟨(H.dn i hi).1, fun y hy => by rw [List.map_append]; exact List.mem_append.mpr (Or.inl ((H.dn i hi).2 y hy))⟩
  · have hi' : i < q.length + 1 := by simpa using hi
    rcases Nat.lt_or_ge i q.length with z2 | z2
    · rw [qa_app z2]; exact H.bd i z2
    · rw [show i = q.length by omega, qa_last]
      have := H.bd h hh
      show (qa q h).2 + 1 ≤ q.length
      omega
theorem BF.next {r : F1} {T : List Int → Prop} {a : List Int} {q : List (List Int × Nat)} {h : Nat} (H : BF r T a q h) (hh : h < q.length) (hT : ¬ T (qa q h).1) (hy : ∀ y, Sw1 r (qa q h).1 y → y ∈ q.map Prod.fst) : BF r T a q (h + 1) := by
  refine ⟨by omega, H.hd, H.nd, H.om, H.ds, H.so, fun z i hi => ?_, fun i hi => ?_, H.bd⟩
  · have h1 := H.to hh i hi
    have h2 := H.so h (h + 1) (by omega) z
    omega
  · by_cases e : i = h
    · rw [e]; exact ⟨hT, hy⟩
    · exact H.dn i (by omega)
theorem BF.len {r : F1} {T : List Int → Prop} {a : List Int} {q : List (List Int × Nat)} {h : Nat} (H : BF r T a q h) (hr : WFr r) : q.length ≤ 120 := by
  have e0 := hr.1
  have h1 := nodup_len H.nd (L := ordL r) (fun x hx => by
    obtain ⟨p, h1, h2⟩ := List.mem_map.mp hx
    rw [← h2]; exact H.om p h1)
  rw [List.length_map] at h1
  exact Nat.le_trans h1 (ordL_len (by omega))
theorem BF.one {r : F1} {T : List Int → Prop} {a : List Int} (ha : a ∈ ordL r) : BF r T a [(a, 0)] 0 := by
  refine ⟨by simp, ⟨by simp, rfl⟩, by simp, fun p hp => ?_, fun p hp => ?_, fun i j hij hj => ?_, fun _ i hi => ?_, fun i hi => by omega, fun i hi => ?_⟩
  · rw [List.mem_singleton.mp hp]; exact ha
  · rw [List.mem_singleton.mp hp]; exact ⟨rfl, fun d hd => by simp at hd⟩
  · have : j = 0 := by simpa using hj
    have : i = 0 := by omega
    subst_vars; exact Nat.le_refl _
  · have : i = 0 := by simpa using hi
    subst_vars; exact Nat.le_succ _
  · have : i = 0 := by simpa using hi
    subst_vars; exact Nat.le_refl _
