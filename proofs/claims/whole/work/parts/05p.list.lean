/-! all ORDERS, as the class lists them -/
def okA (r : F1) (pre : List Int) (x : Int) : Prop := x ∉ pre ∧ ∀ s, 0 ≤ s → s < 32 → hasI (r (49 + x)) s → s ∈ pre
noncomputable def exF (r : F1) : Nat → List Int → List (List Int)
  | 0, pre => [pre]
  | m + 1, pre => (List.range (r 5).toNat).flatMap (fun x : Nat => pick (okA r pre x) (exF r m (pre ++ [(x : Int)])) [])
/-- the first k of the branches -/
noncomputable def exK (r : F1) (m : Nat) (pre : List Int) (k : Nat) : List (List Int) := (List.range k).flatMap (fun x : Nat => pick (okA r pre x) (exF r m (pre ++ [(x : Int)])) [])
theorem exK_s {r : F1} {m k : Nat} {pre : List Int} : exK r m pre (k + 1) = exK r m pre k ++ pick (okA r pre k) (exF r m (pre ++ [(k : Int)])) [] := by
  unfold exK
  rw [List.range_succ, List.flatMap_append]
  simp
theorem exK_m {r : F1} {m k : Nat} {pre : List Int} : ∀ d, (exK r m pre k).length ≤ (exK r m pre (k + d)).length
  | 0 => Nat.le_refl _
  | d + 1 => by
    have := exK_m (r := r) (m := m) (k := k) (pre := pre) d
    rw [← Nat.add_assoc, exK_s, List.length_append]
    omega
theorem exF_K {r : F1} {m : Nat} {pre : List Int} : exF r (m + 1) pre = exK r m pre (r 5).toNat := rfl
theorem vL_ap {l : List Int} {x k : Int} (h : 0 ≤ k ∧ k < (l.length : Int)) : vL (l ++ [x]) k = vL l k := by
  unfold vL
  rw [List.getD_eq_getElem?_getD, List.getD_eq_getElem?_getD, List.getElem?_append_left (by omega)]
theorem vL_at {l : List Int} {x : Int} : vL (l ++ [x]) l.length = x := by
  unfold vL
  rw [List.getD_eq_getElem?_getD, Int.toNat_natCast, List.getElem?_concat_length]
  rfl
theorem mem_vL {l : List Int} {x : Int} : x ∈ l ↔ ∃ i : Int, 0 ≤ i ∧ i < l.length ∧ vL l i = x := by
  constructor
  · intro h
    obtain ⟨i, hi, e⟩ := List.getElem_of_mem h
    refine ⟨i, by omega, by omega, ?_⟩
    unfold vL
    rw [List.getD_eq_getElem?_getD, Int.toNat_natCast, List.getElem?_eq_getElem hi, e]
    rfl
  · rintro ⟨i, h1, h2, h3⟩
    unfold vL at h3
    rw [List.getD_eq_getElem?_getD, List.getElem?_eq_getElem (by omega)] at h3
    rw [← h3]
    exact List.getElem_mem _
/-- the prefix keeps what must come ahead -/
def OkP (r : F1) (pre : List Int) : Prop := ∀ i, 0 ≤ i → i < (pre.length : Int) → ∀ s, 0 ≤ s → s < 32 → hasI (r (49 + vL pre i)) s → ∃ j, 0 ≤ j ∧ j < i ∧ vL pre j = s
theorem OkP.ap {r : F1} {pre : List Int} {x : Int} (h : OkP r pre) (hx : ∀ s, 0 ≤ s → s < 32 → hasI (r (49 + x)) s → s ∈ pre) : OkP r (pre ++ [x]) := by
  intro i i1 i2 s s1 s2 s3
  rw [List.length_append, List.length_singleton] at i2
  by_cases e : i < pre.length
  · rw [vL_ap ⟨i1, e⟩] at s3
    obtain ⟨j, a, b, c⟩ := h i i1 e s s1 s2 s3
    exact ⟨j, a, b, by rw [vL_ap ⟨a, by omega⟩]; exact c⟩
  · have e2 : i = pre.length := by omega
    subst e2
    rw [vL_at] at s3
    obtain ⟨j, a, b, c⟩ := mem_vL.mp (hx s s1 s2 s3)
    exact ⟨j, a, b, by rw [vL_ap ⟨a, b⟩]; exact c⟩
theorem prs_pre {α : Type} {P : α → Bool} : ∀ {l : List α}, (∀ x ∈ l, P x = false) → l.filter P = []
  | [], _ => rfl
  | a :: l, h => by
    rw [List.filter_cons_of_neg (by rw [h a (by simp)]; simp)]
    exact prs_pre (fun x hx => h x (by simp [hx]))
def rem (n : Nat) (pre : List Int) : List Int := (idl n).filter (fun x => decide (x ∉ pre))
theorem idl_nd (n : Nat) : (idl n).Nodup := nodup_map (v := fun k => k) (fun i j a b c d e => e)
theorem rem_s {n : Nat} {pre : List Int} {x : Int} : (rem n pre).erase x = rem n (pre ++ [x]) := by
  unfold rem
  rw [List.Nodup.erase_eq_filter (List.Pairwise.filter _ (idl_nd n)), List.filter_filter]
  refine List.filter_congr (fun y _ => ?_)
  by_cases e : y = x
  · subst e; simp
  · simp [e]
theorem fl_if {α β : Type} {p : α → Bool} {f : α → List β} : ∀ {l : List α}, (l.filter p).flatMap f = l.flatMap (fun x => if p x then f x else [])
  | [] => rfl
  | a :: l => by
    by_cases e : p a = true
    · rw [List.filter_cons_of_pos e, List.flatMap_cons, List.flatMap_cons, if_pos e, fl_if]
    · rw [List.filter_cons_of_neg e, List.flatMap_cons, if_neg e, fl_if]; rfl
theorem fm_c {α β : Type} {f g : α → List β} : ∀ {l : List α}, (∀ x ∈ l, f x = g x) → l.flatMap f = l.flatMap g
  | [], _ => rfl
  | a :: l, h => by
    rw [List.flatMap_cons, List.flatMap_cons, h a (by simp), fm_c (fun x hx => h x (by simp [hx]))]
theorem exF_eq {r : F1} (hb : ∀ s, 0 ≤ s → s < r 5 → ∀ q, 0 ≤ q → q < 32 → hasI (r (49 + s)) q → q < r 5) : ∀ (m : Nat) (pre : List Int), pre.length + m = (r 5).toNat → OkP r pre → exF r m pre = ((prs m (rem (r 5).toNat pre)).map (fun t => pre ++ t)).filter (ordB r)
  | 0, pre, h, hp => by
    show [pre] = (([[]] : List (List Int)).map (fun t => pre ++ t)).filter (ordB r)
    have : ordB r pre = true := ordB_t.mpr (fun i i1 i2 => hp i i1 (by omega))
    simp [this]
  | m + 1, pre, h, hp => by
    unfold exF
    unfold prs
    rw [List.map_flatMap, List.filter_flatMap]
    conv => rhs; rw [show rem (r 5).toNat pre = (idl (r 5).toNat).filter (fun x => decide (x ∉ pre)) from rfl]
    rw [fl_if]
    unfold idl
    rw [List.flatMap_map]
    refine fm_c (fun x hx => ?_)
    rw [List.mem_range] at hx
    by_cases e : (x : Int) ∈ pre
    · rw [pick_f (fun z => z.1 e), if_neg (by simp [e])]
    · rw [if_pos (by simp [e])]
      have er := rem_s (n := (r 5).toNat) (pre := pre) (x := (x : Int))
      unfold rem idl at er
      rw [er, List.map_map]
      have ef : ((fun t => pre ++ t) ∘ fun t => (x : Int) :: t) = fun t => (pre ++ [(x : Int)]) ++ t := by
        funext t
        simp
      rw [ef]
      by_cases e2 : ∀ s, 0 ≤ s → s < 32 → hasI (r (49 + (x : Int))) s → s ∈ pre
      · rw [pick_t ⟨e, e2⟩]
        exact exF_eq hb m (pre ++ [(x : Int)]) (by simp; omega) (hp.ap e2)
      · rw [pick_f (fun z => e2 z.2)]
        symm
        refine prs_pre (fun l hl => ?_)
        obtain ⟨t, -, rfl⟩ := List.mem_map.mp hl
        rw [← Bool.not_eq_true, ordB_t]
        intro z
        refine e2 (fun s s1 s2 s3 => ?_)
        have lx : ∀ j, 0 ≤ j → j ≤ (pre.length : Int) → vL ((pre ++ [(x : Int)]) ++ t) j = vL (pre ++ [(x : Int)]) j := fun j j1 j2 => by
          unfold vL
          rw [List.getD_eq_getElem?_getD, List.getD_eq_getElem?_getD, List.getElem?_append_left (by simp; omega)]
        obtain ⟨j, j1, j2, j3⟩ := z pre.length (by omega) (by omega) s s1 s2 (by rw [lx _ (by omega) (by omega), vL_at]; exact s3)
        rw [lx j j1 (by omega), vL_ap ⟨j1, j2⟩] at j3
        exact mem_vL.mpr ⟨j, j1, j2, j3⟩
theorem exF_ordL {r : F1} (hb : ∀ s, 0 ≤ s → s < r 5 → ∀ q, 0 ≤ q → q < 32 → hasI (r (49 + s)) q → q < r 5) : exF r (r 5).toNat [] = ordL r := by
  rw [exF_eq hb (r 5).toNat [] (by simp) (fun i a b => by simp at b; omega)]
  unfold ordL perms
  have : rem (r 5).toNat [] = idl (r 5).toNat := by unfold rem; simp
  rw [this]
  simp
