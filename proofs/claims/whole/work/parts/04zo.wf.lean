/-! what is so of the numbers told so far -/
theorem run_ex {bt : F1} {n : Int} (S : Int → Prop) : ∀ (f : Nat) (k : Int), n - k ≤ f → ∃ e, IsRun (fun j => j < n ∧ S (bt j)) k e
  | 0, k, h => ⟨k, Int.le_refl _, fun j a b => by omega, fun z => by have := z.1; omega⟩
  | f + 1, k, h => by
    by_cases z : k < n ∧ S (bt k)
    · obtain ⟨e, a, b, c⟩ := run_ex (bt := bt) (n := n) S f (k + 1) (by omega)
      exact ⟨e, by omega, fun j j1 j2 => if ej : j = k then (by rw [ej]; exact z) else b j (by omega) j2, c⟩
    · exact ⟨k, Int.le_refl _, fun j a b => by omega, z⟩
theorem rnE_v {bt : F1} {n : Int} (S : Int → Prop) (k : Int) : IsRun (fun j => j < n ∧ S (bt j)) k (rnE (fun j => j < n ∧ S (bt j)) k) :=
  Classical.epsilon_spec (p := IsRun (fun j => j < n ∧ S (bt j)) k) (run_ex S (n - k).toNat k (by omega))
theorem run_le {bt : F1} {n k e : Int} {S : Int → Prop} (h : IsRun (fun j => j < n ∧ S (bt j)) k e) (hk : k ≤ n) : e ≤ n := by
  rcases Int.lt_trichotomy e n with z | z | z
  · omega
  · omega
  · have h1 := h.1
    have := (h.2.1 (e - 1) (by omega) (by omega)).1
    omega
theorem skE_v {bt : F1} {n e : Int} (he : e ≤ n) : e ≤ skE bt n e ∧ skE bt n e ≤ n := by
  have h := rnE_v (bt := bt) (n := n) (fun c => c = 32) e
  exact ⟨h.1, run_le (S := fun c => c = 32) h he⟩
theorem enE_v {bt : F1} {n a : Int} (ha : a ≤ n) : a ≤ enE bt n a ∧ enE bt n a ≤ n ∧ (a < n → a < enE bt n a) := by
  unfold enE
  by_cases h : a < n
  · rw [pick_t h]
    by_cases s : smB (bt a)
    · rw [pick_t s]
      have g := rnE_v (bt := bt) (n := n) smB a
      have g3 : a < rnE (fun j => j < n ∧ smB (bt j)) a := by
        rcases Int.lt_trichotomy a (rnE (fun j => j < n ∧ smB (bt j)) a) with z | z | z
        · exact z
        · exact absurd (show a < n ∧ smB (bt a) from ⟨h, s⟩) (by have := g.2.2; rw [← z] at this; exact this)
        · have := g.1; omega
      exact ⟨g.1, run_le g ha, fun _ => g3⟩
    · rw [pick_f s]
      by_cases d : dgB (bt a)
      · rw [pick_t d]
        have g := rnE_v (bt := bt) (n := n) dgB a
        have g3 : a < rnE (fun j => j < n ∧ dgB (bt j)) a := by
          rcases Int.lt_trichotomy a (rnE (fun j => j < n ∧ dgB (bt j)) a) with z | z | z
          · exact z
          · exact absurd (show a < n ∧ dgB (bt a) from ⟨h, d⟩) (by have := g.2.2; rw [← z] at this; exact this)
          · have := g.1; omega
        exact ⟨g.1, run_le g ha, fun _ => g3⟩
      · rw [pick_f d]; omega
  · rw [pick_f h]; omega
theorem nxE_v {bt : F1} {n a : Int} (ha : a ≤ n) : a ≤ nxE bt n a ∧ nxE bt n a ≤ n ∧ (a < n → a < nxE bt n a) := by
  have h1 := enE_v (bt := bt) ha
  have h2 := skE_v (bt := bt) (e := enE bt n a) h1.2.1
  unfold nxE
  exact ⟨by omega, h2.2, fun z => by have := h1.2.2 z; omega⟩
theorem tkE_w {bt : F1} {n a : Int} (h : tkE bt n a = 2) : a < n ∧ 1 ≤ enE bt n a - a ∧ enE bt n a - a ≤ 8 ∧ ∀ j, a ≤ j → j < enE bt n a → smB (bt j) := by
  unfold tkE at h
  by_cases y : a < n
  · rw [pick_t y] at h
    by_cases s : smB (bt a)
    · rw [pick_t s] at h
      have e := (enE_v (bt := bt) (n := n) (a := a) (by omega)).2.2 y
      have en : enE bt n a = rnE (fun j => j < n ∧ smB (bt j)) a := by unfold enE; rw [pick_t y, pick_t s]
      have g := rnE_v (bt := bt) (n := n) smB a
      rw [← en] at g
      by_cases u : enE bt n a - a > 8
      · rw [pick_t u] at h; omega
      · exact ⟨y, by omega, by omega, fun j j1 j2 => (g.2.1 j j1 j2).2⟩
    · rw [pick_f s] at h
      by_cases d : dgB (bt a)
      · rw [pick_t d] at h
        by_cases u : enE bt n a - a > 3
        · rw [pick_t u] at h; omega
        · rw [pick_f u] at h; omega
      · rw [pick_f d] at h
        by_cases u : bt a = 59 ∨ bt a = 44
        · rw [pick_t u] at h; omega
        · rw [pick_f u] at h; omega
  · rw [pick_f y] at h; omega
theorem wdE_w {bt : F1} {n a : Int} (h : tkE bt n a = 2) : 1 ≤ (wdE bt n a).length ∧ (wdE bt n a).length ≤ 8 ∧ ∀ k, 0 ≤ k → k < ((wdE bt n a).length : Int) → 97 ≤ vL (wdE bt n a) k ∧ vL (wdE bt n a) k ≤ 122 := by
  have g := tkE_w h
  have l := wdE_len (bt := bt) (n := n) (a := a)
  refine ⟨by omega, by omega, fun k k1 k2 => ?_⟩
  rw [wdE_at ⟨k1, by omega⟩]
  exact g.2.2.2 (a + k) (by omega) (by omega)
def nIx (r : F1) (j : Int) : Prop := (j < 7 ∧ j < r 4) ∨ (7 ≤ j ∧ j - 7 < r 5)
def wHd (r : F1) : Prop := 0 ≤ r 4 ∧ r 4 ≤ 7 ∧ 0 ≤ r 5 ∧ r 5 ≤ 5 ∧ 0 ≤ r 6 ∧ r 6 ≤ 6 ∧ 0 ≤ r 7 ∧ r 7 ≤ 14 ∧ 0 ≤ r 8 ∧ r 8 ≤ 7 ∧ 0 ≤ r 1 ∧ r 1 ≤ 99 ∧ 0 ≤ r 2 ∧ r 2 ≤ 99 ∧ 0 ≤ r 3 ∧ r 3 ≤ 3 ∧ ((r 0 = 0 ∧ r 3 = 0) ∨ (r 0 = 1 ∧ 1 ≤ r 3))
def wPa (r : F1) : Prop := ∀ p, 0 ≤ p → p < 7 → 0 ≤ r (9 + p) ∧ r (9 + p) ≤ 3 ∧ 0 ≤ r (16 + p) ∧ r (16 + p) ≤ 9 ∧ 0 ≤ r (23 + p) ∧ r (23 + p) ≤ 99 ∧ 0 ≤ r (30 + p) ∧ r (30 + p) ≤ 99 ∧ 0 ≤ r (37 + p) ∧ r (37 + p) ≤ 99
def wSc (r : F1) : Prop := ∀ s, 0 ≤ s → s < 5 → 0 ≤ r (44 + s) ∧ r (44 + s) ≤ 500 ∧ 0 ≤ r (49 + s) ∧ r (49 + s) < 32
def wOn (r : F1) : Prop := ∀ k, 0 ≤ k → k < r 7 → 0 ≤ r (54 + 7 * k + 0) ∧ r (54 + 7 * k + 0) < r 4 ∧ 0 ≤ r (54 + 7 * k + 1) ∧ r (54 + 7 * k + 1) < r 5 ∧ 0 ≤ r (54 + 7 * k + 2) ∧ r (54 + 7 * k + 2) < r (54 + 7 * k + 3) ∧ r (54 + 7 * k + 3) ≤ r (44 + r (54 + 7 * k + 1)) ∧
    0 ≤ r (54 + 7 * k + 4) ∧ r (54 + 7 * k + 4) ≤ 1 ∧ 0 ≤ r (54 + 7 * k + 5) ∧ r (54 + 7 * k + 5) ≤ 1 ∧ 0 ≤ r (54 + 7 * k + 6) ∧ r (54 + 7 * k + 6) ≤ 1
def wSa (r : F1) : Prop := ∀ w, 0 ≤ w → w < r 8 → 0 ≤ r (152 + 3 * w + 0) ∧ r (152 + 3 * w + 0) < r 4 ∧ 0 ≤ r (152 + 3 * w + 1) ∧ r (152 + 3 * w + 1) ≤ 999 ∧ 0 ≤ r (152 + 3 * w + 2) ∧ r (152 + 3 * w + 2) ≤ 1
def wBe (r : F1) : Prop := ∀ s, 0 ≤ s → s < r 5 → ∀ q, 0 ≤ q → q < 32 → hasI (r (49 + s)) q → q < r 5
def wS1 (r : F1) : Prop := (∀ s, 0 ≤ s → s < r 5 → 1 ≤ r (44 + s)) ∧ ∀ s, r 5 ≤ s → s < 5 → r (49 + s) = 0
def wNm (r : F1) : Prop := ∀ j, 0 ≤ j → j < 12 → 0 ≤ r (173 + j) ∧ r (173 + j) ≤ 8 ∧ (0 < r (173 + j) ↔ nIx r j)
def wUq (r : F1) : Prop := ∀ (i j : Int) (w : List Int), 0 ≤ i → i < 12 → 0 ≤ j → j < 12 → hasN r w i → hasN r w j → i = j
def wLt (r : F1) : Prop := ∀ j k, 0 ≤ j → j < 12 → 0 ≤ k → k < r (173 + j) → 97 ≤ r (185 + 8 * j + k) ∧ r (185 + 8 * j + k) ≤ 122
def wZ (r : F1) : Prop := ∀ p, r 4 ≤ p → p < 7 → r (9 + p) = 0 ∧ r (37 + p) = 0
/-- no SCENE comes ahead of itself -/
def Acy (r : F1) : Prop := ∃ ρ : Int → Nat, ∀ s, 0 ≤ s → s < 5 → ∀ u, 0 ≤ u → u < 32 → hasI (r (49 + s)) u → ρ u < ρ s
def WFp (r : F1) : Prop := wHd r ∧ wPa r ∧ wSc r ∧ wOn r ∧ wSa r ∧ wBe r ∧ wS1 r ∧ wNm r ∧ wUq r ∧ wLt r ∧ wZ r ∧ Acy r
theorem WFp.r {r : F1} (h : WFp r) (h0 : r 0 ≠ 0) (h4 : r 4 ≠ 0) (h5 : r 5 ≠ 0) : WFr r := by
  obtain ⟨a, b, c, d, e, f, g⟩ := h
  unfold wHd at a
  exact ⟨by omega, b, c, d, e, f⟩
theorem wPa_c {r r' : F1} (h : wPa r) (e : ∀ j, 9 ≤ j → j < 44 → r' j = r j) : wPa r' := fun p p1 p2 => by
  rw [e _ (by omega) (by omega), e _ (by omega) (by omega), e _ (by omega) (by omega), e _ (by omega) (by omega), e _ (by omega) (by omega)]
  exact h p p1 p2
theorem wSc_c {r r' : F1} (h : wSc r) (e : ∀ j, 44 ≤ j → j < 54 → r' j = r j) : wSc r' := fun p p1 p2 => by
  rw [e _ (by omega) (by omega), e _ (by omega) (by omega)]
  exact h p p1 p2
theorem wOn_c {r r' : F1} (hd : wHd r) (h : wOn r) (e : ∀ j, 54 ≤ j → j < 152 → r' j = r j) (e4 : r 4 ≤ r' 4) (e5 : r 5 ≤ r' 5) (e7 : r' 7 = r 7) (el : ∀ s, 0 ≤ s → s < r 5 → r' (44 + s) = r (44 + s)) : wOn r' := fun k k1 k2 => by
  unfold wHd at hd
  rw [e7] at k2
  have g := h k k1 k2
  rw [e (54 + 7 * k + 0) (by omega) (by omega), e (54 + 7 * k + 1) (by omega) (by omega), e (54 + 7 * k + 2) (by omega) (by omega), e (54 + 7 * k + 3) (by omega) (by omega), e (54 + 7 * k + 4) (by omega) (by omega), e (54 + 7 * k + 5) (by omega) (by omega), e (54 + 7 * k + 6) (by omega) (by omega), el (r (54 + 7 * k + 1)) (by omega) (by omega)]
  omega
theorem wSa_c {r r' : F1} (hd : wHd r) (h : wSa r) (e : ∀ j, 152 ≤ j → j < 173 → r' j = r j) (e4 : r 4 ≤ r' 4) (e8 : r' 8 = r 8) : wSa r' := fun k k1 k2 => by
  unfold wHd at hd
  rw [e8] at k2
  have g := h k k1 k2
  rw [e (152 + 3 * k + 0) (by omega) (by omega), e (152 + 3 * k + 1) (by omega) (by omega), e (152 + 3 * k + 2) (by omega) (by omega)]
  omega
theorem wBe_c {r r' : F1} (h : wBe r) (h1 : wS1 r) (hd : wHd r) (e : ∀ s, 0 ≤ s → s < 5 → r' (49 + s) = r (49 + s)) (e5 : r 5 ≤ r' 5) (e5' : r' 5 ≤ 5) : wBe r' := fun s s1 s2 q q1 q2 hq => by
  rw [e s s1 (by omega)] at hq
  by_cases z : s < r 5
  · have := h s s1 z q q1 q2 hq; omega
  · rw [h1.2 s (by omega) (by omega)] at hq
    exact absurd hq (has_0 ⟨q1, q2⟩)
theorem hasN_c {r r' : F1} {w : List Int} {j : Int} (h1 : r' (173 + j) = r (173 + j)) (h2 : ∀ k, 0 ≤ k → k < (w.length : Int) → r' (185 + 8 * j + k) = r (185 + 8 * j + k)) : hasN r' w j ↔ hasN r w j := by
  unfold hasN
  rw [h1]
  constructor
  · rintro ⟨a, b, c⟩; exact ⟨a, b, fun k k1 k2 => by rw [← h2 k k1 k2]; exact c k k1 k2⟩
  · rintro ⟨a, b, c⟩; exact ⟨a, b, fun k k1 k2 => by rw [h2 k k1 k2]; exact c k k1 k2⟩
theorem wNm_c {r r' : F1} (h : wNm r) (e : ∀ j, 173 ≤ j → j < 185 → r' j = r j) (e4 : r' 4 = r 4) (e5 : r' 5 = r 5) : wNm r' := fun j j1 j2 => by
  unfold nIx
  rw [e _ (by omega) (by omega), e4, e5]
  exact h j j1 j2
theorem hasN_len {r : F1} {w : List Int} {j : Int} (hn : wNm r) (hj : 0 ≤ j ∧ j < 12) (h : hasN r w j) : w.length ≤ 8 := by
  have := hn j hj.1 hj.2
  have := h.2.1
  omega
theorem wUq_c {r r' : F1} (hn : wNm r) (h : wUq r) (e : ∀ j, 173 ≤ j → j < 281 → r' j = r j) : wUq r' := fun i j w i1 i2 j1 j2 hi hj => by
  have l : w.length ≤ 8 := by
    have g := hi.2.1
    rw [e _ (by omega) (by omega)] at g
    have := hn i i1 i2
    omega
  refine h i j w i1 i2 j1 j2 ((hasN_c (e _ (by omega) (by omega)) (fun k k1 k2 => e _ (by omega) (by omega))).mp hi) ((hasN_c (e _ (by omega) (by omega)) (fun k k1 k2 => e _ (by omega) (by omega))).mp hj)
theorem wLt_c {r r' : F1} (hn : wNm r) (h : wLt r) (e : ∀ j, 173 ≤ j → j < 281 → r' j = r j) : wLt r' := fun j k j1 j2 k1 k2 => by
  rw [e _ (by omega) (by omega)] at k2
  have := hn j j1 j2
  rw [e _ (by omega) (by omega)]
  exact h j k j1 j2 k1 k2
theorem wZ_c {r r' : F1} (hd : wHd r) (h : wZ r) (e : ∀ j, 9 ≤ j → j < 44 → r' j = r j) (e4 : r' 4 = r 4) : wZ r' := fun p p1 p2 => by
  unfold wHd at hd
  rw [e4] at p1
  rw [e _ (by omega) (by omega), e _ (by omega) (by omega)]
  exact h p p1 p2
theorem Acy_c {r r' : F1} (h : Acy r) (e : ∀ s, 0 ≤ s → s < 5 → r' (49 + s) = r (49 + s)) : Acy r' := by
  obtain ⟨ρ, hρ⟩ := h
  exact ⟨ρ, fun s s1 s2 u u1 u2 hu => hρ s s1 s2 u u1 u2 (by rw [← e s s1 s2]; exact hu)⟩
/-! a name more -/
theorem setN_n {r : F1} {p j : Int} {w : List Int} (h1 : j ≠ 173 + p) (h2 : ¬ (185 + 8 * p ≤ j ∧ j < 185 + 8 * p + w.length)) : setN r p w j = r j := by
  unfold setN
  rw [if_neg h1, if_neg h2]
theorem setN_s {r : F1} {p : Int} {w : List Int} : setN r p w (173 + p) = w.length := if_pos rfl
theorem setN_l {r : F1} {p k : Int} {w : List Int} (hp : 0 ≤ p ∧ p < 12) (hk : 0 ≤ k ∧ k < w.length) : setN r p w (185 + 8 * p + k) = vL w k := by
  unfold setN
  rw [if_neg (by omega), if_pos (by omega)]
  congr 1; omega
theorem names_new {r r' : F1} {p : Int} {w : List Int} (hp : 0 ≤ p ∧ p < 12) (hn : wNm r) (hu : wUq r) (hl : wLt r) (hw : 1 ≤ w.length ∧ w.length ≤ 8) (hs : ∀ k, 0 ≤ k → k < (w.length : Int) → 97 ≤ vL w k ∧ vL w k ≤ 122) (hf : fiF r w < 0)
    (e : ∀ j, 173 ≤ j → j < 281 → r' j = setN r p w j) (hx : ∀ j, 0 ≤ j → j < 12 → (nIx r' j ↔ nIx r j ∨ j = p)) : wNm r' ∧ wUq r' ∧ wLt r' := by
  have nof : ∀ j, 0 ≤ j → j < 12 → ¬ hasN r w j := by
    rcases fiF_v r w with ⟨a, b⟩ | ⟨a, b, c, d⟩
    · exact b
    · omega
  have ep : r' (173 + p) = w.length := by rw [e _ (by omega) (by omega), setN_s]
  have el : ∀ k, 0 ≤ k → k < (w.length : Int) → r' (185 + 8 * p + k) = vL w k := fun k k1 k2 => by rw [e _ (by omega) (by omega), setN_l hp ⟨k1, k2⟩]
  have eo : ∀ j, 0 ≤ j → j < 12 → j ≠ p → r' (173 + j) = r (173 + j) := fun j j1 j2 j3 => by
    rw [e _ (by omega) (by omega), setN_n (by omega) (by omega)]
  have eol : ∀ j k, 0 ≤ j → j < 12 → j ≠ p → 0 ≤ k → k < 8 → r' (185 + 8 * j + k) = r (185 + 8 * j + k) := fun j k j1 j2 j3 k1 k2 => by
    rw [e _ (by omega) (by omega), setN_n (by omega) (by omega)]
  have h1 : wNm r' := fun j j1 j2 => by
    rw [hx j j1 j2]
    by_cases z : j = p
    · rw [z, ep]; exact ⟨by omega, by omega, fun _ => Or.inr rfl, fun _ => by omega⟩
    · rw [eo j j1 j2 z]
      have g := hn j j1 j2
      exact ⟨g.1, g.2.1, fun y => Or.inl (g.2.2.mp y), fun y => g.2.2.mpr (y.elim id (fun q => absurd q z))⟩
  have key : ∀ j v, 0 ≤ j → j < 12 → hasN r' v j → (j = p ∧ v = w) ∨ (j ≠ p ∧ hasN r v j) := by
    intro j v j1 j2 hv
    have lv := hasN_len h1 ⟨j1, j2⟩ hv
    by_cases z : j = p
    · refine Or.inl ⟨z, ?_⟩
      subst z
      obtain ⟨a, b, c⟩ := hv
      rw [ep] at b
      exact vL_ext (n := v.length) rfl (by omega) (fun k k1 k2 => by rw [← c k k1 k2, el k k1 (by omega)])
    · exact Or.inr ⟨z, (hasN_c (eo j j1 j2 z) (fun k k1 k2 => eol j k j1 j2 z k1 (by omega))).mp hv⟩
  refine ⟨h1, fun i j v i1 i2 j1 j2 hi hj => ?_, fun j k j1 j2 k1 k2 => ?_⟩
  · rcases key i v i1 i2 hi with ⟨a, b⟩ | ⟨a, b⟩ <;> rcases key j v j1 j2 hj with ⟨a', b'⟩ | ⟨a', b'⟩
    · omega
    · rw [b] at b'; exact absurd b' (nof j j1 j2)
    · rw [b'] at b; exact absurd b (nof i i1 i2)
    · exact hu i j v i1 i2 j1 j2 b b'
  · by_cases z : j = p
    · subst z
      rw [ep] at k2
      rw [el k k1 k2]
      exact hs k k1 k2
    · rw [eo j j1 j2 z] at k2
      have := hn j j1 j2
      rw [eol j k j1 j2 z k1 (by omega)]
      exact hl j k j1 j2 k1 k2
/-! FAULTS stay -/
theorem isE_nu {bt : F1} {n lo hi : Int} {o : PO} (h : isE o) : isE (nuO bt n lo hi o) := by
  obtain ⟨q, rfl⟩ := isE_t h; trivial
theorem isE_mu {bt : F1} {n : Int} {w : List Int} {o : PO} (h : isE o) : isE (muW bt n w o) := by
  obtain ⟨q, rfl⟩ := isE_t h; trivial
theorem isE_tk {bt : F1} {n : Int} {w : List Int} {o : PO} (h : isE o) : isE (tkW bt n w o) := by
  obtain ⟨q, rfl⟩ := isE_t h; trivial
theorem isE_si {bt : F1} {n : Int} {o : PO} (h : isE o) : isE (siO bt n o) := by
  obtain ⟨q, rfl⟩ := isE_t h; trivial
theorem isE_ki {bt : F1} {n : Int} {o : PO} (h : isE o) : isE (kiO bt n o) := by
  obtain ⟨q, rfl⟩ := isE_t h; trivial
theorem isE_na {bt r : F1} {n : Int} {B : Prop} {o : PO} (h : isE o) : isE (naO bt n r B o) := by
  obtain ⟨q, rfl⟩ := isE_t h; trivial
theorem isE_pn {bt r : F1} {n : Int} {B : Prop} {o : PO} : isE (paO bt n r B o) ↔ isE (naO bt n r B o) := by
  unfold paO
  cases naO bt n r B o with
  | inl q => exact Iff.rfl
  | inr a => exact Iff.rfl
theorem isE_nn {bt r : F1} {n : Int} {o : PO} (h : isE o) : isE (nnO bt n r o) := by
  obtain ⟨q, rfl⟩ := isE_t h; trivial
/-- a name that is told: its number -/
theorem naV_s {bt r : F1} {n : Int} {B : Prop} {o : PO} (hn : wNm r) (h : ¬ isE (naO bt n r B o)) : ∃ a, o = .inr a ∧ nmP bt n a ∧ naO bt n r B o = .inr a ∧ (B → naV bt n r B o < r 4 ∧ naV bt n r B o < 7 ∧ hasN r (wdE bt n a) (naV bt n r B o)) ∧ (¬ B → naV bt n r B o < r 5 ∧ hasN r (wdE bt n a) (7 + naV bt n r B o)) := by
  have ho : ¬ isE o := fun z => h (isE_na z)
  obtain ⟨a, rfl⟩ := isE_f ho
  by_cases h1 : nmP bt n a
  · by_cases h2 : 0 ≤ fiF r (wdE bt n a) ∧ (B ↔ fiF r (wdE bt n a) < 7)
    · have eo : naO bt n r B (.inr a) = .inr a := (pick_t h1).trans (pick_t h2)
      have ev : naV bt n r B (.inr a) = pick B (fiF r (wdE bt n a)) (fiF r (wdE bt n a) - 7) := pick_t ⟨h1, h2⟩
      have hv : 0 ≤ fiF r (wdE bt n a) ∧ fiF r (wdE bt n a) < 12 ∧ hasN r (wdE bt n a) (fiF r (wdE bt n a)) := by
        rcases fiF_v r (wdE bt n a) with ⟨x, y⟩ | ⟨x, y, z, u⟩
        · omega
        · exact ⟨x, y, z⟩
      have hx := ((hn _ hv.1 hv.2.1).2.2).mp hv.2.2.1
      unfold nIx at hx
      refine ⟨a, rfl, h1, eo, fun b => ?_, fun b => ?_⟩
      · have := h2.2.mp b
        rw [ev, pick_t b]
        exact ⟨by omega, this, hv.2.2⟩
      · have : ¬ fiF r (wdE bt n a) < 7 := fun z => b (h2.2.mpr z)
        rw [ev, pick_f b, show 7 + (fiF r (wdE bt n a) - 7) = fiF r (wdE bt n a) by omega]
        exact ⟨by omega, hv.2.2⟩
    · have eo : naO bt n r B (.inr a) = .inl (2, a) := (pick_t h1).trans (pick_f h2)
      rw [eo] at h; exact absurd trivial h
  · have eo : naO bt n r B (.inr a) = .inl (1, a) := pick_f h1
    rw [eo] at h; exact absurd trivial h
theorem nnO_s {bt r : F1} {n : Int} {o : PO} (h : ¬ isE (nnO bt n r o)) : ∃ a, o = .inr a ∧ nmP bt n a ∧ fiF r (wdE bt n a) < 0 ∧ nnO bt n r o = .inr (nxE bt n a) ∧ ∀ p, nnR bt n r p o = setN r p (wdE bt n a) := by
  have ho : ¬ isE o := fun z => h (isE_nn z)
  obtain ⟨a, rfl⟩ := isE_f ho
  by_cases h1 : nmP bt n a
  · by_cases h2 : fiF r (wdE bt n a) < 0
    · exact ⟨a, rfl, h1, h2, (pick_t h1).trans (pick_t h2), fun p => pick_t ⟨h1, h2⟩⟩
    · have eo : nnO bt n r (.inr a) = .inl (3, a) := (pick_t h1).trans (pick_f h2)
      rw [eo] at h; exact absurd trivial h
  · have eo : nnO bt n r (.inr a) = .inl (1, a) := pick_f h1
    rw [eo] at h; exact absurd trivial h
