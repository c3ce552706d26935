/-! small helps -/
/-- other cells than these are as before -/
def Eqo (cs : List Nat) (I I' : MI) : Prop := ∀ a, a ∉ cs → I' a = I a
theorem Eqo.rf {cs : List Nat} {I : MI} : Eqo cs I I := fun _ _ => rfl
theorem Eqo.tr {cs : List Nat} {I I' I'' : MI} (h : Eqo cs I I') (h' : Eqo cs I' I'') : Eqo cs I I'' := fun a ha => (h' a ha).trans (h a ha)
theorem Eqo.mo {cs cs' : List Nat} {I I' : MI} (h : Eqo cs I I') (hs : ∀ a, a ∈ cs → a ∈ cs') : Eqo cs' I I' := fun a ha => h a (fun q => ha (hs a q))
theorem Eqo.st {cs : List Nat} {I I' : MI} (h : Eqo cs I I') {c : Nat} {k v : Int} (hc : c ∈ cs) : Eqo cs I (up I' c k v) := fun a ha => by
  have e : a ≠ c := fun e => ha (by rw [e]; exact hc)
  rw [up_ne e]
  exact h a ha
theorem ups {I : MI} {c : Nat} {k v : Int} : up I c k v c k = v := by rw [up_eq]; exact if_pos rfl
theorem upn {I : MI} {c : Nat} {k v j : Int} (h : j ≠ k) : up I c k v c j = I c j := by rw [up_eq]; exact if_neg h
theorem upd9 {I : MI} {c : Nat} {k v j : Int} : up I c k v c j = if j = k then v else I c j := by rw [up_eq]
abbrev QT : Type := Option AV → MI → ML → MR → Prop
abbrev F1 : Type := Int → Int
/-- a piece's 281 numbers are as a text may tell them -/
def WFr (r : F1) : Prop := (1 ≤ r 4 ∧ r 4 ≤ 7 ∧ 1 ≤ r 5 ∧ r 5 ≤ 5 ∧ 0 ≤ r 6 ∧ r 6 ≤ 6 ∧ 0 ≤ r 7 ∧ r 7 ≤ 14 ∧ 0 ≤ r 8 ∧ r 8 ≤ 7 ∧ 0 ≤ r 1 ∧ r 1 ≤ 99 ∧ 0 ≤ r 2 ∧ r 2 ≤ 99 ∧ 1 ≤ r 3 ∧ r 3 ≤ 3) ∧
  (∀ p, 0 ≤ p → p < 7 → 0 ≤ r (9 + p) ∧ r (9 + p) ≤ 3 ∧ 0 ≤ r (16 + p) ∧ r (16 + p) ≤ 9 ∧ 0 ≤ r (23 + p) ∧ r (23 + p) ≤ 99 ∧ 0 ≤ r (30 + p) ∧ r (30 + p) ≤ 99 ∧ 0 ≤ r (37 + p) ∧ r (37 + p) ≤ 99) ∧
  (∀ s, 0 ≤ s → s < 5 → 0 ≤ r (44 + s) ∧ r (44 + s) ≤ 500 ∧ 0 ≤ r (49 + s) ∧ r (49 + s) < 32) ∧
  (∀ k, 0 ≤ k → k < r 7 → 0 ≤ r (54 + 7 * k + 0) ∧ r (54 + 7 * k + 0) < r 4 ∧ 0 ≤ r (54 + 7 * k + 1) ∧ r (54 + 7 * k + 1) < r 5 ∧ 0 ≤ r (54 + 7 * k + 2) ∧ r (54 + 7 * k + 2) < r (54 + 7 * k + 3) ∧ r (54 + 7 * k + 3) ≤ r (44 + r (54 + 7 * k + 1)) ∧
    0 ≤ r (54 + 7 * k + 4) ∧ r (54 + 7 * k + 4) ≤ 1 ∧ 0 ≤ r (54 + 7 * k + 5) ∧ r (54 + 7 * k + 5) ≤ 1 ∧ 0 ≤ r (54 + 7 * k + 6) ∧ r (54 + 7 * k + 6) ≤ 1) ∧
  (∀ w, 0 ≤ w → w < r 8 → 0 ≤ r (152 + 3 * w + 0) ∧ r (152 + 3 * w + 0) < r 4 ∧ 0 ≤ r (152 + 3 * w + 1) ∧ r (152 + 3 * w + 1) ≤ 999 ∧ 0 ≤ r (152 + 3 * w + 2) ∧ r (152 + 3 * w + 2) ≤ 1) ∧
  (∀ s, 0 ≤ s → s < r 5 → ∀ q, 0 ≤ q → q < 32 → hasI (r (49 + s)) q → q < r 5)
/-- a row of scenes, each once -/
def Perm (n : Int) (sc : F1) : Prop := (∀ i, 0 ≤ i → i < n → 0 ≤ sc i ∧ sc i < n) ∧ (∀ i j, 0 ≤ i → i < n → 0 ≤ j → j < n → sc i = sc j → i = j) ∧ ∀ s, 0 ≤ s → s < n → ∃ i, 0 ≤ i ∧ i < n ∧ sc i = s
