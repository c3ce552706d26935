/-! THE ENGINE: an abstract state (ints as Int, longs, references by the cell's number), one judgement over it, a row an instruction -/
abbrev AV : Type := Int ⊕ (Int64 ⊕ (Option Nat ⊕ (Nat × Nat)))
abbrev vi (x : Int) : AV := Sum.inl x
abbrev vl (x : Int64) : AV := Sum.inr (Sum.inl x)
abbrev vo (r : Option Nat) : AV := Sum.inr (Sum.inr (Sum.inl r))
abbrev vr (a : Nat) : AV := Sum.inr (Sum.inr (Sum.inl (some a)))
abbrev vq (t k : Nat) : AV := Sum.inr (Sum.inr (Sum.inr (t, k)))
abbrev MI : Type := Nat → Int → Int
abbrev ML : Type := Nat → Int → Int64
abbrev MR : Type := Nat → Int → Option Nat
/-- base address, heap at the law's start, numbers of classes and fields, of array classes, addresses of constants -/
abbrev GT : Type := Nat × Heap × va_G × (ClassId × ClassId × ClassId × ClassId) × (Nat → Nat → Nat)
def gb (G : GT) : Nat := G.1
def gH (G : GT) : Heap := G.2.1
def gD (G : GT) : va_G := G.2.2.1
def gI (G : GT) : ClassId := G.2.2.2.1.1
def gJ (G : GT) : ClassId := G.2.2.2.1.2.1
def gZ (G : GT) : ClassId := G.2.2.2.1.2.2.1
def gA (G : GT) : ClassId := G.2.2.2.1.2.2.2
def gs (G : GT) : Nat → Nat → Nat := G.2.2.2.2
def iI (x : Int) : Int32 := Int32.ofInt x
theorem iI_t {x : Int} (h : -2147483648 ≤ x ∧ x ≤ 2147483647) : (iI x).toInt = x := Int32.toInt_ofInt_of_le (by omega) (by omega)
theorem iI_of (x : Int32) : iI x.toInt = x := Int32.ofInt_toInt x
theorem iI_r (x : Int32) : -2147483648 ≤ x.toInt ∧ x.toInt ≤ 2147483647 := by
  have h1 := Int32.le_toInt x
  have h2 := Int32.toInt_lt x
  omega
theorem iI_add (x y : Int) : iI x + iI y = iI (x + y) := (Int32.ofInt_add x y).symm
theorem iI_sub (x y : Int) : iI x - iI y = iI (x - y) := (Int32.ofInt_sub x y).symm
theorem iI_mul (x y : Int) : iI x * iI y = iI (x * y) := (Int32.ofInt_mul x y).symm
theorem iI_neg (x : Int) : -iI x = iI (-x) := (Int32.ofInt_neg x).symm
theorem iI_le {x y : Int} (hx : -2147483648 ≤ x ∧ x ≤ 2147483647) (hy : -2147483648 ≤ y ∧ y ≤ 2147483647) : iI x ≤ iI y ↔ x ≤ y := by
  rw [Int32.le_iff_toInt_le, iI_t hx, iI_t hy]
theorem iI_lt {x y : Int} (hx : -2147483648 ≤ x ∧ x ≤ 2147483647) (hy : -2147483648 ≤ y ∧ y ≤ 2147483647) : iI x < iI y ↔ x < y := by
  rw [Int32.lt_iff_toInt_lt, iI_t hx, iI_t hy]
theorem iI_eq {x y : Int} (hx : -2147483648 ≤ x ∧ x ≤ 2147483647) (hy : -2147483648 ≤ y ∧ y ≤ 2147483647) : iI x = iI y ↔ x = y := by
  rw [← Int32.toInt_inj, iI_t hx, iI_t hy]
theorem iI_0 : (0 : Int32) = iI 0 := by decide
theorem iI_nat (n : Nat) : iI (n : Int) = nI n := Int32.ofInt_eq_ofNat
/-- total operations of Java on ints -/
def iand (x y : Int) : Int := (iI x &&& iI y).toInt
def ior (x y : Int) : Int := (iI x ||| iI y).toInt
def ixor (x y : Int) : Int := (iI x ^^^ iI y).toInt
def ishl (x y : Int) : Int := (iI x <<< (iI y &&& 31)).toInt
def ishr (x y : Int) : Int := (iI x >>> (iI y &&& 31)).toInt
def idiv (x y : Int) : Int := (iI x / iI y).toInt
def irem (x y : Int) : Int := (iI x - iI x / iI y * iI y).toInt
def cv (G : GT) (v : AV) : Value := match v with
  | .inl x => .int (iI x)
  | .inr (.inl x) => .long x
  | .inr (.inr (.inl r)) => va_rf (r.map (gb G + ·))
  | .inr (.inr (.inr q)) => .ref (gs G q.1 q.2)
def ct (v : AV) : Nat := match v with
  | .inr (.inl _) => 2
  | _ => 1
theorem cv_ct (G : GT) (v : AV) : (cv G v).category = ct v := by
  rcases v with x | x | r | q
  · rfl
  · rfl
  · cases r <;> rfl
  · rfl
/-- locals: the known ones, by place -/
def lk : List (Option AV) → Nat → Option AV
  | [], _ => none
  | v :: _, 0 => v
  | _ :: l, n + 1 => lk l n
def stl : List (Option AV) → Nat → Option AV → List (Option AV)
  | [], _, _ => []
  | _ :: l, 0, v => v :: l
  | a :: l, n + 1, v => a :: stl l n v
def nol (v : Option AV) : Bool := match v with
  | some (.inr (.inl _)) => false
  | _ => true
/-- no long stands ahead of the place i -/
def nlg (ls : List (Option AV)) (i : Nat) : Bool := match i with
  | 0 => true
  | k + 1 => nol (lk ls k)
def entl : List AV → List (Option AV)
  | [] => []
  | v :: l => match v with
    | .inr (.inl x) => some (.inr (.inl x)) :: none :: entl l
    | w => some w :: entl l
def padl : Nat → List (Option AV) → List (Option AV)
  | 0, l => l
  | n + 1, [] => none :: padl n []
  | n + 1, a :: l => a :: padl n l
theorem lk_stl : ∀ (ls : List (Option AV)) (i j : Nat) (v : Option AV) (w : AV), lk (stl ls i v) j = some w → (j = i ∧ v = some w) ∨ (j ≠ i ∧ lk ls j = some w)
  | [], i, j, v, w, h => by simp [stl, lk] at h
  | a :: l, 0, 0, v, w, h => Or.inl ⟨rfl, by simpa [stl, lk] using h⟩
  | a :: l, 0, j + 1, v, w, h => Or.inr ⟨by omega, by simpa [stl, lk] using h⟩
  | a :: l, i + 1, 0, v, w, h => Or.inr ⟨by omega, by simpa [stl, lk] using h⟩
  | a :: l, i + 1, j + 1, v, w, h => by
    rcases lk_stl l i j v w (by simpa [stl, lk] using h) with ⟨h1, h2⟩ | ⟨h1, h2⟩
    · exact Or.inl ⟨by omega, h2⟩
    · exact Or.inr ⟨by omega, by simpa [lk] using h2⟩
theorem lk_lt : ∀ (ls : List (Option AV)) (j : Nat) (w : AV), lk ls j = some w → j < ls.length
  | [], j, w, h => by simp [lk] at h
  | a :: l, 0, w, h => by simp
  | a :: l, j + 1, w, h => by
    have := lk_lt l j w (by simpa [lk] using h)
    simp; omega
def lsl (G : GT) (ls : List (Option AV)) : List (Nat × Value) := (List.range ls.length).filterMap (fun i => (lk ls i).map (fun v => (i, cv G v)))
theorem lsl_mem {G : GT} {ls : List (Option AV)} {q : Nat × Value} : q ∈ lsl G ls ↔ ∃ v, lk ls q.1 = some v ∧ q.2 = cv G v := by
  unfold lsl
  rw [List.mem_filterMap]
  constructor
  · rintro ⟨i, -, h⟩
    cases hv : lk ls i with
    | none => rw [hv] at h; cases h
    | some v => rw [hv] at h; cases h; exact ⟨v, hv, rfl⟩
  · rintro ⟨v, h1, h2⟩
    exact ⟨q.1, List.mem_range.mpr (lk_lt _ _ _ h1), by rw [h1]; simp [← h2]⟩
theorem lsl_at {G : GT} {la : Array Slot} {nL : Nat} {ls : List (Option AV)} (h : lv_has la nL (lsl G ls)) {i : Nat} {v : AV} (hv : lk ls i = some v) : la[i]? = some (.val (cv G v)) := h.2.2 (i, cv G v) (lsl_mem.mpr ⟨v, hv, rfl⟩)
theorem lv_sup {la : Array Slot} {nL : Nat} {l l' : List (Nat × Value)} (h : lv_has la nL l) (hs : ∀ q ∈ l', q ∈ l) : lv_has la nL l' := ⟨h.1, h.2.1, fun q hq => h.2.2 q (hs q hq)⟩
theorem lsl_st1 {G : GT} {ls : List (Option AV)} {i : Nat} {v : AV} (hn : nlg ls i = true) : ∀ q ∈ lsl G (stl ls i (some v)), q ∈ (i, cv G v) :: (lsl G ls).filter (fun q => !(q.1 == i) && !(q.1 + 1 == i && q.2.category == 2)) := by
  intro q hq
  obtain ⟨w, h1, h2⟩ := lsl_mem.mp hq
  rcases lk_stl _ _ _ _ _ h1 with ⟨e1, e2⟩ | ⟨e1, e2⟩
  · cases e2
    rw [show q = (i, cv G v) from Prod.ext e1 h2]
    exact List.mem_cons_self
  · refine List.mem_cons_of_mem _ (List.mem_filter.mpr ⟨lsl_mem.mpr ⟨w, e2, h2⟩, ?_⟩)
    rw [h2, cv_ct]
    cases hi : i with
    | zero => subst hi; simp [e1]
    | succ k =>
      subst hi
      by_cases hk : q.1 = k
      · have hn' : nol (lk ls k) = true := hn
        rw [← hk, e2] at hn'
        have : ct w = 1 := by
          rcases w with x | x | r | z
          · rfl
          · simp [nol] at hn'
          · rfl
          · rfl
        simp [this, e1]
      · simp [hk, e1]
theorem lsl_st2 {G : GT} {ls : List (Option AV)} {i : Nat} {v : AV} (hn : nlg ls i = true) : ∀ q ∈ lsl G (stl (stl ls i (some v)) (i + 1) none), q ∈ (i, cv G v) :: (lsl G ls).filter (fun q => !(q.1 == i) && (!(q.1 == i + 1) && !(q.1 + 1 == i && q.2.category == 2))) := by
  intro q hq
  obtain ⟨w, h1, h2⟩ := lsl_mem.mp hq
  rcases lk_stl _ _ _ _ _ h1 with ⟨e1, e2⟩ | ⟨e1, e2⟩
  · cases e2
  · have h3 : q ∈ lsl G (stl ls i (some v)) := lsl_mem.mpr ⟨w, e2, h2⟩
    rcases List.mem_cons.mp (lsl_st1 hn q h3) with h4 | h4
    · rw [h4]; exact List.mem_cons_self
    · obtain ⟨h5, h6⟩ := List.mem_filter.mp h4
      refine List.mem_cons_of_mem _ (List.mem_filter.mpr ⟨h5, ?_⟩)
      simp only [Bool.and_eq_true] at h6 ⊢
      exact ⟨h6.1, by simp [e1], h6.2⟩
/-- shapes of cells: kinds 0 .. 11 objects of vwCl; 20 int[], 21 long[], 22 boolean[], 23 int[][], with their lengths -/
def SHP (n k : Nat) : List (Nat × Nat) := List.replicate n (20, k)
def SHpiece : List (Nat × Nat) := [(4, 19), (23, 7)] ++ SHP 7 5 ++ [(23, 14)] ++ SHP 14 7 ++ [(23, 7)] ++ SHP 7 3 ++ [(20, 5), (20, 5), (20, 7), (20, 120)]
def SHnight : List (Nat × Nat) := [(3, 13), (20, 128), (23, 14)] ++ SHP 14 14 ++ [(20, 14), (20, 5), (20, 14), (20, 14), (20, 14)]
def SHL : List (Nat × Nat) := [(10, 13), (8, 2), (20, 900)] ++ SHpiece ++ SHpiece ++ [(5, 8), (21, 7), (21, 5), (20, 8), (9, 7), (2, 3), (0, 6), (21, 12), (21, 12), (21, 3)] ++ SHnight ++ [(1, 8), (20, 7), (20, 7), (20, 128), (6, 6), (20, 120)] ++ SHnight ++ [(7, 3), (20, 128), (20, 7)] ++
  [(11, 38), (20, 900), (20, 8), (20, 281), (20, 281), (20, 13), (20, 13), (20, 156), (20, 156), (20, 39), (20, 5), (20, 5), (20, 14), (20, 14), (20, 14), (22, 128), (20, 128), (20, 7), (20, 7), (20, 5), (20, 3125), (20, 120), (21, 1)]
def sh (c : Nat) : Nat × Nat := SHL.getD c (99, 0)
abbrev NN : Nat := 161
theorem SHL_len : SHL.length = NN := by decide +kernel
def fty (ci k : Nat) : FieldType := match ci with
  | 0 => tyX0 k
  | 1 => tyX1 k
  | 2 => tyX2 k
  | 3 => tyX4 k
  | 4 => tyX5 k
  | 5 => tyX6 k
  | 6 => tyX7 k
  | 7 => tyX8 k
  | 8 => tyX9 k
  | 9 => tyX10 k
  | 10 => tyX11 k
  | _ => tyX12 k
def fv (G : GT) (ty : FieldType) (x : Int) (l : Int64) (r : Option Nat) : Value := match ty with
  | .long => .long l
  | .object _ => va_rf (r.map (gb G + ·))
  | .array _ => va_rf (r.map (gb G + ·))
  | _ => .int (iI x)
def fls (G : GT) (ci n : Nat) (I : Int → Int) (L : Int → Int64) (R : Int → Option Nat) : List Value := (List.range n).map (fun k => fv G (fty ci k) (I k) (L k) (R k))
def ent (G : GT) (c : Nat) (I : Int → Int) (L : Int → Int64) (R : Int → Option Nat) : va_E :=
  if (sh c).1 = 20 then .inl (gI G, (sh c).2, .inl (fun j => iI (I j)))
  else if (sh c).1 = 21 then .inl (gJ G, (sh c).2, .inr (.inl (fun j => L j)))
  else if (sh c).1 = 22 then .inl (gZ G, (sh c).2, .inl (fun j => iI (I j)))
  else if (sh c).1 = 23 then .inl (gA G, (sh c).2, .inr (.inr (.inr (.inr (fun j => (R j).map (gb G + ·))))))
  else .inr ((sh c).1, fls G (sh c).1 (sh c).2 I L R)
/-- one place of a memory anew -/
def up {α : Type} (M : Nat → Int → α) (c : Nat) (k : Int) (v : α) : Nat → Int → α := fun a => if a = c then (fun j => if j = k then v else M c j) else M a
theorem up_ne {α : Type} {M : Nat → Int → α} {c : Nat} {k : Int} {v : α} {a : Nat} (h : a ≠ c) : up M c k v a = M a := if_neg h
theorem up_eq {α : Type} {M : Nat → Int → α} {c : Nat} {k : Int} {v : α} : up M c k v c = fun j => if j = k then v else M c j := if_pos rfl
def Rep (G : GT) (n : Nat) (I : MI) (L : ML) (R : MR) (H : Heap) : Prop :=
  (gb G + n ≤ H.size ∧ (n < NN → H.size = gb G + n)) ∧ (∀ q, q < gb G → H[q]? = (gH G)[q]?) ∧ (∀ c, c < n → va_at (gD G) vwCl (gb G + c, ent G c (I c) (L c) (R c)) H) ∧ ∀ c k, -2147483648 ≤ I c k ∧ I c k ≤ 2147483647
