/-! sets of up to seven, as numbers -/
theorem iand_nat {a b : Nat} (ha : a < 2147483648) (hb : b < 2147483648) : iand a b = ((a &&& b : Nat) : Int) := by
  unfold iand
  rw [iI_nat, iI_nat, nx_and, nI_toInt (Nat.lt_of_le_of_lt Nat.and_le_left (by omega))]
/-- o is part of s -/
def sub (o s : Int) : Prop := iand o s = o
def lowI (s : Int) : Int := iand s (-s)
def andN (s o : Int) : Int := iand s (ixor o (-1))
def chkM (s o : Int) : Bool := (decide (iand o s ≠ o) || decide (o = 0)) || (decide (0 ≤ iand (o - 1) s) && decide (iand (o - 1) s < o) && decide (iand (iand (o - 1) s) s = iand (o - 1) s) && decide (andN s o < s) && decide (0 ≤ andN s o) && decide (o ≤ s))
def chkL (s : Int) : Bool := decide (s = 0) || (decide (0 < lowI s) && decide (lowI s ≤ s) && decide (iand (lowI s) s = lowI s) && decide (0 ≤ ixor s (lowI s)) && decide (ixor s (lowI s) < s) && decide (iand (ixor s (lowI s)) s = ixor s (lowI s)))
/-- a block with the lowest one, and another of the rest -/
def chkB (s o : Int) : Bool := (decide (s = 0) || decide (iand o (ixor s (lowI s)) ≠ o)) || (decide (ior (lowI s) o ≤ s) && decide (0 < ior (lowI s) o) && decide (iand (ior (lowI s) o) s = ior (lowI s) o) && decide (iand (ior (lowI s) o) (lowI s) ≠ 0) && decide (ixor (ixor s (lowI s)) o = andN s (ior (lowI s) o)) && decide (ior (lowI s) o - lowI s = o))
def chkB2 (s o : Int) : Bool := (decide (iand o s ≠ o) || decide (iand o (lowI s) = 0)) || (decide (iand (ixor o (lowI s)) (ixor s (lowI s)) = ixor o (lowI s)) && decide (ior (lowI s) (ixor o (lowI s)) = o) && decide (0 ≤ ixor o (lowI s)) && decide (ixor o (lowI s) ≤ 127) && decide (ixor o (lowI s) ≤ ixor s (lowI s)))
def chkAll : Bool := (List.range 128).all (fun s : Nat => chkL s && (List.range 128).all (fun o : Nat => chkM s o && chkB s o && chkB2 s o))
theorem chk_ok : chkAll = true := by decide +kernel
def chkN (s o : Nat) : Bool := o &&& s != o || o == 0 || (List.range o).all (fun m => m &&& s != m || decide (m ≤ (o - 1) &&& s))
theorem chkN_ok : (List.range 128).all (fun s => (List.range 128).all (fun o => chkN s o)) = true := by decide +kernel
theorem chk_at {s o : Int} (hs : 0 ≤ s ∧ s ≤ 127) (ho : 0 ≤ o ∧ o ≤ 127) : chkL s = true ∧ chkM s o = true ∧ chkB s o = true ∧ chkB2 s o = true := by
  have h := chk_ok
  simp only [chkAll, List.all_eq_true, List.mem_range, Bool.and_eq_true] at h
  have h1 := h s.toNat (by omega)
  have h2 := h1.2 o.toNat (by omega)
  rw [show ((s.toNat : Nat) : Int) = s by omega] at h1 h2
  rw [show ((o.toNat : Nat) : Int) = o by omega] at h2
  exact ⟨h1.1, h2.1.1, h2.1.2, h2.2⟩
/-- the next part downwards -/
theorem sub_next {s o : Int} (hs : 0 ≤ s ∧ s ≤ 127) (ho : 0 < o ∧ o ≤ 127) (h : sub o s) : 0 ≤ iand (o - 1) s ∧ iand (o - 1) s < o ∧ sub (iand (o - 1) s) s ∧ andN s o < s ∧ 0 ≤ andN s o ∧ o ≤ s ∧ ∀ m, 0 ≤ m → m < o → sub m s → m ≤ iand (o - 1) s := by
  have h1 := (chk_at hs (o := o) (by omega)).2.1
  unfold sub at h
  simp only [chkM, Bool.or_eq_true, Bool.and_eq_true, decide_eq_true_eq] at h1
  rcases h1 with (z | z) | ⟨⟨⟨⟨⟨a, b⟩, c⟩, d⟩, e⟩, f⟩
  · exact absurd h z
  · omega
  · refine ⟨a, b, c, d, e, f, fun m m1 m2 m3 => ?_⟩
    have h2 := chkN_ok
    simp only [List.all_eq_true, List.mem_range] at h2
    have h3 := h2 s.toNat (by omega) o.toNat (by omega)
    have cs : ((s.toNat : Nat) : Int) = s := by omega
    have co : ((o.toNat : Nat) : Int) = o := by omega
    have cm : ((m.toNat : Nat) : Int) = m := by omega
    have ho2 : o.toNat &&& s.toNat = o.toNat := by
      have := iand_nat (a := o.toNat) (b := s.toNat) (by omega) (by omega)
      rw [cs, co, h] at this
      omega
    have hm2 : m.toNat &&& s.toNat = m.toNat := by
      have := iand_nat (a := m.toNat) (b := s.toNat) (by omega) (by omega)
      rw [cs, cm, m3] at this
      omega
    simp only [chkN, Bool.or_eq_true, bne_iff_ne, beq_iff_eq, List.all_eq_true, List.mem_range, decide_eq_true_eq] at h3
    rcases h3 with (z | z) | z
    · exact absurd ho2 z
    · omega
    · rcases z m.toNat (by omega) with q | q
      · exact absurd hm2 q
      · have h5 := iand_nat (a := o.toNat - 1) (b := s.toNat) (by omega) (by omega)
        rw [cs, show ((o.toNat - 1 : Nat) : Int) = o - 1 by omega] at h5
        omega
theorem low_ok {s : Int} (hs : 0 < s ∧ s ≤ 127) : 0 < lowI s ∧ lowI s ≤ s ∧ sub (lowI s) s ∧ 0 ≤ ixor s (lowI s) ∧ ixor s (lowI s) < s ∧ sub (ixor s (lowI s)) s := by
  have h1 := (chk_at (s := s) (o := 0) (by omega) (by omega)).1
  simp only [chkL, Bool.or_eq_true, Bool.and_eq_true, decide_eq_true_eq] at h1
  rcases h1 with z | ⟨⟨⟨⟨⟨a, b⟩, c⟩, d⟩, e⟩, f⟩
  · omega
  · exact ⟨a, b, c, d, e, f⟩
theorem blk_ok {s o : Int} (hs : 0 < s ∧ s ≤ 127) (ho : 0 ≤ o ∧ o ≤ 127) (h : sub o (ixor s (lowI s))) : 0 < ior (lowI s) o ∧ ior (lowI s) o ≤ s ∧ sub (ior (lowI s) o) s ∧ iand (ior (lowI s) o) (lowI s) ≠ 0 ∧ ixor (ixor s (lowI s)) o = andN s (ior (lowI s) o) := by
  have h1 := (chk_at (s := s) (o := o) (by omega) (by omega)).2.2.1
  unfold sub at h
  simp only [chkB, Bool.or_eq_true, Bool.and_eq_true, decide_eq_true_eq] at h1
  rcases h1 with (z | z) | ⟨⟨⟨⟨⟨a, b⟩, c⟩, d⟩, e⟩, f⟩
  · omega
  · exact absurd h z
  · exact ⟨b, a, c, d, e⟩
theorem blk_of {s o : Int} (hs : 0 ≤ s ∧ s ≤ 127) (ho : 0 ≤ o ∧ o ≤ 127) (h : sub o s) (hl : iand o (lowI s) ≠ 0) : sub (ixor o (lowI s)) (ixor s (lowI s)) ∧ ior (lowI s) (ixor o (lowI s)) = o ∧ 0 ≤ ixor o (lowI s) ∧ ixor o (lowI s) ≤ 127 ∧ ixor o (lowI s) ≤ ixor s (lowI s) := by
  have h1 := (chk_at (s := s) (o := o) hs ho).2.2.2
  unfold sub at h
  simp only [chkB2, Bool.or_eq_true, Bool.and_eq_true, decide_eq_true_eq] at h1
  rcases h1 with (z | z) | ⟨⟨⟨⟨a, b⟩, c⟩, d⟩, e⟩
  · exact absurd h z
  · exact absurd z hl
  · exact ⟨a, b, c, d, e⟩
/-- a set falls apart into so many good blocks, each with its lowest one first -/
def Spl (G : Int → Prop) : Nat → Int → Prop
  | 0, s => s = 0
  | m + 1, s => s = 0 ∨ ∃ o, 0 < o ∧ o ≤ 127 ∧ sub o s ∧ iand o (lowI s) ≠ 0 ∧ G o ∧ Spl G m (andN s o)
theorem Spl.up {G : Int → Prop} : ∀ {m : Nat} {s : Int}, Spl G m s → Spl G (m + 1) s
  | 0, s, h => Or.inl h
  | m + 1, s, h => by
    rcases h with h | ⟨o, a, b, c, d, e, f⟩
    · exact Or.inl h
    · exact Or.inr ⟨o, a, b, c, d, e, Spl.up f⟩
theorem Spl.le {G : Int → Prop} {m k : Nat} {s : Int} (h : Spl G m s) (hk : m ≤ k) : Spl G k s := by
  induction hk with
  | refl => exact h
  | step _ ih => exact Spl.up ih
/-- the least number of blocks -/
def SplV (G : Int → Prop) (s v : Int) : Prop := (v = -2 ∧ ∀ m, ¬ Spl G m s) ∨ (0 ≤ v ∧ Spl G v.toNat s ∧ ∀ m : Nat, (m : Int) < v → ¬ Spl G m s)
theorem SplV.uq {G : Int → Prop} {s v w : Int} (h : SplV G s v) (h' : SplV G s w) : v = w := by
  rcases h with ⟨a, b⟩ | ⟨a, b, c⟩ <;> rcases h' with ⟨a', b'⟩ | ⟨a', b', c'⟩
  · omega
  · exact absurd b' (b _)
  · exact absurd b (b' _)
  · rcases Int.lt_trichotomy v w with z | z | z
    · exact absurd b (c' _ (by omega))
    · exact z
    · exact absurd b' (c _ (by omega))
noncomputable def splV (G : Int → Prop) (s : Int) : Int := Classical.epsilon (SplV G s)
theorem SplV.v {G : Int → Prop} {s v : Int} (h : SplV G s v) : splV G s = v := (Classical.epsilon_spec (p := SplV G s) ⟨v, h⟩).uq h
