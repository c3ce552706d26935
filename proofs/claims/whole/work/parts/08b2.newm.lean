/-! what is made: an array of arrays -/
def setN9 {α : Type} (M : Nat → Int → α) (n N : Nat) (v : α) : Nat → Int → α := fun a => if n ≤ a ∧ a ≤ n + N then (fun _ => v) else M a
def setR9 (R : MR) (n N : Nat) : MR := fun a => if a = n then (fun j => if 0 ≤ j ∧ j < (N : Int) then some (n + 1 + j.toNat) else none) else if n ≤ a ∧ a ≤ n + N then (fun _ => none) else R a
theorem s_newm {X : XT} {M : MT} {z : Nat × Nat × Nat} {pc : Nat} {ls : List (Option AV)} {st : List AV} {I : MI} {L : ML} {R : MR} {F : State → Prop} {N K idx : Nat} {v w : Int} (q : Nat) (hd : decode (mcc M) pc = .ok (.multianewarray idx 2, 4)) (hq : pc + 4 = q) (hv0 : v = N) (hw0 : w = K) (hcl : Cond.classLink (mown M) idx "[[I" ∈ TB) (hw : Cond.arrayClass .int ∈ TB) (hov : Cond.arrayOver (.array .int) ∈ NWL) (hs : sh z.2.2 = (23, N)) (hr : ∀ j, j < N → sh (z.2.2 + 1 + j) = (20, K)) (hlt : z.2.2 + N < NN) (hN : N ≤ 14) (hK : K ≤ 14) (hc : z.1 + 1 + N ≤ mmc M) (hsl : z.2.1 + N + N * K ≤ mms M)
    (k : V X M (z.1 + 1 + N, z.2.1 + N + N * K, z.2.2 + 1 + N) q ls (vr z.2.2 :: st) (setN9 I z.2.2 N 0) (setN9 L z.2.2 N 0) (setR9 R z.2.2 N) F) : V X M z pc ls (vi w :: vi v :: st) I L R F := by
  sorry
