/-! what is made: an array of arrays -/
def setN9 {α : Type} (M : Nat → Int → α) (n N : Nat) (v : α) : Nat → Int → α := fun a => if n ≤ a ∧ a ≤ n + N then (fun _ => v) else M a
def setR9 (R : MR) (n N : Nat) : MR := fun a => if a = n then (fun j => if 0 ≤ j ∧ j < (N : Int) then some (n + 1 + j.toNat) else none) else if n ≤ a ∧ a ≤ n + N then (fun _ => none) else R a
theorem Rep.newN {G : GT} {n N : Nat} {I I' : MI} {L L' : ML} {R R' : MR} {H H' : Heap} (h : Rep G n I L R H) (hn : n + N < NN) (hsz : H'.size = H.size + 1 + N) (hold : ∀ q, q < H.size → H'[q]? = H[q]?) (hat : ∀ c, n ≤ c → c ≤ n + N → va_at (gD G) vwCl (gb G + c, ent G c (I' c) (L' c) (R' c)) H') (hI : ∀ c, c < n → I' c = I c) (hL : ∀ c, c < n → L' c = L c) (hR : ∀ c, c < n → R' c = R c) (hr : ∀ c k, -2147483648 ≤ I' c k ∧ I' c k ≤ 2147483647) : Rep G (n + 1 + N) I' L' R' H' := by
  obtain ⟨⟨h1, h2⟩, h3, h4, h5⟩ := h
  have e := h2 (by omega)
  refine ⟨⟨by omega, fun _ => by omega⟩, fun q hq => ?_, fun c hc => ?_, hr⟩
  · rw [hold q (by omega)]; exact h3 q hq
  · by_cases e9 : n ≤ c
    · exact hat c e9 (by omega)
    · rw [hI c (by omega), hL c (by omega), hR c (by omega)]
      exact (h4 c (by omega)).kept (hold _ (by show gb G + c < H.size; omega))
theorem Rep.newm {G : GT} {n N K : Nat} {I : MI} {L : ML} {R : MR} {H H' : Heap} (hR : Rep G n I L R H) (hs : sh n = (23, N)) (hr : ∀ j, j < N → sh (n + 1 + j) = (20, K)) (hlt : n + N < NN) (f1 : H'.size = H.size + 1 + N) (f2 : H'[H.size]? = some (arrV (gA G) N (fun j => va_rf (if j < N then some (H.size + 1 + j) else none)))) (f3 : ∀ a : Nat, a < H.size → H'[a]? = H[a]?) (f4 : ∀ j : Nat, j < N → H'[H.size + 1 + j]? = some (arrV (gI G) K (fun _ => .int 0))) : Rep G (n + 1 + N) (setN9 I n N 0) (setN9 L n N 0) (setR9 R n N) H' := by
  have hsz := hR.1.2 (by omega)
  have hin : ∀ c, n ≤ c → c ≤ n + N → setN9 I n N 0 c = fun _ => 0 := fun c c1 c2 => if_pos ⟨c1, c2⟩
  refine hR.newN hlt f1 (fun y hy => f3 y hy) (fun c c1 c2 => ?_) (fun c hc => if_neg (by omega)) (fun c hc => if_neg (by omega)) (fun c hc => ?_) (fun c j => ?_)
  · by_cases e : c = n
    · subst e
      rw [ent_a hs]
      show H'[gb G + c]? = some (vp_cell _ _)
      rw [← hsz, f2, vp_cell_q]
      refine congrArg some (congrArg (arrV (gA G) N) (funext fun j => ?_))
      unfold setR9
      rw [if_pos rfl]
      by_cases hj : j < N
      · rw [if_pos hj, if_pos ⟨by omega, by omega⟩]
        show _ = va_rf (some (gb G + (c + 1 + (j : Int).toNat)))
        rw [show H.size + 1 + j = gb G + (c + 1 + (j : Int).toNat) by omega]
      · rw [if_neg hj, if_neg (by omega)]; rfl
    · have hj := f4 (c - n - 1) (by omega)
      have hs2 := hr (c - n - 1) (by omega)
      rw [show n + 1 + (c - n - 1) = c by omega] at hs2
      rw [show H.size + 1 + (c - n - 1) = gb G + c by omega] at hj
      rw [ent_i hs2, hin c c1 c2]
      show H'[gb G + c]? = some (vp_cell _ _)
      rw [hj, vp_cell_i]
      rfl
  · unfold setR9; rw [if_neg (by omega), if_neg (by omega)]
  · unfold setN9
    split
    · exact (show (-2147483648 : Int) ≤ 0 ∧ (0 : Int) ≤ 2147483647 by decide)
    · exact hR.2.2.2 c j
theorem outer_v (c : ClassId) (N h0 : Nat) : ∀ i : Nat, Jvm.Free.Multi.outerC c N h0 i = arrV c N (fun j => va_rf (if j < i then some (h0 + 1 + j) else none))
  | 0 => by
    show ({ cls := c, slots := Array.replicate N .null, vm := .none } : Cell) = _
    rw [arrV_new]
    refine congrArg (arrV c N) (funext fun j => ?_)
    rw [if_neg (Nat.not_lt_zero j)]
    rfl
  | i + 1 => by
    show (Jvm.Free.Multi.outerC c N h0 i).setSlot i (.ref (h0 + 1 + i)) = _
    rw [outer_v c N h0 i, arrV_store]
    refine congrArg (arrV c N) (funext fun j => ?_)
    unfold updV
    by_cases e : j = i
    · rw [if_pos e, if_pos (by omega), e]; rfl
    · rw [if_neg e]
      show va_rf (if j < i then some (h0 + 1 + j) else none) = va_rf (if j < i + 1 then some (h0 + 1 + j) else none)
      by_cases h : j < i
      · rw [if_pos h, if_pos (by omega)]
      · rw [if_neg h, if_neg (by omega)]
theorem s_newm {X : XT} {M : MT} {z : Nat × Nat × Nat} {pc : Nat} {ls : List (Option AV)} {st : List AV} {I : MI} {L : ML} {R : MR} {F : State → Prop} {N K idx : Nat} {v w : Int} (q : Nat) (hd : decode (mcc M) pc = .ok (.multianewarray idx 2, 4)) (hq : pc + 4 = q) (hv0 : v = N) (hw0 : w = K) (hcl : Cond.classLink (mown M) idx "[[I" ∈ TB) (hw : Cond.arrayClass .int ∈ TB) (hov : Cond.arrayOver (.array .int) ∈ NWL) (hs : sh z.2.2 = (23, N)) (hr : ∀ j, j < N → sh (z.2.2 + 1 + j) = (20, K)) (hlt : z.2.2 + N < NN) (hN : N ≤ 14) (hK : K ≤ 14) (hc : z.1 + 1 + N ≤ mmc M) (hsl : z.2.1 + N + N * K ≤ mms M)
    (k : V X M (z.1 + 1 + N, z.2.1 + N + N * K, z.2.2 + 1 + N) q ls (vr z.2.2 :: st) (setN9 I z.2.2 N 0) (setN9 L z.2.2 N 0) (setR9 R z.2.2 N) F) : V X M z pc ls (vi w :: vi v :: st) I L R F := by
  subst hq
  subst hv0
  subst hw0
  intro ok h1 h2 H locs la hR hl hz hv
  have hsz := hR.1.2 (by omega)
  have nN := iI_nn (N := N) (by omega)
  have nK := iI_nn (N := K) (by omega)
  have a3 := ok.2.2.2.2.2.2.2.2.2.2.2.1
  have a4 := ok.2.2.2.2.2.2.2.2.2.2.2.2.1
  intro T hT Xs
  have hover : (Cond.arrayOver (.array .int)).before (xa X) (xs X) = true := ok.2.2.2.2.2.2.2.2.1.2.1 _ hov
  obtain ⟨vm₁, cA, comp, -, fA, fC, hO, -, X', step⟩ := Xs.multianewarray2F (ty := .int) ok.1 ok.2.2.2.1 (ok.2.2.2.2.1 _ hcl) hover (ok.2.2.2.2.1 _ hw) (g := F0 (xm X) pc la (.int (iI K) :: .int (iI N) :: st.map (cv (xG X)))) rfl (by rw [ok.2.1]; exact hd) rfl nN.1 nK.1 (by rw [nN.2]; omega) (by rw [nK.2]; show K * 4 ≤ 536870912; omega) (by rw [nK.2]; omega) rfl rfl (by rw [nN.2]; omega) (by rw [nN.2, nK.2]; omega)
  rw [nN.2, nK.2] at X' step
  have eA : gA (xG X) = cA := by
    have h9 : (xs X).vm.findClass ("[" ++ (FieldType.array .int).toString) = some (gA (xG X)) := (ok.2.2.2.2.2.2.2.2.1.1.2 3 _ rfl).2
    exact Option.some.inj (h9.symm.trans fA)
  have eC : gI (xG X) = comp := by
    have h9 : (xs X).vm.findClass ("[" ++ (FieldType.int).toString) = some (gI (xG X)) := (ok.2.2.2.2.2.2.2.2.1.1.2 0 _ rfl).2
    exact Option.some.inj (h9.symm.trans fC)
  have hTh : (T.setVm vm₁).heap = H := hT
  obtain ⟨f1, f2, -, -⟩ := Jvm.Free.Multi.fill_facts (T.setVm vm₁) cA comp N K (defaultValue .int) N
  have f3 := fun (a : Nat) (ha : a < H.size) => Jvm.Free.Multi.fill_old (T.setVm vm₁) cA comp N K (defaultValue .int) (a := a) (by rw [hTh]; exact ha) N
  have f4 := fun (j : Nat) (hj : j < N) => Jvm.Free.Multi.fill_inner (T.setVm vm₁) cA comp N K (defaultValue .int) N j hj
  generalize Jvm.Free.Multi.fill (T.setVm vm₁) cA comp N K (defaultValue .int) N = F9 at X' step f1 f2 f3 f4
  rw [hTh] at f1 f2 f3 f4
  have rep : Rep (xG X) (z.2.2 + 1 + N) (setN9 I z.2.2 N 0) (setN9 L z.2.2 N 0) (setR9 R z.2.2 N) F9.heap := by
    refine hR.newm hs hr hlt f1 ?_ f3 (fun j hj => ?_)
    · rw [f2, outer_v, eA]
    · rw [f4 j hj, eC]; exact congrArg some (arrV_new comp K (.int 0))
  obtain ⟨t, b1, b2⟩ := k ok hc hsl F9.heap locs la rep hl (by rw [f1]; omega) hv F9 rfl X'
  refine ⟨t, step t ?_, b2⟩
  have hTs : T.heap.size = gb (xG X) + z.2.2 := by rw [show T.heap = H from hT]; exact hsz
  rw [hTs]
  exact b1
