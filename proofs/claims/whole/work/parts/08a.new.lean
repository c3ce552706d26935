/-! what is made: cells, in their order -/
def setQ {α : Type} (M : Nat → Int → α) (c : Nat) (f : Int → α) : Nat → Int → α := fun a => if a = c then f else M a
theorem setQ_n {α : Type} {M : Nat → Int → α} {c a : Nat} {f : Int → α} (h : a ≠ c) : setQ M c f a = M a := if_neg h
theorem setQ_e {α : Type} {M : Nat → Int → α} {c : Nat} {f : Int → α} : setQ M c f c = f := if_pos rfl
theorem Rep.new {G : GT} {n : Nat} {I I' : MI} {L L' : ML} {R R' : MR} {H H' : Heap} (h : Rep G n I L R H) (hn : n < NN) (hsz : H'.size = H.size + 1) (hold : ∀ q, q < H.size → H'[q]? = H[q]?) (hat : va_at (gD G) vwCl (gb G + n, ent G n (I' n) (L' n) (R' n)) H') (hI : ∀ c, c ≠ n → I' c = I c) (hL : ∀ c, c ≠ n → L' c = L c) (hR : ∀ c, c ≠ n → R' c = R c) (hr : ∀ c k, -2147483648 ≤ I' c k ∧ I' c k ≤ 2147483647) : Rep G (n + 1) I' L' R' H' := by
  obtain ⟨⟨h1, h2⟩, h3, h4, h5⟩ := h
  have e := h2 hn
  refine ⟨⟨by omega, fun _ => by omega⟩, fun q hq => ?_, fun c hc => ?_, hr⟩
  · rw [hold q (by omega)]; exact h3 q hq
  · by_cases e9 : c = n
    · subst e9; exact hat
    · rw [hI c e9, hL c e9, hR c e9]
      exact (h4 c (by omega)).kept (hold _ (by show gb G + c < H.size; omega))
theorem setQ_r {I : MI} {c : Nat} (h : ∀ c k, -2147483648 ≤ I c k ∧ I c k ≤ 2147483647) : ∀ a k, -2147483648 ≤ setQ I c (fun _ => 0) a k ∧ setQ I c (fun _ => 0) a k ≤ 2147483647 := by
  intro a k
  unfold setQ
  split
  · exact (show (-2147483648 : Int) ≤ 0 ∧ (0 : Int) ≤ 2147483647 by decide)
  · exact h a k
theorem iI_nn {N : Nat} (h : N ≤ 4000) : ¬ iI (N : Int) < 0 ∧ (iI (N : Int)).toNatClampNeg = N := by
  refine ⟨fun z => ?_, by rw [iI_c (by omega)]; omega⟩
  rw [iI_0, iI_lt (by omega) (by omega)] at z
  omega
theorem s_newi {X : XT} {M : MT} {z : Nat × Nat × Nat} {pc : Nat} {ls : List (Option AV)} {st : List AV} {I : MI} {L : ML} {R : MR} {F : State → Prop} {N : Nat} {v : Int} (q : Nat) (hd : decode (mcc M) pc = .ok (.newarray .int, 2)) (hq : pc + 2 = q) (hv0 : v = N) (hw : Cond.arrayClass .int ∈ TB) (hs : sh z.2.2 = (20, N)) (hlt : z.2.2 < NN) (hN : N ≤ 4000) (hc : z.1 + 1 ≤ mmc M) (hsl : z.2.1 + N ≤ mms M)
    (k : V X M (z.1 + 1, z.2.1 + N, z.2.2 + 1) q ls (vr z.2.2 :: st) (setQ I z.2.2 (fun _ => 0)) (setQ L z.2.2 (fun _ => 0)) (setQ R z.2.2 (fun _ => none)) F) : V X M z pc ls (vi v :: st) I L R F := by
  subst hq
  subst hv0
  intro ok h1 h2 H locs la hR hl hz hv
  have hsz := hR.1.2 hlt
  have nn := iI_nn hN
  have a3 := ok.2.2.2.2.2.2.2.2.2.2.2.1
  have a4 := ok.2.2.2.2.2.2.2.2.2.2.2.2.1
  refine va_newaK (atype := .int) (n := iI N) (N := N) (h := gb (xG X) + z.2.2) ok.1 ok.2.1 (ok.2.2.2.2.1 _ hw) rfl hd rfl nn.1 nn.2 (by show N * 4 ≤ 536870912; omega) (by omega) (by omega) hsz (fun H1 cA e1 e2 e3 e4 e5 => ?_)
  have ecA : gI (xG X) = cA := by
    have h9 : (xs X).vm.findClass ("[" ++ (FieldType.int).toString) = some (gI (xG X)) := (ok.2.2.2.2.2.2.2.2.1.1.2 0 _ rfl).2
    exact Option.some.inj (h9.symm.trans e5)
  refine k ok hc hsl H1 locs la (hR.new hlt (by omega) (fun y hy => e3 y (by omega)) ?_ (fun c h => setQ_n h) (fun c h => setQ_n h) (fun c h => setQ_n h) (setQ_r hR.2.2.2)) hl (by omega) hv
  rw [ent_i hs, ecA, setQ_e]
  exact e1
theorem s_newz {X : XT} {M : MT} {z : Nat × Nat × Nat} {pc : Nat} {ls : List (Option AV)} {st : List AV} {I : MI} {L : ML} {R : MR} {F : State → Prop} {N : Nat} {v : Int} (q : Nat) (hd : decode (mcc M) pc = .ok (.newarray .boolean, 2)) (hq : pc + 2 = q) (hv0 : v = N) (hw : Cond.arrayClass .boolean ∈ TB) (hs : sh z.2.2 = (22, N)) (hlt : z.2.2 < NN) (hN : N ≤ 4000) (hc : z.1 + 1 ≤ mmc M) (hsl : z.2.1 + N ≤ mms M)
    (k : V X M (z.1 + 1, z.2.1 + N, z.2.2 + 1) q ls (vr z.2.2 :: st) (setQ I z.2.2 (fun _ => 0)) (setQ L z.2.2 (fun _ => 0)) (setQ R z.2.2 (fun _ => none)) F) : V X M z pc ls (vi v :: st) I L R F := by
  subst hq
  subst hv0
  intro ok h1 h2 H locs la hR hl hz hv
  have hsz := hR.1.2 hlt
  have nn := iI_nn hN
  have a3 := ok.2.2.2.2.2.2.2.2.2.2.2.1
  have a4 := ok.2.2.2.2.2.2.2.2.2.2.2.2.1
  refine va_newaK (atype := .boolean) (n := iI N) (N := N) (h := gb (xG X) + z.2.2) ok.1 ok.2.1 (ok.2.2.2.2.1 _ hw) rfl hd rfl nn.1 nn.2 (by show N * 1 ≤ 536870912; omega) (by omega) (by omega) hsz (fun H1 cA e1 e2 e3 e4 e5 => ?_)
  have ecA : gZ (xG X) = cA := by
    have h9 : (xs X).vm.findClass ("[" ++ (FieldType.boolean).toString) = some (gZ (xG X)) := (ok.2.2.2.2.2.2.2.2.1.1.2 2 _ rfl).2
    exact Option.some.inj (h9.symm.trans e5)
  refine k ok hc hsl H1 locs la (hR.new hlt (by omega) (fun y hy => e3 y (by omega)) ?_ (fun c h => setQ_n h) (fun c h => setQ_n h) (fun c h => setQ_n h) (setQ_r hR.2.2.2)) hl (by omega) hv
  rw [ent_z hs, ecA, setQ_e]
  exact e1
theorem s_newl {X : XT} {M : MT} {z : Nat × Nat × Nat} {pc : Nat} {ls : List (Option AV)} {st : List AV} {I : MI} {L : ML} {R : MR} {F : State → Prop} {N : Nat} {v : Int} (q : Nat) (hd : decode (mcc M) pc = .ok (.newarray .long, 2)) (hq : pc + 2 = q) (hv0 : v = N) (hw : Cond.arrayClass .long ∈ TB) (hs : sh z.2.2 = (21, N)) (hlt : z.2.2 < NN) (hN : N ≤ 4000) (hc : z.1 + 1 ≤ mmc M) (hsl : z.2.1 + N ≤ mms M)
    (k : V X M (z.1 + 1, z.2.1 + N, z.2.2 + 1) q ls (vr z.2.2 :: st) (setQ I z.2.2 (fun _ => 0)) (setQ L z.2.2 (fun _ => 0)) (setQ R z.2.2 (fun _ => none)) F) : V X M z pc ls (vi v :: st) I L R F := by
  subst hq
  subst hv0
  intro ok h1 h2 H locs la hR hl hz hv
  have hsz := hR.1.2 hlt
  have nn := iI_nn hN
  have a3 := ok.2.2.2.2.2.2.2.2.2.2.2.1
  have a4 := ok.2.2.2.2.2.2.2.2.2.2.2.2.1
  refine va_newaK (atype := .long) (n := iI N) (N := N) (h := gb (xG X) + z.2.2) ok.1 ok.2.1 (ok.2.2.2.2.1 _ hw) rfl hd rfl nn.1 nn.2 (by show N * 8 ≤ 536870912; omega) (by omega) (by omega) hsz (fun H1 cA e1 e2 e3 e4 e5 => ?_)
  have ecA : gJ (xG X) = cA := by
    have h9 : (xs X).vm.findClass ("[" ++ (FieldType.long).toString) = some (gJ (xG X)) := (ok.2.2.2.2.2.2.2.2.1.1.2 1 _ rfl).2
    exact Option.some.inj (h9.symm.trans e5)
  refine k ok hc hsl H1 locs la (hR.new hlt (by omega) (fun y hy => e3 y (by omega)) ?_ (fun c h => setQ_n h) (fun c h => setQ_n h) (fun c h => setQ_n h) (setQ_r hR.2.2.2)) hl (by omega) hv
  rw [ent_l hs, ecA, setQ_e]
  exact e1
def okT (ty : FieldType) : Bool := match ty with
  | .float => false
  | .double => false
  | _ => true
theorem fv_def {G : GT} {ty : FieldType} (h : okT ty = true) : fv G ty 0 0 none = defaultValue ty := by
  cases ty <;> first | rfl | (exact absurd h (by decide))
theorem s_newo {X : XT} {M : MT} {z : Nat × Nat × Nat} {pc : Nat} {ls : List (Option AV)} {st : List AV} {I : MI} {L : ML} {R : MR} {F : State → Prop} {C : String} {T : u_T} {ci N idx : Nat} (q : Nat) (hd : decode (mcc M) pc = .ok (.new idx, 3)) (hq : pc + 3 = q) (hC : vwCl[ci]? = some (C, T, N)) (hci : ci < 20) (hin : ∀ w ∈ u_ws C T N, w ∈ TB) (hcl : Cond.classLink (mown M) idx C ∈ TB) (hi2 : Cond.instantiable C N ∈ TB) (hi3 : Cond.initialized C ∈ TB) (hpf : ∀ k, k < N → parseFieldDescriptor (T k).2.2.1 = some (fty ci k)) (hok : ∀ k, k < N → okT (fty ci k) = true) (hs : sh z.2.2 = (ci, N)) (hlt : z.2.2 < NN) (hc : z.1 + 1 ≤ mmc M) (hsl : z.2.1 + N ≤ mms M)
    (k : V X M (z.1 + 1, z.2.1 + N, z.2.2 + 1) q ls (vr z.2.2 :: st) (setQ I z.2.2 (fun _ => 0)) (setQ L z.2.2 (fun _ => 0)) (setQ R z.2.2 (fun _ => none)) F) : V X M z pc ls st I L R F := by
  subst hq
  intro ok h1 h2 H locs la hR hl hz hv
  have hsz := hR.1.2 hlt
  have a3 := ok.2.2.2.2.2.2.2.2.2.2.2.1
  have a4 := ok.2.2.2.2.2.2.2.2.2.2.2.2.1
  have hKn := ok.2.2.2.2.2.2.2.2.1.1.1 ci _ hC
  refine W.newcK (h := gb (xG X) + z.2.2) ok.1 ok.2.1 ok.2.2.2.1 (ok.2.2.2.2.1 _ hcl) (ok.2.2.2.2.1 _ hi2) (ok.2.2.2.2.1 _ hi3) rfl hd (by omega) (by omega) hKn.2.1 hsz (fun H1 kC hkC e1 e2 e3 => ?_)
  refine k ok hc hsl H1 locs la (hR.new hlt (by omega) (fun y hy => e3 y (by omega)) ?_ (fun c h => setQ_n h) (fun c h => setQ_n h) (fun c h => setQ_n h) (setQ_r hR.2.2.2)) hl (by omega) hv
  rw [ent_ob hs hci, setQ_e, setQ_e, setQ_e]
  refine ⟨_, hC, (u_born (fty ci) ok.2.2.2.2.1 hin hKn hkC e1 hpf).to (fun j hj => ?_)⟩
  unfold vp_V
  rw [List.getD_eq_getElem?_getD, fls_at hj]
  exact (fv_def (hok j hj)).symm
