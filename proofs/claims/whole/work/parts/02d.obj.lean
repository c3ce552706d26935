/-! rows that touch objects and arrays -/
/-- the field idx of the class own's pool: field k of objects of kind ci -/
def FL (own : String) (idx ci N k : Nat) (kk : Int) (ty : FieldType) (fin : Bool) : Prop := ∃ (C : String) (T : u_T), vwCl[ci]? = some (C, T, N) ∧ k < N ∧ (∀ w ∈ u_ws C T N, w ∈ TB) ∧ Cond.fieldLink own idx (T k).1 (T k).2.1 (T k).2.2.1 ∈ TB ∧ fty ci k = ty ∧ (∀ k, k < N → parseFieldDescriptor (T k).2.2.1 = some (fty ci k)) ∧
  (∀ a, a < N → ∀ b, b < N → a ≠ b → (T a).2.1 ≠ (T b).2.1) ∧ ((k : Nat) : Int) = kk ∧ (T k).2.2.2 = fin ∧ ci < 20
theorem ent_ob {G : GT} {c ci N : Nat} {I : Int → Int} {L : Int → Int64} {R : Int → Option Nat} (h : sh c = (ci, N)) (hci : ci < 20) : ent G c I L R = .inr (ci, fls G ci N I L R) := by
  unfold ent
  rw [h]
  rw [if_neg (by simp only; omega), if_neg (by simp only; omega), if_neg (by simp only; omega), if_neg (by simp only; omega)]
theorem ent_i {G : GT} {c N : Nat} {I : Int → Int} {L : Int → Int64} {R : Int → Option Nat} (h : sh c = (20, N)) : ent G c I L R = .inl (gI G, N, .inl (fun j => iI (I j))) := by
  unfold ent
  rw [h]
  exact if_pos rfl
theorem ent_l {G : GT} {c N : Nat} {I : Int → Int} {L : Int → Int64} {R : Int → Option Nat} (h : sh c = (21, N)) : ent G c I L R = .inl (gJ G, N, .inr (.inl (fun j => L j))) := by
  unfold ent
  rw [h]
  rw [if_neg (by simp)]
  exact if_pos rfl
theorem ent_z {G : GT} {c N : Nat} {I : Int → Int} {L : Int → Int64} {R : Int → Option Nat} (h : sh c = (22, N)) : ent G c I L R = .inl (gZ G, N, .inl (fun j => iI (I j))) := by
  unfold ent
  rw [h]
  rw [if_neg (by simp), if_neg (by simp)]
  exact if_pos rfl
theorem ent_a {G : GT} {c N : Nat} {I : Int → Int} {L : Int → Int64} {R : Int → Option Nat} (h : sh c = (23, N)) : ent G c I L R = .inl (gA G, N, .inr (.inr (.inr (.inr (fun j => (R j).map (gb G + ·)))))) := by
  unfold ent
  rw [h]
  rw [if_neg (by simp), if_neg (by simp), if_neg (by simp)]
  exact if_pos rfl
theorem fls_at {G : GT} {ci N k : Nat} {I : Int → Int} {L : Int → Int64} {R : Int → Option Nat} (h : k < N) : (fls G ci N I L R)[k]? = some (fv G (fty ci k) (I k) (L k) (R k)) := by
  unfold fls
  rw [List.getElem?_map, List.getElem?_range h]
  rfl
theorem Rep.one {G : GT} {n : Nat} {I : MI} {L : ML} {R : MR} {H : Heap} (h : Rep G n I L R H) {a : Nat} (ha : a < n) : va_P (gD G) vwCl [(gb G + a, ent G a (I a) (L a) (R a))] H := by
  intro k q hk
  cases k with
  | zero => cases hk; exact h.2.2.1 a ha
  | succ k => simp at hk
theorem Rep.put {G : GT} {n a : Nat} {I I' : MI} {L L' : ML} {R R' : MR} {H H' : Heap} (h : Rep G n I L R H) (ha : a < n) (hsz : H'.size = H.size) (hoq : ∀ q, q ≠ gb G + a → H'[q]? = H[q]?) (hat : va_at (gD G) vwCl (gb G + a, ent G a (I' a) (L' a) (R' a)) H') (hI : ∀ c, c ≠ a → I' c = I c) (hL : ∀ c, c ≠ a → L' c = L c) (hR : ∀ c, c ≠ a → R' c = R c)
    (hr : ∀ c k, -2147483648 ≤ I' c k ∧ I' c k ≤ 2147483647) : Rep G n I' L' R' H' := by
  obtain ⟨⟨h1, h2⟩, h3, h4, h5⟩ := h
  refine ⟨⟨by rw [hsz]; exact h1, fun q => by rw [hsz]; exact h2 q⟩, fun q hq => ?_, fun c hc => ?_, hr⟩
  · rw [hoq q (by omega)]
    exact h3 q hq
  · by_cases e : c = a
    · subst e
      exact hat
    · rw [hI c e, hL c e, hR c e]
      exact (h4 c hc).kept (hoq _ (by show gb G + c ≠ gb G + a; omega))
theorem up_r {I : MI} {a : Nat} {i v : Int} (h : ∀ c k, -2147483648 ≤ I c k ∧ I c k ≤ 2147483647) (hv : -2147483648 ≤ v ∧ v ≤ 2147483647) : ∀ c k, -2147483648 ≤ up I a i v c k ∧ up I a i v c k ≤ 2147483647 := by
  intro c k
  unfold up
  split
  · dsimp only
    split
    · exact hv
    · exact h _ _
  · exact h _ _
theorem iI_c {x : Int} (h : 0 ≤ x ∧ x ≤ 2147483647) : (iI x).toNatClampNeg = x.toNat := by
  have e : iI x = nI x.toNat := by rw [← iI_nat]; congr 1; omega
  rw [e, nI_clamp (by omega)]
theorem iI_in {x : Int} {n : Nat} (h : 0 ≤ x ∧ x < n) (hn : (n : Int) ≤ 2147483647) : vp_in (iI x) n := by
  rw [vp_in_iff, iI_t (by omega)]
  exact h
theorem iI_in2 {x : Int} {n : Nat} (h : 0 ≤ x ∧ x < n) (hn : (n : Int) ≤ 2147483647) : ¬ (iI x < 0 ∨ n ≤ (iI x).toNatClampNeg) := iI_in h hn

theorem x_nz {v : Int} (h : 0 ≤ v ∧ v ≤ 1) : narrow .boolean (.int (iI v)) = .int (iI v) := by
  have : v = 0 ∨ v = 1 := by omega
  rcases this with rfl | rfl <;> decide
theorem s_getI {X : XT} {M : MT} {z : Nat × Nat × Nat} {pc : Nat} {ls : List (Option AV)} {st : List AV} {I : MI} {L : ML} {R : MR} {F : State → Prop} {a idx ci N k : Nat} {kk : Int} {ty : FieldType} {fin : Bool} (q : Nat) (hd : decode (mcc M) pc = .ok (.getfield idx, 3)) (hq : pc + 3 = q) (hf : FL (mown M) idx ci N k kk ty fin) (ht : ∀ G x l r, fv G ty x l r = .int (iI x)) (hs : sh a = (ci, N)) (ha : a < z.2.2) (kk9 : (-2147483648 ≤ I a kk ∧ I a kk ≤ 2147483647) → V X M z q ls (vi (I a kk) :: st) I L R F) : V X M z pc ls (vr a :: st) I L R F := by
  subst hq
  intro ok h1 h2 H locs la hR hl hz hv
  obtain ⟨C, T, f1, f2, f3, f4, f5, f6, f7, rfl, f9, f11⟩ := hf
  have hP := hR.one ha
  rw [ent_ob hs f11] at hP
  refine va_get ok.1 ok.2.1 ok.2.2.2.2.1 f3 ok.2.2.2.1 ok.2.2.2.2.2.2.2.2.1.1 hP 0 rfl f1 k f2 (ok.2.2.2.2.1 _ f4) (fun _ h => h) (v := .int (iI (I a ((k : Nat) : Int)))) ?_ hd ?_
  · rw [fls_at f2, f5, ht]
  · exact kk9 (hR.2.2.2 a _) ok h1 h2 H locs la hR hl hz hv
theorem s_getL {X : XT} {M : MT} {z : Nat × Nat × Nat} {pc : Nat} {ls : List (Option AV)} {st : List AV} {I : MI} {L : ML} {R : MR} {F : State → Prop} {a idx ci N k : Nat} {kk : Int} {ty : FieldType} {fin : Bool} (q : Nat) (hd : decode (mcc M) pc = .ok (.getfield idx, 3)) (hq : pc + 3 = q) (hf : FL (mown M) idx ci N k kk ty fin) (ht : ∀ G x l r, fv G ty x l r = .long l) (hs : sh a = (ci, N)) (ha : a < z.2.2) (kk9 : V X M z q ls (vl (L a kk) :: st) I L R F) : V X M z pc ls (vr a :: st) I L R F := by
  subst hq
  intro ok h1 h2 H locs la hR hl hz hv
  obtain ⟨C, T, f1, f2, f3, f4, f5, f6, f7, rfl, f9, f11⟩ := hf
  have hP := hR.one ha
  rw [ent_ob hs f11] at hP
  refine va_get ok.1 ok.2.1 ok.2.2.2.2.1 f3 ok.2.2.2.1 ok.2.2.2.2.2.2.2.2.1.1 hP 0 rfl f1 k f2 (ok.2.2.2.2.1 _ f4) (fun _ h => h) (v := .long (L a ((k : Nat) : Int))) ?_ hd ?_
  · rw [fls_at f2, f5, ht]
  · exact kk9 ok h1 h2 H locs la hR hl hz hv
theorem s_getR {X : XT} {M : MT} {z : Nat × Nat × Nat} {pc : Nat} {ls : List (Option AV)} {st : List AV} {I : MI} {L : ML} {R : MR} {F : State → Prop} {a idx ci N k : Nat} {kk : Int} {ty : FieldType} {fin : Bool} (q : Nat) (hd : decode (mcc M) pc = .ok (.getfield idx, 3)) (hq : pc + 3 = q) (hf : FL (mown M) idx ci N k kk ty fin) (ht : ∀ G x l r, fv G ty x l r = va_rf (r.map (gb G + ·))) {b : Nat} (hb : R a kk = some b) (hs : sh a = (ci, N)) (ha : a < z.2.2) (kk9 : V X M z q ls (vr b :: st) I L R F) : V X M z pc ls (vr a :: st) I L R F := by
  subst hq
  intro ok h1 h2 H locs la hR hl hz hv
  obtain ⟨C, T, f1, f2, f3, f4, f5, f6, f7, rfl, f9, f11⟩ := hf
  have hP := hR.one ha
  rw [ent_ob hs f11] at hP
  refine va_get ok.1 ok.2.1 ok.2.2.2.2.1 f3 ok.2.2.2.1 ok.2.2.2.2.2.2.2.2.1.1 hP 0 rfl f1 k f2 (ok.2.2.2.2.1 _ f4) (fun _ h => h) (v := .ref (gb (xG X) + b)) ?_ hd ?_
  · rw [fls_at f2, f5, ht]; rw [hb]; rfl
  · exact kk9 ok h1 h2 H locs la hR hl hz hv
theorem s_putI {X : XT} {M : MT} {z : Nat × Nat × Nat} {pc : Nat} {ls : List (Option AV)} {st : List AV} {I : MI} {L : ML} {R : MR} {F : State → Prop} {a idx ci N k : Nat} {kk : Int} {ty : FieldType} {v : Int} (q : Nat) (hd : decode (mcc M) pc = .ok (.putfield idx, 3)) (hq : pc + 3 = q) (hf : FL (mown M) idx ci N k kk ty false) (hna : ∀ G, narrow ty (cv G (vi v)) = cv G (vi v)) (hfi : ∀ G, fits ty (cv G (vi v)) = true) (htv : ∀ G x l r, fv G ty x l r = .int (iI x)) (hs : sh a = (ci, N)) (ha : a < z.2.2) (hvr : -2147483648 ≤ v ∧ v ≤ 2147483647) (k9 : V X M z q ls st (up I a kk v) L R F) : V X M z pc ls (vi v :: vr a :: st) I L R F := by
  subst hq
  intro ok h1 h2 H locs la hR hl hz hv
  obtain ⟨C, T, f1, f2, f3, f4, f5, f6, f7, rfl, f9, f11⟩ := hf
  have hn9 : narrow (fty ci k) (cv (xG X) (vi v)) = cv (xG X) (vi v) := by rw [f5]; exact hna (xG X)
  have hf9 : fits (fty ci k) (cv (xG X) (vi v)) = true := by rw [f5]; exact hfi (xG X)
  have hap := va_apart (own := mown M) ok.2.2.2.2.1 f3 (fty ci) f6 f7 ok.2.2.2.2.2.2.2.2.1.1 f1
  have hat := hR.2.2.1 a ha
  rw [ent_ob hs f11] at hat
  obtain ⟨r, g1, cell, q1, q2, q3, q4⟩ := hat
  have hr9 : r = (C, T, N) := Option.some.inj (g1.symm.trans f1)
  subst hr9
  obtain ⟨hS, hfc, kC, hkC, hkind⟩ := ok.2.2.2.2.2.2.2.2.1.1.1 ci _ f1
  obtain ⟨cf, kf, fi, f, hi, hsl⟩ := hS k f2
  have hlay := ok.2.2.2.2.1 _ (f3 _ (u_in_lay f2))
  unfold u_lay at hlay
  rw [if_neg (by rw [f9]; decide)] at hlay
  have hst := (u_facts hfc hkC (u_lays ok.2.2.2.2.1 f3 f2) hi).1
  have h6 := u_store hfc hkC hkind hlay hi (f6 k f2) hn9 hf9
  refine W.putK ok.1 ok.2.1 (f := f) ⟨ok.2.2.2.1, ok.2.2.2.2.1 _ f4, ⟨_, _, _, hi⟩, hst⟩ (by rw [q2]; exact h6) q1 q3 (by rw [hsl]; exact k2_hasslot (q4 k f2)) rfl rfl hd fun H' e1 e2 e3 => ?_
  rw [hsl] at e1 ⊢
  refine k9 ok h1 h2 H' _ la (hR.put ha e2 e3 ?_ (fun c h => up_ne h) (fun c h => rfl) (fun c h => rfl) (up_r hR.2.2.2 hvr)) (fun p hp => ?_) (by rw [e2]; exact hz) hv
  · rw [ent_ob hs f11]
    refine ⟨_, f1, t_OB.to (V := updV (vp_V (fls (xG X) ci N (I a) (L a) (R a))) k (cv (xG X) (vi v))) ⟨_, e1, q2, q3, t_set q4 hap f2 _⟩ (fun j hj => ?_)⟩
    unfold updV vp_V
    rw [List.getD_eq_getElem?_getD, List.getD_eq_getElem?_getD, fls_at hj, fls_at hj]
    by_cases e : j = k
    · subst e
      rw [if_pos rfl]
      simp only [Option.getD_some, f5, htv, up_eq, if_true]
      rfl
    · rw [if_neg e]
      have e' : ¬ ((j : Nat) : Int) = ((k : Nat) : Int) := by omega
      simp only [Option.getD_some, up_eq, if_neg e']
  · rcases List.mem_append.mp hp with h | h
    · exact hl p h
    · rw [List.mem_singleton.mp h]
      show gb (xG X) ≤ gb (xG X) + a
      omega
theorem s_putL {X : XT} {M : MT} {z : Nat × Nat × Nat} {pc : Nat} {ls : List (Option AV)} {st : List AV} {I : MI} {L : ML} {R : MR} {F : State → Prop} {a idx ci N k : Nat} {kk : Int} {ty : FieldType} {v : Int64} (q : Nat) (hd : decode (mcc M) pc = .ok (.putfield idx, 3)) (hq : pc + 3 = q) (hf : FL (mown M) idx ci N k kk ty false) (hna : ∀ G, narrow ty (cv G (vl v)) = cv G (vl v)) (hfi : ∀ G, fits ty (cv G (vl v)) = true) (htv : ∀ G x l r, fv G ty x l r = .long l) (hs : sh a = (ci, N)) (ha : a < z.2.2) (k9 : V X M z q ls st I (up L a kk v) R F) : V X M z pc ls (vl v :: vr a :: st) I L R F := by
  subst hq
  intro ok h1 h2 H locs la hR hl hz hv
  obtain ⟨C, T, f1, f2, f3, f4, f5, f6, f7, rfl, f9, f11⟩ := hf
  have hn9 : narrow (fty ci k) (cv (xG X) (vl v)) = cv (xG X) (vl v) := by rw [f5]; exact hna (xG X)
  have hf9 : fits (fty ci k) (cv (xG X) (vl v)) = true := by rw [f5]; exact hfi (xG X)
  have hap := va_apart (own := mown M) ok.2.2.2.2.1 f3 (fty ci) f6 f7 ok.2.2.2.2.2.2.2.2.1.1 f1
  have hat := hR.2.2.1 a ha
  rw [ent_ob hs f11] at hat
  obtain ⟨r, g1, cell, q1, q2, q3, q4⟩ := hat
  have hr9 : r = (C, T, N) := Option.some.inj (g1.symm.trans f1)
  subst hr9
  obtain ⟨hS, hfc, kC, hkC, hkind⟩ := ok.2.2.2.2.2.2.2.2.1.1.1 ci _ f1
  obtain ⟨cf, kf, fi, f, hi, hsl⟩ := hS k f2
  have hlay := ok.2.2.2.2.1 _ (f3 _ (u_in_lay f2))
  unfold u_lay at hlay
  rw [if_neg (by rw [f9]; decide)] at hlay
  have hst := (u_facts hfc hkC (u_lays ok.2.2.2.2.1 f3 f2) hi).1
  have h6 := u_store hfc hkC hkind hlay hi (f6 k f2) hn9 hf9
  refine W.putK ok.1 ok.2.1 (f := f) ⟨ok.2.2.2.1, ok.2.2.2.2.1 _ f4, ⟨_, _, _, hi⟩, hst⟩ (by rw [q2]; exact h6) q1 q3 (by rw [hsl]; exact k2_hasslot (q4 k f2)) rfl rfl hd fun H' e1 e2 e3 => ?_
  rw [hsl] at e1 ⊢
  refine k9 ok h1 h2 H' _ la (hR.put ha e2 e3 ?_ (fun c h => rfl) (fun c h => up_ne h) (fun c h => rfl) hR.2.2.2) (fun p hp => ?_) (by rw [e2]; exact hz) hv
  · rw [ent_ob hs f11]
    refine ⟨_, f1, t_OB.to (V := updV (vp_V (fls (xG X) ci N (I a) (L a) (R a))) k (cv (xG X) (vl v))) ⟨_, e1, q2, q3, t_set q4 hap f2 _⟩ (fun j hj => ?_)⟩
    unfold updV vp_V
    rw [List.getD_eq_getElem?_getD, List.getD_eq_getElem?_getD, fls_at hj, fls_at hj]
    by_cases e : j = k
    · subst e
      rw [if_pos rfl]
      simp only [Option.getD_some, f5, htv, up_eq, if_true]
      rfl
    · rw [if_neg e]
      have e' : ¬ ((j : Nat) : Int) = ((k : Nat) : Int) := by omega
      simp only [Option.getD_some, up_eq, if_neg e']
  · rcases List.mem_append.mp hp with h | h
    · exact hl p h
    · rw [List.mem_singleton.mp h]
      show gb (xG X) ≤ gb (xG X) + a
      omega
theorem s_putR {X : XT} {M : MT} {z : Nat × Nat × Nat} {pc : Nat} {ls : List (Option AV)} {st : List AV} {I : MI} {L : ML} {R : MR} {F : State → Prop} {a idx ci N k : Nat} {kk : Int} {ty : FieldType} {v : Nat} (q : Nat) (hd : decode (mcc M) pc = .ok (.putfield idx, 3)) (hq : pc + 3 = q) (hf : FL (mown M) idx ci N k kk ty false) (hna : ∀ G, narrow ty (cv G (vr v)) = cv G (vr v)) (hfi : ∀ G, fits ty (cv G (vr v)) = true) (htv : ∀ G x l r, fv G ty x l r = va_rf (r.map (gb G + ·))) (hs : sh a = (ci, N)) (ha : a < z.2.2) (k9 : V X M z q ls st I L (up R a kk (some v)) F) : V X M z pc ls (vr v :: vr a :: st) I L R F := by
  subst hq
  intro ok h1 h2 H locs la hR hl hz hv
  obtain ⟨C, T, f1, f2, f3, f4, f5, f6, f7, rfl, f9, f11⟩ := hf
  have hn9 : narrow (fty ci k) (cv (xG X) (vr v)) = cv (xG X) (vr v) := by rw [f5]; exact hna (xG X)
  have hf9 : fits (fty ci k) (cv (xG X) (vr v)) = true := by rw [f5]; exact hfi (xG X)
  have hap := va_apart (own := mown M) ok.2.2.2.2.1 f3 (fty ci) f6 f7 ok.2.2.2.2.2.2.2.2.1.1 f1
  have hat := hR.2.2.1 a ha
  rw [ent_ob hs f11] at hat
  obtain ⟨r, g1, cell, q1, q2, q3, q4⟩ := hat
  have hr9 : r = (C, T, N) := Option.some.inj (g1.symm.trans f1)
  subst hr9
  obtain ⟨hS, hfc, kC, hkC, hkind⟩ := ok.2.2.2.2.2.2.2.2.1.1.1 ci _ f1
  obtain ⟨cf, kf, fi, f, hi, hsl⟩ := hS k f2
  have hlay := ok.2.2.2.2.1 _ (f3 _ (u_in_lay f2))
  unfold u_lay at hlay
  rw [if_neg (by rw [f9]; decide)] at hlay
  have hst := (u_facts hfc hkC (u_lays ok.2.2.2.2.1 f3 f2) hi).1
  have h6 := u_store hfc hkC hkind hlay hi (f6 k f2) hn9 hf9
  refine W.putK ok.1 ok.2.1 (f := f) ⟨ok.2.2.2.1, ok.2.2.2.2.1 _ f4, ⟨_, _, _, hi⟩, hst⟩ (by rw [q2]; exact h6) q1 q3 (by rw [hsl]; exact k2_hasslot (q4 k f2)) rfl rfl hd fun H' e1 e2 e3 => ?_
  rw [hsl] at e1 ⊢
  refine k9 ok h1 h2 H' _ la (hR.put ha e2 e3 ?_ (fun c h => rfl) (fun c h => rfl) (fun c h => up_ne h) hR.2.2.2) (fun p hp => ?_) (by rw [e2]; exact hz) hv
  · rw [ent_ob hs f11]
    refine ⟨_, f1, t_OB.to (V := updV (vp_V (fls (xG X) ci N (I a) (L a) (R a))) k (cv (xG X) (vr v))) ⟨_, e1, q2, q3, t_set q4 hap f2 _⟩ (fun j hj => ?_)⟩
    unfold updV vp_V
    rw [List.getD_eq_getElem?_getD, List.getD_eq_getElem?_getD, fls_at hj, fls_at hj]
    by_cases e : j = k
    · subst e
      rw [if_pos rfl]
      simp only [Option.getD_some, f5, htv, up_eq, if_true]
      rfl
    · rw [if_neg e]
      have e' : ¬ ((j : Nat) : Int) = ((k : Nat) : Int) := by omega
      simp only [Option.getD_some, up_eq, if_neg e']
  · rcases List.mem_append.mp hp with h | h
    · exact hl p h
    · rw [List.mem_singleton.mp h]
      show gb (xG X) ≤ gb (xG X) + a
      omega
theorem s_putIF {X : XT} {M : MT} {z : Nat × Nat × Nat} {pc : Nat} {ls : List (Option AV)} {st : List AV} {I : MI} {L : ML} {R : MR} {F : State → Prop} {a idx ci N k : Nat} {kk : Int} {ty : FieldType} {v : Int} (q : Nat) (hd : decode (mcc M) pc = .ok (.putfield idx, 3)) (hq : pc + 3 = q) (hini : mini M = true) (hdecl : ∀ (C : String) (T : u_T), vwCl[ci]? = some (C, T, N) → (T k).1 = mown M) (hf : FL (mown M) idx ci N k kk ty true) (hna : ∀ G, narrow ty (cv G (vi v)) = cv G (vi v)) (hfi : ∀ G, fits ty (cv G (vi v)) = true) (htv : ∀ G x l r, fv G ty x l r = .int (iI x)) (hs : sh a = (ci, N)) (ha : a < z.2.2) (hvr : -2147483648 ≤ v ∧ v ≤ 2147483647) (k9 : V X M z q ls st (up I a kk v) L R F) : V X M z pc ls (vi v :: vr a :: st) I L R F := by
  subst hq
  intro ok h1 h2 H locs la hR hl hz hv
  obtain ⟨C, T, f1, f2, f3, f4, f5, f6, f7, rfl, f9, f11⟩ := hf
  have hn9 : narrow (fty ci k) (cv (xG X) (vi v)) = cv (xG X) (vi v) := by rw [f5]; exact hna (xG X)
  have hf9 : fits (fty ci k) (cv (xG X) (vi v)) = true := by rw [f5]; exact hfi (xG X)
  have hap := va_apart (own := mown M) ok.2.2.2.2.1 f3 (fty ci) f6 f7 ok.2.2.2.2.2.2.2.2.1.1 f1
  have hat := hR.2.2.1 a ha
  rw [ent_ob hs f11] at hat
  obtain ⟨r, g1, cell, q1, q2, q3, q4⟩ := hat
  have hr9 : r = (C, T, N) := Option.some.inj (g1.symm.trans f1)
  subst hr9
  obtain ⟨hS, hfc, kC, hkC, hkind⟩ := ok.2.2.2.2.2.2.2.2.1.1.1 ci _ f1
  obtain ⟨cf, kf, fi, f, hi, hsl⟩ := hS k f2
  have hlay := ok.2.2.2.2.1 _ (f3 _ (u_in_lay f2))
  unfold u_lay at hlay
  rw [if_pos f9] at hlay
  have hst := (u_facts hfc hkC (u_lays ok.2.2.2.2.1 f3 f2) hi).1
  have h6 := u_fits hfc hkC hkind (Or.inr hlay) hi (f6 k f2) hn9 hf9
  have hcf : (xm X).cls = cf := by
    obtain ⟨_, _, c', _, _, _, -, -, hf', -, -, -, hown2, -⟩ := Cond.laysFinal_spec hlay
    have e1 : c' = cf := by have := hi.symm.trans hf'; simp at this; exact this.1.symm
    rw [hdecl C T f1] at hown2
    rw [← e1]; exact Option.some.inj (ok.2.2.2.1.symm.trans hown2)
  refine W.putFinK ok.1 ok.2.1 ok.2.2.2.1 (ok.2.2.2.2.1 _ f4) hi hst hcf (ok.2.2.2.2.2.2.2.1 hini) (by rw [q2]; exact h6) q1 q3 (by rw [hsl]; exact k2_hasslot (q4 k f2)) rfl rfl hd fun H' e1 e2 e3 => ?_
  rw [hsl] at e1 ⊢
  refine k9 ok h1 h2 H' _ la (hR.put ha e2 e3 ?_ (fun c h => up_ne h) (fun c h => rfl) (fun c h => rfl) (up_r hR.2.2.2 hvr)) (fun p hp => ?_) (by rw [e2]; exact hz) hv
  · rw [ent_ob hs f11]
    refine ⟨_, f1, t_OB.to (V := updV (vp_V (fls (xG X) ci N (I a) (L a) (R a))) k (cv (xG X) (vi v))) ⟨_, e1, q2, q3, t_set q4 hap f2 _⟩ (fun j hj => ?_)⟩
    unfold updV vp_V
    rw [List.getD_eq_getElem?_getD, List.getD_eq_getElem?_getD, fls_at hj, fls_at hj]
    by_cases e : j = k
    · subst e
      rw [if_pos rfl]
      simp only [Option.getD_some, f5, htv, up_eq, if_true]
      rfl
    · rw [if_neg e]
      have e' : ¬ ((j : Nat) : Int) = ((k : Nat) : Int) := by omega
      simp only [Option.getD_some, up_eq, if_neg e']
  · rcases List.mem_append.mp hp with h | h
    · exact hl p h
    · rw [List.mem_singleton.mp h]
      show gb (xG X) ≤ gb (xG X) + a
      omega
theorem s_putLF {X : XT} {M : MT} {z : Nat × Nat × Nat} {pc : Nat} {ls : List (Option AV)} {st : List AV} {I : MI} {L : ML} {R : MR} {F : State → Prop} {a idx ci N k : Nat} {kk : Int} {ty : FieldType} {v : Int64} (q : Nat) (hd : decode (mcc M) pc = .ok (.putfield idx, 3)) (hq : pc + 3 = q) (hini : mini M = true) (hdecl : ∀ (C : String) (T : u_T), vwCl[ci]? = some (C, T, N) → (T k).1 = mown M) (hf : FL (mown M) idx ci N k kk ty true) (hna : ∀ G, narrow ty (cv G (vl v)) = cv G (vl v)) (hfi : ∀ G, fits ty (cv G (vl v)) = true) (htv : ∀ G x l r, fv G ty x l r = .long l) (hs : sh a = (ci, N)) (ha : a < z.2.2) (k9 : V X M z q ls st I (up L a kk v) R F) : V X M z pc ls (vl v :: vr a :: st) I L R F := by
  subst hq
  intro ok h1 h2 H locs la hR hl hz hv
  obtain ⟨C, T, f1, f2, f3, f4, f5, f6, f7, rfl, f9, f11⟩ := hf
  have hn9 : narrow (fty ci k) (cv (xG X) (vl v)) = cv (xG X) (vl v) := by rw [f5]; exact hna (xG X)
  have hf9 : fits (fty ci k) (cv (xG X) (vl v)) = true := by rw [f5]; exact hfi (xG X)
  have hap := va_apart (own := mown M) ok.2.2.2.2.1 f3 (fty ci) f6 f7 ok.2.2.2.2.2.2.2.2.1.1 f1
  have hat := hR.2.2.1 a ha
  rw [ent_ob hs f11] at hat
  obtain ⟨r, g1, cell, q1, q2, q3, q4⟩ := hat
  have hr9 : r = (C, T, N) := Option.some.inj (g1.symm.trans f1)
  subst hr9
  obtain ⟨hS, hfc, kC, hkC, hkind⟩ := ok.2.2.2.2.2.2.2.2.1.1.1 ci _ f1
  obtain ⟨cf, kf, fi, f, hi, hsl⟩ := hS k f2
  have hlay := ok.2.2.2.2.1 _ (f3 _ (u_in_lay f2))
  unfold u_lay at hlay
  rw [if_pos f9] at hlay
  have hst := (u_facts hfc hkC (u_lays ok.2.2.2.2.1 f3 f2) hi).1
  have h6 := u_fits hfc hkC hkind (Or.inr hlay) hi (f6 k f2) hn9 hf9
  have hcf : (xm X).cls = cf := by
    obtain ⟨_, _, c', _, _, _, -, -, hf', -, -, -, hown2, -⟩ := Cond.laysFinal_spec hlay
    have e1 : c' = cf := by have := hi.symm.trans hf'; simp at this; exact this.1.symm
    rw [hdecl C T f1] at hown2
    rw [← e1]; exact Option.some.inj (ok.2.2.2.1.symm.trans hown2)
  refine W.putFinK ok.1 ok.2.1 ok.2.2.2.1 (ok.2.2.2.2.1 _ f4) hi hst hcf (ok.2.2.2.2.2.2.2.1 hini) (by rw [q2]; exact h6) q1 q3 (by rw [hsl]; exact k2_hasslot (q4 k f2)) rfl rfl hd fun H' e1 e2 e3 => ?_
  rw [hsl] at e1 ⊢
  refine k9 ok h1 h2 H' _ la (hR.put ha e2 e3 ?_ (fun c h => rfl) (fun c h => up_ne h) (fun c h => rfl) hR.2.2.2) (fun p hp => ?_) (by rw [e2]; exact hz) hv
  · rw [ent_ob hs f11]
    refine ⟨_, f1, t_OB.to (V := updV (vp_V (fls (xG X) ci N (I a) (L a) (R a))) k (cv (xG X) (vl v))) ⟨_, e1, q2, q3, t_set q4 hap f2 _⟩ (fun j hj => ?_)⟩
    unfold updV vp_V
    rw [List.getD_eq_getElem?_getD, List.getD_eq_getElem?_getD, fls_at hj, fls_at hj]
    by_cases e : j = k
    · subst e
      rw [if_pos rfl]
      simp only [Option.getD_some, f5, htv, up_eq, if_true]
      rfl
    · rw [if_neg e]
      have e' : ¬ ((j : Nat) : Int) = ((k : Nat) : Int) := by omega
      simp only [Option.getD_some, up_eq, if_neg e']
  · rcases List.mem_append.mp hp with h | h
    · exact hl p h
    · rw [List.mem_singleton.mp h]
      show gb (xG X) ≤ gb (xG X) + a
      omega
theorem s_putRF {X : XT} {M : MT} {z : Nat × Nat × Nat} {pc : Nat} {ls : List (Option AV)} {st : List AV} {I : MI} {L : ML} {R : MR} {F : State → Prop} {a idx ci N k : Nat} {kk : Int} {ty : FieldType} {v : Nat} (q : Nat) (hd : decode (mcc M) pc = .ok (.putfield idx, 3)) (hq : pc + 3 = q) (hini : mini M = true) (hdecl : ∀ (C : String) (T : u_T), vwCl[ci]? = some (C, T, N) → (T k).1 = mown M) (hf : FL (mown M) idx ci N k kk ty true) (hna : ∀ G, narrow ty (cv G (vr v)) = cv G (vr v)) (hfi : ∀ G, fits ty (cv G (vr v)) = true) (htv : ∀ G x l r, fv G ty x l r = va_rf (r.map (gb G + ·))) (hs : sh a = (ci, N)) (ha : a < z.2.2) (k9 : V X M z q ls st I L (up R a kk (some v)) F) : V X M z pc ls (vr v :: vr a :: st) I L R F := by
  subst hq
  intro ok h1 h2 H locs la hR hl hz hv
  obtain ⟨C, T, f1, f2, f3, f4, f5, f6, f7, rfl, f9, f11⟩ := hf
  have hn9 : narrow (fty ci k) (cv (xG X) (vr v)) = cv (xG X) (vr v) := by rw [f5]; exact hna (xG X)
  have hf9 : fits (fty ci k) (cv (xG X) (vr v)) = true := by rw [f5]; exact hfi (xG X)
  have hap := va_apart (own := mown M) ok.2.2.2.2.1 f3 (fty ci) f6 f7 ok.2.2.2.2.2.2.2.2.1.1 f1
  have hat := hR.2.2.1 a ha
  rw [ent_ob hs f11] at hat
  obtain ⟨r, g1, cell, q1, q2, q3, q4⟩ := hat
  have hr9 : r = (C, T, N) := Option.some.inj (g1.symm.trans f1)
  subst hr9
  obtain ⟨hS, hfc, kC, hkC, hkind⟩ := ok.2.2.2.2.2.2.2.2.1.1.1 ci _ f1
  obtain ⟨cf, kf, fi, f, hi, hsl⟩ := hS k f2
  have hlay := ok.2.2.2.2.1 _ (f3 _ (u_in_lay f2))
  unfold u_lay at hlay
  rw [if_pos f9] at hlay
  have hst := (u_facts hfc hkC (u_lays ok.2.2.2.2.1 f3 f2) hi).1
  have h6 := u_fits hfc hkC hkind (Or.inr hlay) hi (f6 k f2) hn9 hf9
  have hcf : (xm X).cls = cf := by
    obtain ⟨_, _, c', _, _, _, -, -, hf', -, -, -, hown2, -⟩ := Cond.laysFinal_spec hlay
    have e1 : c' = cf := by have := hi.symm.trans hf'; simp at this; exact this.1.symm
    rw [hdecl C T f1] at hown2
    rw [← e1]; exact Option.some.inj (ok.2.2.2.1.symm.trans hown2)
  refine W.putFinK ok.1 ok.2.1 ok.2.2.2.1 (ok.2.2.2.2.1 _ f4) hi hst hcf (ok.2.2.2.2.2.2.2.1 hini) (by rw [q2]; exact h6) q1 q3 (by rw [hsl]; exact k2_hasslot (q4 k f2)) rfl rfl hd fun H' e1 e2 e3 => ?_
  rw [hsl] at e1 ⊢
  refine k9 ok h1 h2 H' _ la (hR.put ha e2 e3 ?_ (fun c h => rfl) (fun c h => rfl) (fun c h => up_ne h) hR.2.2.2) (fun p hp => ?_) (by rw [e2]; exact hz) hv
  · rw [ent_ob hs f11]
    refine ⟨_, f1, t_OB.to (V := updV (vp_V (fls (xG X) ci N (I a) (L a) (R a))) k (cv (xG X) (vr v))) ⟨_, e1, q2, q3, t_set q4 hap f2 _⟩ (fun j hj => ?_)⟩
    unfold updV vp_V
    rw [List.getD_eq_getElem?_getD, List.getD_eq_getElem?_getD, fls_at hj, fls_at hj]
    by_cases e : j = k
    · subst e
      rw [if_pos rfl]
      simp only [Option.getD_some, f5, htv, up_eq, if_true]
      rfl
    · rw [if_neg e]
      have e' : ¬ ((j : Nat) : Int) = ((k : Nat) : Int) := by omega
      simp only [Option.getD_some, up_eq, if_neg e']
  · rcases List.mem_append.mp hp with h | h
    · exact hl p h
    · rw [List.mem_singleton.mp h]
      show gb (xG X) ≤ gb (xG X) + a
      omega
theorem s_iald {X : XT} {M : MT} {z : Nat × Nat × Nat} {pc : Nat} {ls : List (Option AV)} {st : List AV} {I : MI} {L : ML} {R : MR} {F : State → Prop} {a n : Nat} {i : Int} (q : Nat) (hd : decode (mcc M) pc = .ok (.iaload, 1)) (hq : pc + 1 = q) (hs : sh a = (20, n)) (ha : a < z.2.2) (hi : 0 ≤ i ∧ i < n) (hn : (n : Int) ≤ 2147483647) (kk9 : (-2147483648 ≤ I a i ∧ I a i ≤ 2147483647) → V X M z q ls (vi (I a i) :: st) I L R F) : V X M z pc ls (vi i :: vr a :: st) I L R F := by
  subst hq
  intro ok h1 h2 H locs la hR hl hz hv
  have hP := hR.one ha
  rw [ent_i hs] at hP
  refine va_iald ok.1 ok.2.1 ok.2.2.2.2.2.2.2.2.1.1 hP 0 0 rfl rfl (iI_in hi hn) hd ?_
  have e : (((iI i).toNatClampNeg : Nat) : Int) = i := by rw [iI_c (by omega)]; omega
  rw [e]
  exact kk9 (hR.2.2.2 a i) ok h1 h2 H locs la hR hl hz hv
theorem s_zald {X : XT} {M : MT} {z : Nat × Nat × Nat} {pc : Nat} {ls : List (Option AV)} {st : List AV} {I : MI} {L : ML} {R : MR} {F : State → Prop} {a n : Nat} {i : Int} (q : Nat) (hd : decode (mcc M) pc = .ok (.baload, 1)) (hq : pc + 1 = q) (hs : sh a = (22, n)) (ha : a < z.2.2) (hi : 0 ≤ i ∧ i < n) (hn : (n : Int) ≤ 2147483647) (kk9 : (-2147483648 ≤ I a i ∧ I a i ≤ 2147483647) → V X M z q ls (vi (I a i) :: st) I L R F) : V X M z pc ls (vi i :: vr a :: st) I L R F := by
  subst hq
  intro ok h1 h2 H locs la hR hl hz hv
  have hP := hR.one ha
  rw [ent_z hs] at hP
  refine va_zald ok.1 ok.2.1 ok.2.2.2.2.2.2.2.2.1.1 hP 0 2 rfl rfl (iI_in hi hn) hd ?_
  have e : (((iI i).toNatClampNeg : Nat) : Int) = i := by rw [iI_c (by omega)]; omega
  rw [e]
  exact kk9 (hR.2.2.2 a i) ok h1 h2 H locs la hR hl hz hv
theorem s_lald {X : XT} {M : MT} {z : Nat × Nat × Nat} {pc : Nat} {ls : List (Option AV)} {st : List AV} {I : MI} {L : ML} {R : MR} {F : State → Prop} {a n : Nat} {i : Int} (q : Nat) (hd : decode (mcc M) pc = .ok (.laload, 1)) (hq : pc + 1 = q) (hs : sh a = (21, n)) (ha : a < z.2.2) (hi : 0 ≤ i ∧ i < n) (hn : (n : Int) ≤ 2147483647) (kk9 : V X M z q ls (vl (L a i) :: st) I L R F) : V X M z pc ls (vi i :: vr a :: st) I L R F := by
  subst hq
  intro ok h1 h2 H locs la hR hl hz hv
  have hP := hR.one ha
  rw [ent_l hs] at hP
  refine va_lald ok.1 ok.2.1 ok.2.2.2.2.2.2.2.2.1.1 hP 0 1 rfl rfl (iI_in hi hn) hd ?_
  have e : (((iI i).toNatClampNeg : Nat) : Int) = i := by rw [iI_c (by omega)]; omega
  rw [e]
  exact kk9 ok h1 h2 H locs la hR hl hz hv
theorem s_aald {X : XT} {M : MT} {z : Nat × Nat × Nat} {pc : Nat} {ls : List (Option AV)} {st : List AV} {I : MI} {L : ML} {R : MR} {F : State → Prop} {a n b : Nat} {i : Int} (q : Nat) (hd : decode (mcc M) pc = .ok (.aaload, 1)) (hq : pc + 1 = q) (hs : sh a = (23, n)) (ha : a < z.2.2) (hi : 0 ≤ i ∧ i < n) (hn : (n : Int) ≤ 2147483647) (hb : R a i = some b) (kk9 : V X M z q ls (vr b :: st) I L R F) : V X M z pc ls (vi i :: vr a :: st) I L R F := by
  subst hq
  intro ok h1 h2 H locs la hR hl hz hv
  have hat := hR.2.2.1 a ha
  rw [ent_a hs] at hat
  have hlt : (iI i).toNatClampNeg < n := by rw [iI_c (by omega)]; omega
  have e : (((iI i).toNatClampNeg : Nat) : Int) = i := by rw [iI_c (by omega)]; omega
  refine W.aald (ty := .array .int) (v := .ref (gb (xG X) + b)) ok.1 ok.2.1 hat ((ok.2.2.2.2.2.2.2.2.1.1.2 3 _ rfl).1 n _) rfl (fun q => by cases q) (by show ¬ (iI i < 0 ∨ (arrV _ _ _).slots.size ≤ _); rw [arrV_size]; exact iI_in2 hi hn) ?_ rfl rfl hd (kk9 ok h1 h2 H locs la hR hl hz hv)
  show (arrV _ _ _).slots[_]? = _
  rw [arrV_read _ _ hlt]
  show some (va_rf (Option.map _ (R a _))) = _
  rw [e, hb]
  rfl
theorem s_iast {X : XT} {M : MT} {z : Nat × Nat × Nat} {pc : Nat} {ls : List (Option AV)} {st : List AV} {I : MI} {L : ML} {R : MR} {F : State → Prop} {a n : Nat} {i : Int} {v : Int} (q : Nat) (hd : decode (mcc M) pc = .ok (.iastore, 1)) (hq : pc + 1 = q) (hs : sh a = (20, n)) (ha : a < z.2.2) (hi : 0 ≤ i ∧ i < n) (hn : (n : Int) ≤ 2147483647) (hvr : -2147483648 ≤ v ∧ v ≤ 2147483647) (k9 : V X M z q ls st (up I a i v) L R F) : V X M z pc ls (vi v :: vi i :: vr a :: st) I L R F := by
  subst hq
  intro ok h1 h2 H locs la hR hl hz hv
  have hat := hR.2.2.1 a ha
  rw [ent_i hs] at hat
  have e : (iI i).toNatClampNeg = i.toNat := iI_c (by omega)
  refine W.iast ok.1 ok.2.1 hat ((ok.2.2.2.2.2.2.2.2.1.1.2 0 _ rfl).1 n _) (fun q => by cases q) (by show ¬ (iI i < 0 ∨ (arrV _ _ _).slots.size ≤ _); rw [arrV_size]; exact iI_in2 hi hn) rfl rfl hd fun H' e1 e2 e3 => ?_
  refine k9 ok h1 h2 H' _ la (hR.put ha e2 e3 ?_ (fun c h => up_ne h) (fun c h => rfl) (fun c h => rfl) (up_r hR.2.2.2 hvr)) (fun p hp => ?_) (by rw [e2]; exact hz) hv
  · rw [ent_i hs]
    show H'[gb (xG X) + a]? = some (vp_cell _ _)
    rw [e1]
    dsimp only
    rw [vp_cell_i, vp_cell_i, arrV_store]
    congr 2
    funext p
    unfold updV
    rw [e, up_eq]
    by_cases hp : p = i.toNat
    · rw [if_pos hp]
      have : ((p : Nat) : Int) = i := by omega
      simp only [this, if_true]
    · rw [if_neg hp]
      have : ¬ ((p : Nat) : Int) = i := by omega
      simp only [this, if_false]
  · rcases List.mem_append.mp hp with h | h
    · exact hl p h
    · rw [List.mem_singleton.mp h]
      show gb (xG X) ≤ gb (xG X) + a
      omega
theorem s_last {X : XT} {M : MT} {z : Nat × Nat × Nat} {pc : Nat} {ls : List (Option AV)} {st : List AV} {I : MI} {L : ML} {R : MR} {F : State → Prop} {a n : Nat} {i : Int} {v : Int64} (q : Nat) (hd : decode (mcc M) pc = .ok (.lastore, 1)) (hq : pc + 1 = q) (hs : sh a = (21, n)) (ha : a < z.2.2) (hi : 0 ≤ i ∧ i < n) (hn : (n : Int) ≤ 2147483647) (k9 : V X M z q ls st I (up L a i v) R F) : V X M z pc ls (vl v :: vi i :: vr a :: st) I L R F := by
  subst hq
  intro ok h1 h2 H locs la hR hl hz hv
  have hat := hR.2.2.1 a ha
  rw [ent_l hs] at hat
  have e : (iI i).toNatClampNeg = i.toNat := iI_c (by omega)
  refine W.last ok.1 ok.2.1 hat ((ok.2.2.2.2.2.2.2.2.1.1.2 1 _ rfl).1 n _) (fun q => by cases q) (by show ¬ (iI i < 0 ∨ (arrV _ _ _).slots.size ≤ _); rw [arrV_size]; exact iI_in2 hi hn) rfl rfl hd fun H' e1 e2 e3 => ?_
  refine k9 ok h1 h2 H' _ la (hR.put ha e2 e3 ?_ (fun c h => rfl) (fun c h => up_ne h) (fun c h => rfl) hR.2.2.2) (fun p hp => ?_) (by rw [e2]; exact hz) hv
  · rw [ent_l hs]
    show H'[gb (xG X) + a]? = some (vp_cell _ _)
    rw [e1]
    dsimp only
    rw [vp_cell_l, vp_cell_l, arrV_store]
    congr 2
    funext p
    unfold updV
    rw [e, up_eq]
    by_cases hp : p = i.toNat
    · rw [if_pos hp]
      have : ((p : Nat) : Int) = i := by omega
      simp only [this, if_true]
    · rw [if_neg hp]
      have : ¬ ((p : Nat) : Int) = i := by omega
      simp only [this, if_false]
  · rcases List.mem_append.mp hp with h | h
    · exact hl p h
    · rw [List.mem_singleton.mp h]
      show gb (xG X) ≤ gb (xG X) + a
      omega
theorem s_zast {X : XT} {M : MT} {z : Nat × Nat × Nat} {pc : Nat} {ls : List (Option AV)} {st : List AV} {I : MI} {L : ML} {R : MR} {F : State → Prop} {a n : Nat} {i : Int} {v : Int} (q : Nat) (hd : decode (mcc M) pc = .ok (.bastore, 1)) (hq : pc + 1 = q) (hs : sh a = (22, n)) (ha : a < z.2.2) (hi : 0 ≤ i ∧ i < n) (hn : (n : Int) ≤ 2147483647) (hvb : 0 ≤ v ∧ v ≤ 1) (k9 : V X M z q ls st (up I a i v) L R F) : V X M z pc ls (vi v :: vi i :: vr a :: st) I L R F := by
  subst hq
  intro ok h1 h2 H locs la hR hl hz hv
  have hvr : -2147483648 ≤ v ∧ v ≤ 2147483647 := by omega
  have hnz : narrow .boolean (.int (iI v)) = .int (iI v) := x_nz hvb
  have hat := hR.2.2.1 a ha
  rw [ent_z hs] at hat
  have e : (iI i).toNatClampNeg = i.toNat := iI_c (by omega)
  refine W.zast ok.1 ok.2.1 hat ((ok.2.2.2.2.2.2.2.2.1.1.2 2 _ rfl).1 n _) (fun q => by cases q) (by show ¬ (iI i < 0 ∨ (arrV _ _ _).slots.size ≤ _); rw [arrV_size]; exact iI_in2 hi hn) rfl rfl hd fun H' e1 e2 e3 => ?_
  refine k9 ok h1 h2 H' _ la (hR.put ha e2 e3 ?_ (fun c h => up_ne h) (fun c h => rfl) (fun c h => rfl) (up_r hR.2.2.2 hvr)) (fun p hp => ?_) (by rw [e2]; exact hz) hv
  · rw [ent_z hs]
    show H'[gb (xG X) + a]? = some (vp_cell _ _)
    rw [e1]; rw [hnz]
    dsimp only
    rw [vp_cell_i, vp_cell_i, arrV_store]
    congr 2
    funext p
    unfold updV
    rw [e, up_eq]
    by_cases hp : p = i.toNat
    · rw [if_pos hp]
      have : ((p : Nat) : Int) = i := by omega
      simp only [this, if_true]
    · rw [if_neg hp]
      have : ¬ ((p : Nat) : Int) = i := by omega
      simp only [this, if_false]
  · rcases List.mem_append.mp hp with h | h
    · exact hl p h
    · rw [List.mem_singleton.mp h]
      show gb (xG X) ≤ gb (xG X) + a
      omega
theorem s_alen20 {X : XT} {M : MT} {z : Nat × Nat × Nat} {pc : Nat} {ls : List (Option AV)} {st : List AV} {I : MI} {L : ML} {R : MR} {F : State → Prop} {a n : Nat} (q : Nat) (hd : decode (mcc M) pc = .ok (.arraylength, 1)) (hq : pc + 1 = q) (hs : sh a = (20, n)) (ha : a < z.2.2) (kk9 : V X M z q ls (vi (n : Int) :: st) I L R F) : V X M z pc ls (vr a :: st) I L R F := by
  subst hq
  intro ok h1 h2 H locs la hR hl hz hv
  have hP := hR.one ha
  rw [ent_i hs] at hP
  refine va_alen (v := iI (n : Int)) ok.1 ok.2.1 ok.2.2.2.2.2.2.2.2.1.1 hP 0 0 rfl (ty := .int) rfl (iI_nat n).symm hd ?_
  exact kk9 ok h1 h2 H locs la hR hl hz hv
theorem s_alen21 {X : XT} {M : MT} {z : Nat × Nat × Nat} {pc : Nat} {ls : List (Option AV)} {st : List AV} {I : MI} {L : ML} {R : MR} {F : State → Prop} {a n : Nat} (q : Nat) (hd : decode (mcc M) pc = .ok (.arraylength, 1)) (hq : pc + 1 = q) (hs : sh a = (21, n)) (ha : a < z.2.2) (kk9 : V X M z q ls (vi (n : Int) :: st) I L R F) : V X M z pc ls (vr a :: st) I L R F := by
  subst hq
  intro ok h1 h2 H locs la hR hl hz hv
  have hP := hR.one ha
  rw [ent_l hs] at hP
  refine va_alen (v := iI (n : Int)) ok.1 ok.2.1 ok.2.2.2.2.2.2.2.2.1.1 hP 0 1 rfl (ty := .long) rfl (iI_nat n).symm hd ?_
  exact kk9 ok h1 h2 H locs la hR hl hz hv
theorem loc_q {G : GT} {locs : List Loc} (h : ∀ q ∈ locs, gb G ≤ q.base) : ∀ q ∈ locs, (fun a : Nat => gb G ≤ a) q.base := h
theorem s_iret {X : XT} {M : MT} {z : Nat × Nat × Nat} {pc : Nat} {ls : List (Option AV)} {I : MI} {L : ML} {R : MR} {Q : Option AV → MI → ML → MR → Prop} {x : Int} (hd : decode (mcc M) pc = .ok (.ireturn, 1)) (hr : mret M = some .int) (hn : z.2.2 = mn1 M) (hQ : Q (some (vi x)) I L R) : V X M z pc ls [vi x] I L R (RT X M Q) := by
  intro ok h1 h2 H locs la hR hl hz hv
  refine W.widen h1 h2 ?_
  refine W.zret (hlocks := ok.2.2.2.2.2.2.1) ok.1 ok.2.1 (by rw [ok.2.2.2.2.2.1]; exact hr) rfl (fun t ht hW => ⟨⟨some (vi x), I, L, R, rfl, hQ, ?_⟩, by rw [ht]; exact hz⟩) (loc_q hl) hd
  rw [ht, ← hn]
  exact hR
theorem s_zret {X : XT} {M : MT} {z : Nat × Nat × Nat} {pc : Nat} {ls : List (Option AV)} {I : MI} {L : ML} {R : MR} {Q : Option AV → MI → ML → MR → Prop} {x : Int} (hd : decode (mcc M) pc = .ok (.ireturn, 1)) (hr : mret M = some .boolean) (hb : 0 ≤ x ∧ x ≤ 1) (hn : z.2.2 = mn1 M) (hQ : Q (some (vi x)) I L R) : V X M z pc ls [vi x] I L R (RT X M Q) := by
  intro ok h1 h2 H locs la hR hl hz hv
  refine W.widen h1 h2 ?_
  refine W.zret (hlocks := ok.2.2.2.2.2.2.1) ok.1 ok.2.1 (by rw [ok.2.2.2.2.2.1]; exact hr) (x_nz hb) (fun t ht hW => ⟨⟨some (vi x), I, L, R, rfl, hQ, ?_⟩, by rw [ht]; exact hz⟩) (loc_q hl) hd
  rw [ht, ← hn]
  exact hR
theorem s_cret {X : XT} {M : MT} {z : Nat × Nat × Nat} {pc : Nat} {ls : List (Option AV)} {I : MI} {L : ML} {R : MR} {Q : Option AV → MI → ML → MR → Prop} {x : Int} {ty : FieldType} (hd : decode (mcc M) pc = .ok (.ireturn, 1)) (hr : mret M = some ty) (hb : narrow ty (.int (iI x)) = .int (iI x)) (hn : z.2.2 = mn1 M) (hQ : Q (some (vi x)) I L R) : V X M z pc ls [vi x] I L R (RT X M Q) := by
  intro ok h1 h2 H locs la hR hl hz hv
  refine W.widen h1 h2 ?_
  refine W.zret (hlocks := ok.2.2.2.2.2.2.1) ok.1 ok.2.1 (by rw [ok.2.2.2.2.2.1]; exact hr) hb (fun t ht hW => ⟨⟨some (vi x), I, L, R, rfl, hQ, ?_⟩, by rw [ht]; exact hz⟩) (loc_q hl) hd
  rw [ht, ← hn]
  exact hR
theorem s_lret {X : XT} {M : MT} {z : Nat × Nat × Nat} {pc : Nat} {ls : List (Option AV)} {I : MI} {L : ML} {R : MR} {Q : Option AV → MI → ML → MR → Prop} {x : Int64} (hd : decode (mcc M) pc = .ok (.lreturn, 1)) (hr : mret M = some .long) (hn : z.2.2 = mn1 M) (hQ : Q (some (vl x)) I L R) : V X M z pc ls [vl x] I L R (RT X M Q) := by
  intro ok h1 h2 H locs la hR hl hz hv
  refine W.widen h1 h2 ?_
  refine W.lret (hlocks := ok.2.2.2.2.2.2.1) ok.1 ok.2.1 (by rw [ok.2.2.2.2.2.1]; exact hr) (fun t ht hW => ⟨⟨some (vl x), I, L, R, rfl, hQ, ?_⟩, by rw [ht]; exact hz⟩) (loc_q hl) hd
  rw [ht, ← hn]
  exact hR
theorem s_vret {X : XT} {M : MT} {z : Nat × Nat × Nat} {pc : Nat} {ls : List (Option AV)} {I : MI} {L : ML} {R : MR} {Q : Option AV → MI → ML → MR → Prop} (hd : decode (mcc M) pc = .ok (.return_, 1)) (hr : mret M = none) (hn : z.2.2 = mn1 M) (hQ : Q (none) I L R) : V X M z pc ls [] I L R (RT X M Q) := by
  intro ok h1 h2 H locs la hR hl hz hv
  refine W.widen h1 h2 ?_
  refine W.vret (hlocks := ok.2.2.2.2.2.2.1) ok.1 ok.2.1 (by rw [ok.2.2.2.2.2.1]; exact hr) (fun t ht hW => ⟨⟨none, I, L, R, rfl, hQ, ?_⟩, by rw [ht]; exact hz⟩) (loc_q hl) hd
  rw [ht, ← hn]
  exact hR
theorem s_aret {X : XT} {M : MT} {z : Nat × Nat × Nat} {pc : Nat} {ls : List (Option AV)} {I : MI} {L : ML} {R : MR} {Q : Option AV → MI → ML → MR → Prop} {a : Nat} {ty : FieldType} (hd : decode (mcc M) pc = .ok (.areturn, 1)) (hr : mret M = some ty) (ht : (∃ n, ty = .object n) ∨ ∃ t, ty = .array t) (hn : z.2.2 = mn1 M) (hQ : Q (some (vr a)) I L R) : V X M z pc ls [vr a] I L R (RT X M Q) := by
  intro ok h1 h2 H locs la hR hl hz hv
  refine W.widen h1 h2 ?_
  refine W.aret (hlocks := ok.2.2.2.2.2.2.1) ok.1 ok.2.1 (by rw [ok.2.2.2.2.2.1]; exact hr) ht (Or.inr ⟨_, rfl⟩) (fun t ht hW => ⟨⟨some (vr a), I, L, R, rfl, hQ, ?_⟩, by rw [ht]; exact hz⟩) (loc_q hl) hd
  rw [ht, ← hn]
  exact hR
