/-! calls -/
def psh (r : Option AV) (st : List AV) : List AV := match r with
  | some v => v :: st
  | none => st
theorem goodTB {ws : List Cond} (h : ∀ w ∈ ws, w ∈ TB) : GoodIn TB ws := fun w hw => ⟨h w hw, good_of_word (List.mem_filter.mp (h w hw)).2⟩
abbrev dscOk (c d : String) (n : Nat) : Prop := c ≠ "java/lang/invoke/MethodHandle" ∧ c ≠ "java/lang/invoke/VarHandle" ∧ (parseMethodDescriptor d).map (fun d => d.parameters.length) = some n
def CWV (own : String) (idx : Nat) (C : String) (y : MethodName) (cc : ByteArray) (ml : Nat) (ret : Option FieldType) (n : Nat) : Prop := (∀ w ∈ wsV own idx C y [.code y cc ml ret], w ∈ TB) ∧ y.cls = C ∧ dscOk y.cls y.desc n
def CWS (own : String) (idx : Nat) (y : MethodName) (cc : ByteArray) (ml : Nat) (ret : Option FieldType) (n : Nat) : Prop := (∀ w ∈ va_wsS own idx y [.code y cc ml ret], w ∈ TB) ∧ dscOk y.cls y.desc n
def CWI (own : String) (idx : Nat) (y : MethodName) (cc : ByteArray) (ml : Nat) (n : Nat) : Prop := (∀ w ∈ ([.initialized y.cls, .methodLink own idx y, .instanceMethod y, .code y cc ml none] : List Cond), w ∈ TB) ∧ y.name = "<init>" ∧ dscOk y.cls y.desc n
def CWN (own : String) (idx : Nat) (host : String) (y : MethodName) (cc : ByteArray) (ml : Nat) (ret : Option FieldType) (k : Cond) (n : Nat) : Prop := (∀ w ∈ ([.initialized y.cls, k, .code y cc ml ret] : List Cond), w ∈ TB) ∧ Cond.methodLinkNest own idx y host ∈ NWL ∧ dscOk y.cls y.desc n
def CWU (own : String) (idx : Nat) (C owner : String) (x y : MethodName) (cc : ByteArray) (ml : Nat) (ret : Option FieldType) (n : Nat) : Prop := (∀ w ∈ va_wsU own idx C owner x y [.code y cc ml ret], w ∈ TB) ∧ y = ⟨owner, x.name, x.desc⟩ ∧ dscOk owner x.desc n
def CWA (own : String) (idx : Nat) (C owner : String) (x y : MethodName) (cc : ByteArray) (ml : Nat) (ret : Option FieldType) (n : Nat) : Prop := (∀ w ∈ va_wsU own idx C owner x y [.code y cc ml ret], w ∈ TB) ∧ Cond.declares ⟨owner, x.name, x.desc⟩ ∈ NWL ∧ dscOk owner x.desc n
theorem in_ap {a b : List Cond} {w0 : Cond} (h : ∀ w ∈ a ++ [w0], w ∈ TB) : ∀ w ∈ a ++ (w0 :: TB), w ∈ TB := by
  intro w hw
  rcases List.mem_append.mp hw with h1 | h1
  · exact h w (List.mem_append_left _ h1)
  · rcases List.mem_cons.mp h1 with h2 | h2
    · exact h w (List.mem_append_right _ (by rw [h2]; exact List.mem_cons_self))
    · exact h2
theorem in_cons {w0 : Cond} (h : w0 ∈ TB) : ∀ w ∈ w0 :: TB, w ∈ TB := fun w hw => (List.mem_cons.mp hw).elim (fun e => e ▸ h) id
theorem asz_sum (G : GT) : ∀ st : List AV, ((st.map (cv G)).map fun v => v.category).sum = asz st
  | [] => rfl
  | a :: st => by
    have h := asz_sum G st
    simp only [List.map_cons, List.sum_cons, cv_ct] at h ⊢
    rw [h]
    rfl
/-- behind a call -/
theorem call_go {X : XT} {M M' : MT} {z : Nat × Nat × Nat} {pc q : Nat} {ls : List (Option AV)} {st stk : List AV} {F : State → Prop} {H : Heap} {locs : List Loc} {la : Array Slot} {a : Array Value} (ok : MOk X M) (hq : pc + 3 = q) (hl : ∀ q ∈ locs, gb (xG X) ≤ q.base) (hz : (xs X).heap.size ≤ H.size) (hv : lv_has la (mL M) (lsl (xG X) ls))
    (hz1 : z.1 + mmc M' ≤ mmc M) (hz2 : z.2.1 + mms M' ≤ mms M)
    (run : va_Run (xp X) (xl X) (xe X) (xR X) (xs X) (xm X) (xa X) (xb X) (xh X) (xc X) H locs z.1 z.2.1 (mmc M') (mms M') (F0 (xm X) pc la (stk.map (cv (xG X)))) (st.map (cv (xG X))) (QcV (xG X) (mn1 M') (fun r I' L' R' => V X M (z.1 + mmc M', z.2.1 + mms M', mn1 M') q ls (psh r st) I' L' R' F) a) (fun q => gb (xG X) ≤ q)) :
    W (xp X) (xl X) (xe X) (xR X) (xs X) (xm X) (xa X) (xb X) (xh X) (xc X) H locs z.1 z.2.1 F (F0 (xm X) pc la (stk.map (cv (xG X)))) := by
  subst hq
  intro T hT X9
  obtain ⟨v, st₀, t, T', L9, h0, X', hL9, e1, e2, ⟨⟨r, I', L', R', hr, hQ, hRep⟩, hsz⟩, hgo⟩ := run T hT X9
  cases hr
  rw [h0] at hsz
  have hk := hQ ok hz1 hz2 T'.heap (locs ++ L9) la (by rw [e1]; exact hRep) (fun q hq => ?_) (by rw [e1]; exact Nat.le_trans hz hsz) hv
  · obtain ⟨t2, a1, b1⟩ := hk T' rfl X'
    refine ⟨t2, hgo t2 ?_, b1⟩
    cases r <;> exact a1
  · rcases List.mem_append.mp hq with h | h
    · exact hl q h
    · exact hL9 q h
theorem s_callV {X : XT} {M : MT} {z : Nat × Nat × Nat} {pc : Nat} {ls : List (Option AV)} {st : List AV} {I : MI} {L : ML} {R : MR} {F : State → Prop} {C : String} {b ci N : Nat} {C9 : u_T}  {M' : MT} {y : MethodName} {idx n : Nat} {as stk : List AV} (q : Nat) (hd : decode (mcc M) pc = .ok (.invokevirtual idx, 3)) (hq : pc + 3 = q) (hw : CWV (mown M) idx C y (mcc M') (mL M') (mret M') n) (hst : stk = as.reverse ++ vr b :: st) (hn : as.length = n) (hs : sh b = (ci, N)) (hC : vwCl[ci]? = some (C, C9, N)) (hci : ci < 20) (hb : b < z.2.2) (hr : mrk M' + 1 ≤ mrk M) (hmL : mL M' ≤ 41) (hr8 : asz st ≤ 8) (hz1 : z.1 + mmc M' ≤ mmc M) (hz2 : z.2.1 + mms M' ≤ mms M)
    (k : CT (xE X) M' z.2.2 y (vr b :: as) I L R (fun r I' L' R' => V X M (z.1 + mmc M', z.2.1 + mms M', mn1 M') q ls (psh r st) I' L' R' F)) : V X M z pc ls stk I L R F := by
  subst hst
  intro ok h1 h2 H locs la hR hl hz hv
  obtain ⟨hw1, hw2⟩ := hw
  have hRm : (rmM M').frames + 1 ≤ (xR X).frames ∧ 8 + (mL M' + 11) + (rmM M').locals ≤ (xR X).locals := by
    have a1 := ok.2.2.2.2.2.2.2.2.2.1
    have a2 := ok.2.2.2.2.2.2.2.2.2.2.1
    show mrk M' + 1 ≤ _ ∧ 8 + (mL M' + 11) + 60 * mrk M' ≤ _
    omega
  have a3 := ok.2.2.2.2.2.2.2.2.2.2.2.1
  have a4 := ok.2.2.2.2.2.2.2.2.2.2.2.2.1
  have hf9 : z.1 + mmc M' ≤ (xR X).cells ∧ z.2.1 + mms M' ≤ (xR X).slots := ⟨Nat.le_trans hz1 a3, Nat.le_trans hz2 a4⟩
  have hP9 : ∀ U : State, U.heap = H → (xs X).WarmedH U.vm → PcV (xG X) z.2.2 (vr b :: as) I L R (List.map (cv (xG X)) (vr b :: as)).toArray U := fun U hU hW => ⟨rfl, by rw [hU]; exact hR, KF.warm hW ok.2.2.2.2.2.2.2.2.1⟩
  have hPo := hR.one hb
  rw [ent_ob hs hci] at hPo
  have hrec := va_recv ok.2.2.2.2.2.2.2.2.1.1 hPo hC (q0 := 0) rfl
  refine call_go (M' := M') (st := st) ok hq hl hz hv hz1 hz2 (va_runV (As := as.map (cv (xG X))) (n := n) ⟨ok.1, ok.2.1, ok.2.2.1, ok.2.2.2.1, ok.2.2.2.2.1⟩ k (cwV n ok.2.2.2.2.1 (goodTB (in_ap (b := []) (by exact hw1))) rfl rfl rfl hw2 hRm) ⟨PcV_blind, hrec, hP9⟩ rfl (by simpa using hn) hv.1 ?_ (lv_room (by rw [asz_sum]; exact hr8)) hd hf9)
  show List.map _ _ = _
  simp [List.map_append, List.map_reverse]; rfl
theorem s_callS {X : XT} {M : MT} {z : Nat × Nat × Nat} {pc : Nat} {ls : List (Option AV)} {st : List AV} {I : MI} {L : ML} {R : MR} {F : State → Prop}  {M' : MT} {y : MethodName} {idx n : Nat} {as stk : List AV} (q : Nat) (hd : decode (mcc M) pc = .ok (.invokestatic idx, 3)) (hq : pc + 3 = q) (hw : CWS (mown M) idx y (mcc M') (mL M') (mret M') n) (hst : stk = as.reverse ++ st) (hn : as.length = n) (hr : mrk M' + 1 ≤ mrk M) (hmL : mL M' ≤ 41) (hr8 : asz st ≤ 8) (hz1 : z.1 + mmc M' ≤ mmc M) (hz2 : z.2.1 + mms M' ≤ mms M)
    (k : CT (xE X) M' z.2.2 y (as) I L R (fun r I' L' R' => V X M (z.1 + mmc M', z.2.1 + mms M', mn1 M') q ls (psh r st) I' L' R' F)) : V X M z pc ls stk I L R F := by
  subst hst
  intro ok h1 h2 H locs la hR hl hz hv
  obtain ⟨hw1, hw2⟩ := hw
  have hRm : (rmM M').frames + 1 ≤ (xR X).frames ∧ 8 + (mL M' + 11) + (rmM M').locals ≤ (xR X).locals := by
    have a1 := ok.2.2.2.2.2.2.2.2.2.1
    have a2 := ok.2.2.2.2.2.2.2.2.2.2.1
    show mrk M' + 1 ≤ _ ∧ 8 + (mL M' + 11) + 60 * mrk M' ≤ _
    omega
  have a3 := ok.2.2.2.2.2.2.2.2.2.2.2.1
  have a4 := ok.2.2.2.2.2.2.2.2.2.2.2.2.1
  have hf9 : z.1 + mmc M' ≤ (xR X).cells ∧ z.2.1 + mms M' ≤ (xR X).slots := ⟨Nat.le_trans hz1 a3, Nat.le_trans hz2 a4⟩
  have hP9 : ∀ U : State, U.heap = H → (xs X).WarmedH U.vm → PcV (xG X) z.2.2 (as) I L R (List.map (cv (xG X)) (as)).toArray U := fun U hU hW => ⟨rfl, by rw [hU]; exact hR, KF.warm hW ok.2.2.2.2.2.2.2.2.1⟩
  refine call_go (M' := M') (st := st) ok hq hl hz hv hz1 hz2 (va_runS (As := as.map (cv (xG X))) (n := n) ⟨ok.1, ok.2.1, ok.2.2.1, ok.2.2.2.1, ok.2.2.2.2.1⟩ k (va_cwS n ok.2.2.2.2.1 (goodTB (in_ap (b := []) (by exact hw1))) rfl rfl rfl hw2 hRm) ⟨PcV_blind, hP9⟩ rfl (by simpa using hn) hv.1 ?_ (lv_room (by rw [asz_sum]; exact hr8)) hd hf9)
  show List.map _ _ = _
  simp [List.map_append, List.map_reverse]
theorem s_callI {X : XT} {M : MT} {z : Nat × Nat × Nat} {pc : Nat} {ls : List (Option AV)} {st : List AV} {I : MI} {L : ML} {R : MR} {F : State → Prop} {b : Nat} {M' : MT} {y : MethodName} {idx n : Nat} {as stk : List AV} (q : Nat) (hd : decode (mcc M) pc = .ok (.invokespecial idx, 3)) (hq : pc + 3 = q) (hw : mret M' = none ∧ CWI (mown M) idx y (mcc M') (mL M') n) (hst : stk = as.reverse ++ vr b :: st) (hn : as.length = n) (hr : mrk M' + 1 ≤ mrk M) (hmL : mL M' ≤ 41) (hr8 : asz st ≤ 8) (hz1 : z.1 + mmc M' ≤ mmc M) (hz2 : z.2.1 + mms M' ≤ mms M)
    (k : CT (xE X) M' z.2.2 y (vr b :: as) I L R (fun r I' L' R' => V X M (z.1 + mmc M', z.2.1 + mms M', mn1 M') q ls (psh r st) I' L' R' F)) : V X M z pc ls stk I L R F := by
  subst hst
  intro ok h1 h2 H locs la hR hl hz hv
  obtain ⟨hw1, hw2⟩ := hw
  have hRm : (rmM M').frames + 1 ≤ (xR X).frames ∧ 8 + (mL M' + 11) + (rmM M').locals ≤ (xR X).locals := by
    have a1 := ok.2.2.2.2.2.2.2.2.2.1
    have a2 := ok.2.2.2.2.2.2.2.2.2.2.1
    show mrk M' + 1 ≤ _ ∧ 8 + (mL M' + 11) + 60 * mrk M' ≤ _
    omega
  have a3 := ok.2.2.2.2.2.2.2.2.2.2.2.1
  have a4 := ok.2.2.2.2.2.2.2.2.2.2.2.2.1
  have hf9 : z.1 + mmc M' ≤ (xR X).cells ∧ z.2.1 + mms M' ≤ (xR X).slots := ⟨Nat.le_trans hz1 a3, Nat.le_trans hz2 a4⟩
  have hP9 : ∀ U : State, U.heap = H → (xs X).WarmedH U.vm → PcV (xG X) z.2.2 (vr b :: as) I L R (List.map (cv (xG X)) (vr b :: as)).toArray U := fun U hU hW => ⟨rfl, by rw [hU]; exact hR, KF.warm hW ok.2.2.2.2.2.2.2.2.1⟩
  refine call_go (M' := M') (st := st) ok hq hl hz hv hz1 hz2 (va_runI (As := as.map (cv (xG X))) (n := n) ⟨ok.1, ok.2.1, ok.2.2.1, ok.2.2.2.1, ok.2.2.2.2.1⟩ k (by obtain ⟨hw3, hw4, hw5⟩ := hw2; have hk9 := in_cons (hw3 _ (by simp : Cond.code y (mcc M') (mL M') none ∈ _)); exact cwI n ok.2.2.2.2.1 (goodTB (by rw [show wsM M' y = .code y (mcc M') (mL M') none :: TB by unfold wsM; rw [hw1]]; exact hk9)) (show wsM M' y = .code y (mcc M') (mL M') none :: TB by unfold wsM; rw [hw1]) rfl rfl (ok.2.2.2.2.1 _ (hw3 _ (by simp))) (ok.2.2.2.2.1 _ (hw3 _ (by simp))) (ok.2.2.2.2.1 _ (hw3 _ (by simp))) hw4 hw5 hRm) ⟨PcV_blind, hP9⟩ rfl (by simpa using hn) hv.1 ?_ (lv_room (by rw [asz_sum]; exact hr8)) hd hf9)
  show List.map _ _ = _
  simp [List.map_append, List.map_reverse]; rfl
theorem s_callIN {X : XT} {M : MT} {z : Nat × Nat × Nat} {pc : Nat} {ls : List (Option AV)} {st : List AV} {I : MI} {L : ML} {R : MR} {F : State → Prop} {b : Nat} {host : String} {M' : MT} {y : MethodName} {idx n : Nat} {as stk : List AV} (q : Nat) (hd : decode (mcc M) pc = .ok (.invokespecial idx, 3)) (hq : pc + 3 = q) (hw : mret M' = none ∧ y.name = "<init>" ∧ CWN (mown M) idx host y (mcc M') (mL M') none (.instanceMethod y) n) (hst : stk = as.reverse ++ vr b :: st) (hn : as.length = n) (hr : mrk M' + 1 ≤ mrk M) (hmL : mL M' ≤ 41) (hr8 : asz st ≤ 8) (hz1 : z.1 + mmc M' ≤ mmc M) (hz2 : z.2.1 + mms M' ≤ mms M)
    (k : CT (xE X) M' z.2.2 y (vr b :: as) I L R (fun r I' L' R' => V X M (z.1 + mmc M', z.2.1 + mms M', mn1 M') q ls (psh r st) I' L' R' F)) : V X M z pc ls stk I L R F := by
  subst hst
  intro ok h1 h2 H locs la hR hl hz hv
  obtain ⟨hw1, hw2⟩ := hw
  have hRm : (rmM M').frames + 1 ≤ (xR X).frames ∧ 8 + (mL M' + 11) + (rmM M').locals ≤ (xR X).locals := by
    have a1 := ok.2.2.2.2.2.2.2.2.2.1
    have a2 := ok.2.2.2.2.2.2.2.2.2.2.1
    show mrk M' + 1 ≤ _ ∧ 8 + (mL M' + 11) + 60 * mrk M' ≤ _
    omega
  have a3 := ok.2.2.2.2.2.2.2.2.2.2.2.1
  have a4 := ok.2.2.2.2.2.2.2.2.2.2.2.2.1
  have hf9 : z.1 + mmc M' ≤ (xR X).cells ∧ z.2.1 + mms M' ≤ (xR X).slots := ⟨Nat.le_trans hz1 a3, Nat.le_trans hz2 a4⟩
  have hP9 : ∀ U : State, U.heap = H → (xs X).WarmedH U.vm → PcV (xG X) z.2.2 (vr b :: as) I L R (List.map (cv (xG X)) (vr b :: as)).toArray U := fun U hU hW => ⟨rfl, by rw [hU]; exact hR, KF.warm hW ok.2.2.2.2.2.2.2.2.1⟩
  refine call_go (M' := M') (st := st) ok hq hl hz hv hz1 hz2 (va_runIN (As := as.map (cv (xG X))) (n := n) ⟨ok.1, ok.2.1, ok.2.2.1, ok.2.2.2.1, ok.2.2.2.2.1⟩ k (by obtain ⟨hw3, hw4, hw5, hw6⟩ := hw2; have hk9 := in_cons (hw4 _ (by simp : Cond.code y (mcc M') (mL M') none ∈ _)); exact ⟨va_cnB n ok.2.2.2.2.1 (goodTB (by rw [show wsM M' y = .code y (mcc M') (mL M') none :: TB by unfold wsM; rw [hw1]]; exact hk9)) (show wsM M' y = .code y (mcc M') (mL M') none :: TB by unfold wsM; rw [hw1]) rfl rfl (ok.2.2.2.2.2.2.2.2.1.2.1 _ hw5) (ok.2.2.2.2.1 _ (hw4 _ (by simp))) hw6 hRm, hw3, ok.2.2.2.2.1 _ (hw4 _ (by simp))⟩) ⟨PcV_blind, hP9⟩ rfl (by simpa using hn) hv.1 ?_ (lv_room (by rw [asz_sum]; exact hr8)) hd hf9)
  show List.map _ _ = _
  simp [List.map_append, List.map_reverse]; rfl
theorem s_callSN {X : XT} {M : MT} {z : Nat × Nat × Nat} {pc : Nat} {ls : List (Option AV)} {st : List AV} {I : MI} {L : ML} {R : MR} {F : State → Prop} {host : String} {M' : MT} {y : MethodName} {idx n : Nat} {as stk : List AV} (q : Nat) (hd : decode (mcc M) pc = .ok (.invokestatic idx, 3)) (hq : pc + 3 = q) (hw : CWN (mown M) idx host y (mcc M') (mL M') (mret M') (.static y) n) (hst : stk = as.reverse ++ st) (hn : as.length = n) (hr : mrk M' + 1 ≤ mrk M) (hmL : mL M' ≤ 41) (hr8 : asz st ≤ 8) (hz1 : z.1 + mmc M' ≤ mmc M) (hz2 : z.2.1 + mms M' ≤ mms M)
    (k : CT (xE X) M' z.2.2 y (as) I L R (fun r I' L' R' => V X M (z.1 + mmc M', z.2.1 + mms M', mn1 M') q ls (psh r st) I' L' R' F)) : V X M z pc ls stk I L R F := by
  subst hst
  intro ok h1 h2 H locs la hR hl hz hv
  obtain ⟨hw1, hw2⟩ := hw
  have hRm : (rmM M').frames + 1 ≤ (xR X).frames ∧ 8 + (mL M' + 11) + (rmM M').locals ≤ (xR X).locals := by
    have a1 := ok.2.2.2.2.2.2.2.2.2.1
    have a2 := ok.2.2.2.2.2.2.2.2.2.2.1
    show mrk M' + 1 ≤ _ ∧ 8 + (mL M' + 11) + 60 * mrk M' ≤ _
    omega
  have a3 := ok.2.2.2.2.2.2.2.2.2.2.2.1
  have a4 := ok.2.2.2.2.2.2.2.2.2.2.2.2.1
  have hf9 : z.1 + mmc M' ≤ (xR X).cells ∧ z.2.1 + mms M' ≤ (xR X).slots := ⟨Nat.le_trans hz1 a3, Nat.le_trans hz2 a4⟩
  have hP9 : ∀ U : State, U.heap = H → (xs X).WarmedH U.vm → PcV (xG X) z.2.2 (as) I L R (List.map (cv (xG X)) (as)).toArray U := fun U hU hW => ⟨rfl, by rw [hU]; exact hR, KF.warm hW ok.2.2.2.2.2.2.2.2.1⟩
  refine call_go (M' := M') (st := st) ok hq hl hz hv hz1 hz2 (va_runSN (As := as.map (cv (xG X))) (n := n) ⟨ok.1, ok.2.1, ok.2.2.1, ok.2.2.2.1, ok.2.2.2.2.1⟩ k (by obtain ⟨hw5, hw6⟩ := hw2; exact ⟨va_cnB n ok.2.2.2.2.1 (goodTB (in_cons (hw1 _ (by simp)))) rfl rfl rfl (ok.2.2.2.2.2.2.2.2.1.2.1 _ hw5) (ok.2.2.2.2.1 _ (hw1 _ (by simp))) hw6 hRm, ok.2.2.2.2.1 _ (hw1 _ (by simp)), trivial⟩) ⟨PcV_blind, hP9⟩ rfl (by simpa using hn) hv.1 ?_ (lv_room (by rw [asz_sum]; exact hr8)) hd hf9)
  show List.map _ _ = _
  simp [List.map_append, List.map_reverse]
theorem s_callU {X : XT} {M : MT} {z : Nat × Nat × Nat} {pc : Nat} {ls : List (Option AV)} {st : List AV} {I : MI} {L : ML} {R : MR} {F : State → Prop} {C owner : String} {x9 : MethodName} {b ci N : Nat} {C9 : u_T}  {M' : MT} {y : MethodName} {idx n : Nat} {as stk : List AV} (q : Nat) (hd : decode (mcc M) pc = .ok (.invokevirtual idx, 3)) (hq : pc + 3 = q) (hw : CWU (mown M) idx C owner x9 y (mcc M') (mL M') (mret M') n) (hst : stk = as.reverse ++ vr b :: st) (hn : as.length = n) (hs : sh b = (ci, N)) (hC : vwCl[ci]? = some (C, C9, N)) (hci : ci < 20) (hb : b < z.2.2) (hr : mrk M' + 1 ≤ mrk M) (hmL : mL M' ≤ 41) (hr8 : asz st ≤ 8) (hz1 : z.1 + mmc M' ≤ mmc M) (hz2 : z.2.1 + mms M' ≤ mms M)
    (k : CT (xE X) M' z.2.2 y (vr b :: as) I L R (fun r I' L' R' => V X M (z.1 + mmc M', z.2.1 + mms M', mn1 M') q ls (psh r st) I' L' R' F)) : V X M z pc ls stk I L R F := by
  subst hst
  intro ok h1 h2 H locs la hR hl hz hv
  obtain ⟨hw1, hw2⟩ := hw
  have hRm : (rmM M').frames + 1 ≤ (xR X).frames ∧ 8 + (mL M' + 11) + (rmM M').locals ≤ (xR X).locals := by
    have a1 := ok.2.2.2.2.2.2.2.2.2.1
    have a2 := ok.2.2.2.2.2.2.2.2.2.2.1
    show mrk M' + 1 ≤ _ ∧ 8 + (mL M' + 11) + 60 * mrk M' ≤ _
    omega
  have a3 := ok.2.2.2.2.2.2.2.2.2.2.2.1
  have a4 := ok.2.2.2.2.2.2.2.2.2.2.2.2.1
  have hf9 : z.1 + mmc M' ≤ (xR X).cells ∧ z.2.1 + mms M' ≤ (xR X).slots := ⟨Nat.le_trans hz1 a3, Nat.le_trans hz2 a4⟩
  have hP9 : ∀ U : State, U.heap = H → (xs X).WarmedH U.vm → PcV (xG X) z.2.2 (vr b :: as) I L R (List.map (cv (xG X)) (vr b :: as)).toArray U := fun U hU hW => ⟨rfl, by rw [hU]; exact hR, KF.warm hW ok.2.2.2.2.2.2.2.2.1⟩
  have hPo := hR.one hb
  rw [ent_ob hs hci] at hPo
  have hrec := va_recv ok.2.2.2.2.2.2.2.2.1.1 hPo hC (q0 := 0) rfl
  refine call_go (M' := M') (st := st) ok hq hl hz hv hz1 hz2 (va_runU (As := as.map (cv (xG X))) (n := n) ⟨ok.1, ok.2.1, ok.2.2.1, ok.2.2.2.1, ok.2.2.2.2.1⟩ k (va_cwU n ok.2.2.2.2.1 (goodTB (in_ap (b := []) (by exact hw1))) rfl rfl rfl hw2.1 hw2.2 hRm) ⟨PcV_blind, hrec, hP9⟩ rfl (by simpa using hn) hv.1 ?_ (lv_room (by rw [asz_sum]; exact hr8)) hd hf9)
  show List.map _ _ = _
  simp [List.map_append, List.map_reverse]; rfl
theorem s_callA {X : XT} {M : MT} {z : Nat × Nat × Nat} {pc : Nat} {ls : List (Option AV)} {st : List AV} {I : MI} {L : ML} {R : MR} {F : State → Prop} {C owner : String} {x9 : MethodName} {b ci N : Nat} {C9 : u_T}  {M' : MT} {y : MethodName} {idx n : Nat} {as stk : List AV} (q : Nat) (hd : decode (mcc M) pc = .ok (.invokevirtual idx, 3)) (hq : pc + 3 = q) (hw : CWA (mown M) idx C owner x9 y (mcc M') (mL M') (mret M') n) (hst : stk = as.reverse ++ vr b :: st) (hn : as.length = n) (hs : sh b = (ci, N)) (hC : vwCl[ci]? = some (C, C9, N)) (hci : ci < 20) (hb : b < z.2.2) (hr : mrk M' + 1 ≤ mrk M) (hmL : mL M' ≤ 41) (hr8 : asz st ≤ 8) (hz1 : z.1 + mmc M' ≤ mmc M) (hz2 : z.2.1 + mms M' ≤ mms M)
    (k : CT (xE X) M' z.2.2 y (vr b :: as) I L R (fun r I' L' R' => V X M (z.1 + mmc M', z.2.1 + mms M', mn1 M') q ls (psh r st) I' L' R' F)) : V X M z pc ls stk I L R F := by
  subst hst
  intro ok h1 h2 H locs la hR hl hz hv
  obtain ⟨hw1, hw2⟩ := hw
  have hRm : (rmM M').frames + 1 ≤ (xR X).frames ∧ 8 + (mL M' + 11) + (rmM M').locals ≤ (xR X).locals := by
    have a1 := ok.2.2.2.2.2.2.2.2.2.1
    have a2 := ok.2.2.2.2.2.2.2.2.2.2.1
    show mrk M' + 1 ≤ _ ∧ 8 + (mL M' + 11) + 60 * mrk M' ≤ _
    omega
  have a3 := ok.2.2.2.2.2.2.2.2.2.2.2.1
  have a4 := ok.2.2.2.2.2.2.2.2.2.2.2.2.1
  have hf9 : z.1 + mmc M' ≤ (xR X).cells ∧ z.2.1 + mms M' ≤ (xR X).slots := ⟨Nat.le_trans hz1 a3, Nat.le_trans hz2 a4⟩
  have hP9 : ∀ U : State, U.heap = H → (xs X).WarmedH U.vm → PcV (xG X) z.2.2 (vr b :: as) I L R (List.map (cv (xG X)) (vr b :: as)).toArray U := fun U hU hW => ⟨rfl, by rw [hU]; exact hR, KF.warm hW ok.2.2.2.2.2.2.2.2.1⟩
  have hPo := hR.one hb
  rw [ent_ob hs hci] at hPo
  have hrec := va_recv ok.2.2.2.2.2.2.2.2.1.1 hPo hC (q0 := 0) rfl
  refine call_go (M' := M') (st := st) ok hq hl hz hv hz1 hz2 (va_runU (As := as.map (cv (xG X))) (n := n) ⟨ok.1, ok.2.1, ok.2.2.1, ok.2.2.2.1, ok.2.2.2.2.1⟩ k (va_cwA n ok.2.2.2.2.1 (goodTB (in_ap (b := []) (by exact hw1))) rfl rfl rfl (ok.2.2.2.2.2.2.2.2.1.2.1 _ hw2.1) hw2.2 hRm) ⟨PcV_blind, hrec, hP9⟩ rfl (by simpa using hn) hv.1 ?_ (lv_room (by rw [asz_sum]; exact hr8)) hd hf9)
  show List.map _ _ = _
  simp [List.map_append, List.map_reverse]; rfl
