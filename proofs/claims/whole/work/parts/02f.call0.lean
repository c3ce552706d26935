theorem z_same {z : Nat × Nat × Nat} {M' : MT} (h0 : mmc M' = 0 ∧ mms M' = 0 ∧ mn1 M' = z.2.2) : (z.1 + mmc M', z.2.1 + mms M', mn1 M') = z := by
  rw [h0.1, h0.2.1, h0.2.2]
  rfl
theorem s_callV0 {X : XT} {M : MT} {z : Nat × Nat × Nat} {pc : Nat} {ls : List (Option AV)} {st : List AV} {I : MI} {L : ML} {R : MR} {F : State → Prop} {C : String} {b ci N : Nat} {C9 : u_T}  {M' : MT} {y : MethodName} {idx n : Nat} {as stk : List AV} (q : Nat) (hd : decode (mcc M) pc = .ok (.invokevirtual idx, 3)) (hq : pc + 3 = q) (hw : CWV (mown M) idx C y (mcc M') (mL M') (mret M') n) (hst : stk = as.reverse ++ vr b :: st) (hn : as.length = n) (hs : sh b = (ci, N)) (hC : vwCl[ci]? = some (C, C9, N)) (hci : ci < 20) (hb : b < z.2.2) (hr : mrk M' + 1 ≤ mrk M) (hmL : mL M' ≤ 41) (hr8 : asz st ≤ 8) (h0 : mmc M' = 0 ∧ mms M' = 0 ∧ mn1 M' = z.2.2)
    (k : CT (xE X) M' z.2.2 y (vr b :: as) I L R (fun r I' L' R' => V X M z q ls (psh r st) I' L' R' F)) : V X M z pc ls stk I L R F := by
  intro ok h1 h2
  exact s_callV q hd hq hw hst hn hs hC hci hb hr hmL hr8 (by rw [h0.1]; exact h1) (by rw [h0.2.1]; exact h2) (by rw [z_same h0]; exact k) ok h1 h2
theorem s_callS0 {X : XT} {M : MT} {z : Nat × Nat × Nat} {pc : Nat} {ls : List (Option AV)} {st : List AV} {I : MI} {L : ML} {R : MR} {F : State → Prop}  {M' : MT} {y : MethodName} {idx n : Nat} {as stk : List AV} (q : Nat) (hd : decode (mcc M) pc = .ok (.invokestatic idx, 3)) (hq : pc + 3 = q) (hw : CWS (mown M) idx y (mcc M') (mL M') (mret M') n) (hst : stk = as.reverse ++ st) (hn : as.length = n) (hr : mrk M' + 1 ≤ mrk M) (hmL : mL M' ≤ 41) (hr8 : asz st ≤ 8) (h0 : mmc M' = 0 ∧ mms M' = 0 ∧ mn1 M' = z.2.2)
    (k : CT (xE X) M' z.2.2 y (as) I L R (fun r I' L' R' => V X M z q ls (psh r st) I' L' R' F)) : V X M z pc ls stk I L R F := by
  intro ok h1 h2
  exact s_callS q hd hq hw hst hn hr hmL hr8 (by rw [h0.1]; exact h1) (by rw [h0.2.1]; exact h2) (by rw [z_same h0]; exact k) ok h1 h2
theorem s_callSN0 {X : XT} {M : MT} {z : Nat × Nat × Nat} {pc : Nat} {ls : List (Option AV)} {st : List AV} {I : MI} {L : ML} {R : MR} {F : State → Prop} {host : String} {M' : MT} {y : MethodName} {idx n : Nat} {as stk : List AV} (q : Nat) (hd : decode (mcc M) pc = .ok (.invokestatic idx, 3)) (hq : pc + 3 = q) (hw : CWN (mown M) idx host y (mcc M') (mL M') (mret M') (.static y) n) (hst : stk = as.reverse ++ st) (hn : as.length = n) (hr : mrk M' + 1 ≤ mrk M) (hmL : mL M' ≤ 41) (hr8 : asz st ≤ 8) (h0 : mmc M' = 0 ∧ mms M' = 0 ∧ mn1 M' = z.2.2)
    (k : CT (xE X) M' z.2.2 y (as) I L R (fun r I' L' R' => V X M z q ls (psh r st) I' L' R' F)) : V X M z pc ls stk I L R F := by
  intro ok h1 h2
  exact s_callSN q hd hq hw hst hn hr hmL hr8 (by rw [h0.1]; exact h1) (by rw [h0.2.1]; exact h2) (by rw [z_same h0]; exact k) ok h1 h2
theorem s_callU0 {X : XT} {M : MT} {z : Nat × Nat × Nat} {pc : Nat} {ls : List (Option AV)} {st : List AV} {I : MI} {L : ML} {R : MR} {F : State → Prop} {C owner : String} {x9 : MethodName} {b ci N : Nat} {C9 : u_T}  {M' : MT} {y : MethodName} {idx n : Nat} {as stk : List AV} (q : Nat) (hd : decode (mcc M) pc = .ok (.invokevirtual idx, 3)) (hq : pc + 3 = q) (hw : CWU (mown M) idx C owner x9 y (mcc M') (mL M') (mret M') n) (hst : stk = as.reverse ++ vr b :: st) (hn : as.length = n) (hs : sh b = (ci, N)) (hC : vwCl[ci]? = some (C, C9, N)) (hci : ci < 20) (hb : b < z.2.2) (hr : mrk M' + 1 ≤ mrk M) (hmL : mL M' ≤ 41) (hr8 : asz st ≤ 8) (h0 : mmc M' = 0 ∧ mms M' = 0 ∧ mn1 M' = z.2.2)
    (k : CT (xE X) M' z.2.2 y (vr b :: as) I L R (fun r I' L' R' => V X M z q ls (psh r st) I' L' R' F)) : V X M z pc ls stk I L R F := by
  intro ok h1 h2
  exact s_callU q hd hq hw hst hn hs hC hci hb hr hmL hr8 (by rw [h0.1]; exact h1) (by rw [h0.2.1]; exact h2) (by rw [z_same h0]; exact k) ok h1 h2
theorem s_callA0 {X : XT} {M : MT} {z : Nat × Nat × Nat} {pc : Nat} {ls : List (Option AV)} {st : List AV} {I : MI} {L : ML} {R : MR} {F : State → Prop} {C owner : String} {x9 : MethodName} {b ci N : Nat} {C9 : u_T}  {M' : MT} {y : MethodName} {idx n : Nat} {as stk : List AV} (q : Nat) (hd : decode (mcc M) pc = .ok (.invokevirtual idx, 3)) (hq : pc + 3 = q) (hw : CWA (mown M) idx C owner x9 y (mcc M') (mL M') (mret M') n) (hst : stk = as.reverse ++ vr b :: st) (hn : as.length = n) (hs : sh b = (ci, N)) (hC : vwCl[ci]? = some (C, C9, N)) (hci : ci < 20) (hb : b < z.2.2) (hr : mrk M' + 1 ≤ mrk M) (hmL : mL M' ≤ 41) (hr8 : asz st ≤ 8) (h0 : mmc M' = 0 ∧ mms M' = 0 ∧ mn1 M' = z.2.2)
    (k : CT (xE X) M' z.2.2 y (vr b :: as) I L R (fun r I' L' R' => V X M z q ls (psh r st) I' L' R' F)) : V X M z pc ls stk I L R F := by
  intro ok h1 h2
  exact s_callA q hd hq hw hst hn hs hC hci hb hr hmL hr8 (by rw [h0.1]; exact h1) (by rw [h0.2.1]; exact h2) (by rw [z_same h0]; exact k) ok h1 h2
theorem s_callQ0 {X : XT} {M : MT} {z : Nat × Nat × Nat} {pc : Nat} {ls : List (Option AV)} {st : List AV} {I : MI} {L : ML} {R : MR} {F : State → Prop} {M' : MT} {y : MethodName} {idx n kk : Nat} {q9 : ST0} {as stk : List AV} (q : Nat) (hd : decode (mcc M) pc = .ok (.invokevirtual idx, 3)) (hq : pc + 3 = q) (hw : CWV (mown M) idx "java/lang/String" y (mcc M') (mL M') (mret M') n) (hst : stk = as.reverse ++ vq 0 kk :: st) (hn : as.length = n) (hk : STRS[kk]? = some q9) (hr : mrk M' + 1 ≤ mrk M) (hmL : mL M' ≤ 41) (hr8 : asz st ≤ 8) (h0 : mmc M' = 0 ∧ mms M' = 0 ∧ mn1 M' = z.2.2)
    (k : CT (xE X) M' z.2.2 y (vq 0 kk :: as) I L R (fun r I' L' R' => V X M z q ls (psh r st) I' L' R' F)) : V X M z pc ls stk I L R F := by
  subst hst
  intro ok h1 h2 H locs la hR hl hz hv
  have hz1 : z.1 + mmc M' ≤ mmc M := by rw [h0.1]; exact h1
  have hz2 : z.2.1 + mms M' ≤ mms M := by rw [h0.2.1]; exact h2
  obtain ⟨hw1, hw2⟩ := hw
  have hRm : (rmM M').frames + 1 ≤ (xR X).frames ∧ 8 + (mL M' + 11) + (rmM M').locals ≤ (xR X).locals := by
    have a1 := ok.2.2.2.2.2.2.2.2.2.1
    have a2 := ok.2.2.2.2.2.2.2.2.2.2.1
    show mrk M' + 1 ≤ _ ∧ 8 + (mL M' + 11) + 60 * mrk M' ≤ _
    omega
  have a3 := ok.2.2.2.2.2.2.2.2.2.2.2.1
  have a4 := ok.2.2.2.2.2.2.2.2.2.2.2.2.1
  have hf9 : z.1 + mmc M' ≤ (xR X).cells ∧ z.2.1 + mms M' ≤ (xR X).slots := ⟨Nat.le_trans hz1 a3, Nat.le_trans hz2 a4⟩
  have hP9 : ∀ U : State, U.heap = H → (xs X).WarmedH U.vm → PcV (xG X) z.2.2 (vq 0 kk :: as) I L R (List.map (cv (xG X)) (vq 0 kk :: as)).toArray U := fun U hU hW => ⟨rfl, by rw [hU]; exact hR, KF.warm hW ok.2.2.2.2.2.2.2.2.1⟩
  have hS9 : va_S (gA9 (xG X)) (gH (xG X)) H locs ∨ True := Or.inr trivial
  obtain ⟨cell, g1, g2, g3, g4⟩ := (ok.2.2.2.2.2.2.2.2.1.2.2.1 kk q9 hk).2.1
  have hrec : ∃ cell : Cell, H[gs (xG X) 0 kk]? = some cell ∧ cell.vm.isStatics = false ∧ (xs X).vm.findClass "java/lang/String" = some cell.cls := ⟨cell, by rw [hR.2.1 _ (Nat.not_le.mp g4)]; exact g1, g2, g3⟩
  have k' := k
  refine call_go (M' := M') (st := st) ok hq hl hz hv hz1 hz2 (va_runV (As := as.map (cv (xG X))) (n := n) ⟨ok.1, ok.2.1, ok.2.2.1, ok.2.2.2.1, ok.2.2.2.2.1⟩ (by rw [z_same h0]; exact k') (cwV n ok.2.2.2.2.1 (goodTB (in_ap (b := []) (by exact hw1))) rfl rfl rfl hw2 hRm) ⟨PcV_blind, hrec, hP9⟩ rfl (by simpa using hn) hv.1 ?_ (lv_room (by rw [asz_sum]; exact hr8)) hd hf9)
  show List.map _ _ = _
  simp [List.map_append, List.map_reverse]; rfl
theorem s_obj {X : XT} {M : MT} {z : Nat × Nat × Nat} {pc : Nat} {ls : List (Option AV)} {st : List AV} {I : MI} {L : ML} {R : MR} {F : State → Prop} {a idx : Nat} (q : Nat) (hd : decode (mcc M) pc = .ok (.invokespecial idx, 3)) (hq : pc + 3 = q) (hw : Cond.methodLink (mown M) idx Lib.objectInit ∈ TB) (hw2 : Cond.instanceMethod Lib.objectInit ∈ TB) (hw3 : Cond.code Lib.objectInit ⟨#[0xb1]⟩ 1 none ∈ TB) (hr : 1 ≤ mrk M) (hr8 : asz st ≤ 8) (k : V X M z q ls st I L R F) : V X M z pc ls (vr a :: st) I L R F := by
  subst hq
  intro ok h1 h2 H locs la hR hl hz hv
  have a1 := ok.2.2.2.2.2.2.2.2.2.1
  have a2 := ok.2.2.2.2.2.2.2.2.2.2.1
  refine W.objInit ok.1 ok.2.1 ok.2.2.2.1 (ok.2.2.2.2.1 _ hw) (ok.2.2.2.2.1 _ hw2) (ok.2.2.2.2.1 _ hw3) rfl (by rw [ok.2.2.1]; exact hv.1) rfl hd (by omega) ?_ (k ok h1 h2 H locs la hR hl hz hv)
  have := lv_room (m := xm X) (pc := pc) (ls := la) (st := st.map (cv (xG X))) (rest := vr a |> fun v => [cv (xG X) v]) (by rw [asz_sum]; exact hr8)
  show 2 * 0 + _ + 12 ≤ _
  have h9 := asz_sum (xG X) st
  omega
