/-! what may throw: OnePlays.led, and the law's own led that catches it -/
def NSE : String := "java/util/NoSuchElementException"
def NSEs : List String := ["java/lang/RuntimeException", "java/lang/Exception"]
/-- what a throw needs of the machine's start -/
def KT (G : GT) (U : State) : Prop := vx_Zq Bundle.tN "UNASSIGNED_STACK" Bundle.steD (gA9 G) U (gH G) ∧ vx_Zq Bundle.tN "SUPPRESSED_SENTINEL" Bundle.listD (gA9 G) U (gH G) ∧ va_Nw (.castable NSE NSE) U
theorem KT.warm {G : GT} {s U : State} (hW : s.WarmedH U.vm) (h : KT G s) : KT G U := ⟨vx_Zq.moved hW.alike h.1, vx_Zq.moved hW.alike h.2.1, va_Nw.warmC hW h.2.2⟩
def PcX (G : GT) (n0 : Nat) (as : List AV) (I : MI) (L : ML) (R : MR) : Array Value → State → Prop := fun v U => PcV G n0 as I L R v U ∧ KT G U
theorem PcX_blind {G : GT} {n0 : Nat} {as : List AV} {I : MI} {L : ML} {R : MR} : FrameBlind (PcX G n0 as I L R) := by
  rintro a U g mk ⟨h1, h2⟩
  exact ⟨PcV_blind a U g mk h1, KT.warm (U := U.calling g mk a) (State.WarmedH.refl U) h2⟩
def XcV (G : GT) (n1 : Nat) (QX : MI → ML → MR → Prop) : String → State → State → Prop := fun E st t => E = NSE ∧ (∃ I L R, QX I L R ∧ Rep G n1 I L R t.heap) ∧ st.heap.size ≤ t.heap.size
def CTX (E : ET) (M : MT) (n0 : Nat) (y : MethodName) (as : List AV) (I : MI) (L : ML) (R : MR) (Q : Option AV → MI → ML → MR → Prop) (QX : MI → ML → MR → Prop) : Prop :=
  vx_Met E.1 y (wsM M y) (rmM M) (PcX E.2 n0 as I L R) (QcV E.2 (mn1 M) Q) (XcV E.2 (mn1 M) QX) (mmc M) (mms M) (fun q => gb E.2 ≤ q)
def RTX (X : XT) (M : MT) (Q : Option AV → MI → ML → MR → Prop) (QX : MI → ML → MR → Prop) : State → Prop := vx_MQ (xb X) (QcV (xG X) (mn1 M) Q) (XcV (xG X) (mn1 M) QX) (xa X) (xs X) (mmc M) (mms M) (fun q => gb (xG X) ≤ q)
/-- a contract of a method that may throw, out of a walk of its body -/
theorem CTX_of {E : ET} {M : MT} {n0 : Nat} {y : MethodName} {as : List AV} {I : MI} {L : ML} {R : MR} {Q : Option AV → MI → ML → MR → Prop} {QX : MI → ML → MR → Prop} (hy : plainName y.cls = true) (hc : mown M = y.cls) (hi : mini M = true → y.name = "<init>") (hls : asz as ≤ mL M)
    (body : ∀ X, (∀ x ∈ (xc X).exceptionTable.toList, False) → KT (xG X) (xs X) → xl X = E.1 → V X M (0, 0, n0) 0 (padl (mL M) (entl as)) [] I L R (RTX X M Q QX)) : CTX E M n0 y as I L R Q QX := by
  refine vx_ofW (cc := mcc M) (maxL := mL M) (ret := mret M) hy rfl ?_
  intro p e s m args below meth c s₁ B hml ht hv
  obtain ⟨⟨rfl, hR, hK⟩, hKT⟩ := hv
  have hts := atoms_spec (ws := wsM M y) B.pre
  have hown : s.vm.findClass y.cls = some m.cls := findClass_of_methodNamed B.named
  have hX := body (p, E.1, e, rmM M, s, m, (as.map (cv E.2)).toArray, below, meth, c, E.2) ht hKT rfl
  have ho : MOk (p, E.1, e, rmM M, s, m, (as.map (cv E.2)).toArray, below, meth, c, E.2) M :=
    ⟨B.exec, B.bytes, hml, by rw [hc]; exact hown, fun w hw => hts w (List.mem_cons_of_mem _ hw), B.returns, B.notSynchronized, fun h => by rw [← hi h]; exact (name_of_methodNamed B.named B.method).1, hK, Nat.le_refl _, Nat.le_refl _, Nat.le_refl _, Nat.le_refl _, hR.2.1⟩
  have hl := lv_entry (as.map (cv E.2)) (n := mL M) (by rw [lg_sl_len]; exact hls)
  rw [lg_entry_eq]
  refine hX ho (Nat.zero_le _) (Nat.zero_le _) s.heap [] _ hR (fun q h => by cases h) (Nat.le_refl _) (lv_sup hl ?_)
  intro q hq
  obtain ⟨v, h1, h2⟩ := lsl_mem.mp hq
  exact entl_args E.2 as 0 q ⟨v, lk_padl _ _ _ _ h1, h2, Nat.zero_le _⟩
/-- an ordinary end of it -/
theorem V.rtx {X : XT} {M : MT} {z : Nat × Nat × Nat} {pc : Nat} {ls : List (Option AV)} {st : List AV} {I : MI} {L : ML} {R : MR} {Q : Option AV → MI → ML → MR → Prop} {QX : MI → ML → MR → Prop} (h : V X M z pc ls st I L R (RT X M Q)) : V X M z pc ls st I L R (RTX X M Q QX) := by
  intro ok h1 h2 H locs la hR hl hz hv
  exact vx_ret (h ok h1 h2 H locs la hR hl hz hv)
/-- the heap has only grown -/
theorem Rep.grow {G : GT} {I : MI} {L : ML} {R : MR} {H H' : Heap} (h : Rep G 161 I L R H) (hsz : H.size ≤ H'.size) (hold : ∀ q, q < H.size → H'[q]? = H[q]?) : Rep G 161 I L R H' := by
  obtain ⟨⟨h1, h2⟩, h3, h4, h5⟩ := h
  refine ⟨⟨by omega, fun z => absurd z (Nat.lt_irrefl _)⟩, fun q hq => ?_, fun c hc => ?_, h5⟩
  · rw [hold q (by omega)]; exact h3 q hq
  · exact (h4 c hc).kept (hold _ (by show gb G + c < H.size; omega))
theorem xt_TB : ∀ w ∈ (vx_at0 RX11 372 NSE NSEs).filter goodWord, w ∈ lw_tbl := by decide +kernel
theorem xt_B : ∀ w ∈ (vx_at0 RX11 372 NSE NSEs).filter (fun w => !goodWord w), w ∈ [Cond.castable NSE NSE, .declares (Bundle.init0 "java/lang/RuntimeException"), .declares (Bundle.init0 "java/lang/Exception"), .declares (Bundle.init0 "java/lang/Throwable")] := by decide +kernel
theorem xt_good : ∀ w ∈ Cond.classLink RX11 370 NSE :: Cond.initialized NSE :: vx_at0 RX11 372 NSE NSEs, vx_ot w = true := by decide +kernel
theorem xt_1 : Cond.declares (Bundle.init0 "java/lang/RuntimeException") ∈ NWL := NWL_of (by decide +kernel) rfl
theorem xt_2 : Cond.declares (Bundle.init0 "java/lang/Exception") ∈ NWL := NWL_of (by decide +kernel) rfl
theorem xt_3 : Cond.declares (Bundle.init0 "java/lang/Throwable") ∈ NWL := NWL_of (by decide +kernel) rfl
theorem xt_k : Cond.classLink RX11 370 NSE ∈ TB := TB_of (by decide +kernel) rfl
theorem xt_i : Cond.initialized NSE ∈ TB := TB_of (by decide +kernel) rfl
theorem xt_l : Cond.classLink RL 13 NSE ∈ TB := TB_of (by decide +kernel) rfl
abbrev M_X11_ledX : MT := (cX11_led, RX11, 9, 4, (some .int), false, 1, 6, 161)
/-- 'throw new NoSuchElementException()' in OnePlays.led -/
theorem s_thr {X : XT} {ls : List (Option AV)} {I : MI} {L : ML} {R : MR} {Q : Option AV → MI → ML → MR → Prop} {QX : MI → ML → MR → Prop} (ht : ∀ x ∈ (xc X).exceptionTable.toList, False) (hKT : KT (xG X) (xs X)) (hfl : (xl X).stackTraces = false) (hQ : QX I L R) : V X M_X11_ledX z0 33 ls [] I L R (RTX X M_X11_ledX Q QX) := by
  intro ok h1 h2 H locs la hR hl hz hv
  have hS : va_S (gA9 (xG X)) (xs X).heap H locs := ⟨hz, fun q hq hA => by
    have hq9 : q < gb (xG X) := Nat.not_le.mp hA
    rw [hR.2.1 q hq9, ok.2.2.2.2.2.2.2.2.2.2.2.2.2 q hq9], hl⟩
  have hkp : ∀ a : Nat, a < (gH (xG X)).size → ¬ gA9 (xG X) a → (xs X).heap[a]? = (gH (xG X))[a]? := fun a _ hA => ok.2.2.2.2.2.2.2.2.2.2.2.2.2 a (Nat.not_le.mp hA)
  have a1 := ok.2.2.2.2.2.2.2.2.2.1
  have a2 := ok.2.2.2.2.2.2.2.2.2.2.1
  have a3 := ok.2.2.2.2.2.2.2.2.2.2.2.1
  have a4 := ok.2.2.2.2.2.2.2.2.2.2.2.2.1
  have a1' : 9 ≤ (xR X).frames := a1
  have a2' : 60 * 9 ≤ (xR X).locals := a2
  have a3' : 1 ≤ (xR X).cells := a3
  have a4' : 6 ≤ (xR X).slots := a4
  refine vx_throw0 (own := RX11) (cls := NSE) (names := NSEs) (ik := 370) (ic := 372) (A := gA9 (xG X)) ok.1 ok.2.1 hfl ok.2.2.2.1 (by decide +kernel) (by decide +kernel) (ok.2.2.2.2.1 _ xt_k) (ok.2.2.2.2.1 _ xt_i)
    (vx_hat (fun w hw => ok.2.2.2.2.1 w (TB_of (xt_TB w hw) (List.mem_filter.mp hw).2)) xt_B (vx_c (va_Nw.use rfl hKT.2.2) (vx_c (va_Nw.use rfl (ok.2.2.2.2.2.2.2.2.1.2.1 _ xt_1)) (vx_c (va_Nw.use rfl (ok.2.2.2.2.2.2.2.2.1.2.1 _ xt_2)) (vx_c (va_Nw.use rfl (ok.2.2.2.2.2.2.2.2.1.2.1 _ xt_3)) vx_n)))))
    xt_good (hKT.1.kept hkp) (hKT.2.1.kept hkp) hS (by rw [ok.2.2.1]; exact hv.1) dX11_led_33 dX11_led_36 dX11_led_37 dX11_led_40 (fun x hx => (ht x hx).elim)
    (by show 2 + 3 < _; omega) (by show 0 + (13 * 3 + 42) ≤ _; omega) (by show 0 + 1 ≤ _; omega) (by show 0 + 6 ≤ _; omega) ok.2.2.2.2.2.2.1
    (fun t hal hsz hold => ⟨rfl, ⟨I, L, R, hQ, hR.grow hsz hold⟩, Nat.le_trans hz hsz⟩) hl (Nat.le_refl _) (Nat.le_refl _)
/-- thrown over the frame at pc -/
def VX (X : XT) (M : MT) (z : Nat × Nat × Nat) (pc : Nat) (ls : List (Option AV)) (st : List AV) (I : MI) (L : ML) (R : MR) (F : State → Prop) : Prop :=
  MOk X M → z.1 ≤ mmc M → z.2.1 ≤ mms M → ∀ (H : Heap) (locs : List Loc) (la : Array Slot) (q9 : Addr) (ce : Cell), Rep (xG X) z.2.2 I L R H → (∀ q ∈ locs, gb (xG X) ≤ q.base) → (xs X).heap.size ≤ H.size → lv_has la (mL M) (lsl (xG X) ls) → H[q9]? = some ce → ce.vm = .none → (xs X).vm.findClass NSE = some ce.cls →
    vx_W (xp X) (xl X) (xe X) (xR X) (xs X) (xm X) (xa X) (xb X) (xh X) (xc X) H locs z.1 z.2.1 F (F0 (xm X) pc la (st.map (cv (xG X)))) q9
theorem s_callVX {X : XT} {M : MT} {z : Nat × Nat × Nat} {pc : Nat} {ls : List (Option AV)} {st : List AV} {I : MI} {L : ML} {R : MR} {F : State → Prop} {C : String} {b ci N : Nat} {C9 : u_T} {M' : MT} {y : MethodName} {idx n : Nat} {as stk : List AV} (hKT : KT (xG X) (xs X)) (q : Nat) (hd : decode (mcc M) pc = .ok (.invokevirtual idx, 3)) (hq : pc + 3 = q) (hw : CWV (mown M) idx C y (mcc M') (mL M') (mret M') n) (hst : stk = as.reverse ++ vr b :: st) (hn : as.length = n) (hs : sh b = (ci, N)) (hC : vwCl[ci]? = some (C, C9, N)) (hci : ci < 20) (hb : b < z.2.2) (hr : mrk M' + 1 ≤ mrk M) (hmL : mL M' ≤ 41) (hr8 : asz st ≤ 8) (hz1 : z.1 + mmc M' ≤ mmc M) (hz2 : z.2.1 + mms M' ≤ mms M)
    (k : CTX (xE X) M' z.2.2 y (vr b :: as) I L R (fun r I' L' R' => V X M (z.1 + mmc M', z.2.1 + mms M', mn1 M') q ls (psh r st) I' L' R' F) (fun I' L' R' => VX X M (z.1 + mmc M', z.2.1 + mms M', mn1 M') pc ls st I' L' R' F)) : V X M z pc ls stk I L R F := by
  subst hst
  subst hq
  intro ok h1 h2 H locs la hR hl hz hv
  obtain ⟨hw1, hw2⟩ := hw
  have hRm : (rmM M').frames + 1 ≤ (xR X).frames ∧ 8 + (mL M' + 11) + (rmM M').locals ≤ (xR X).locals := by
    have a1 := ok.2.2.2.2.2.2.2.2.2.1
    have a2 := ok.2.2.2.2.2.2.2.2.2.2.1
    show mrk M' + 1 ≤ _ ∧ 8 + (mL M' + 11) + 60 * mrk M' ≤ _
    omega
  have a3 := ok.2.2.2.2.2.2.2.2.2.2.2.1
  have a4 := ok.2.2.2.2.2.2.2.2.2.2.2.2.1
  have hf9 : z.1 + mmc M' ≤ (xR X).cells ∧ z.2.1 + mms M' ≤ (xR X).slots := ⟨Nat.le_trans hz1 a3, Nat.le_trans hz2 a4⟩
  have hP9 : ∀ U : State, U.heap = H → (xs X).WarmedH U.vm → PcX (xG X) z.2.2 (vr b :: as) I L R (List.map (cv (xG X)) (vr b :: as)).toArray U := fun U hU hW => ⟨⟨rfl, by rw [hU]; exact hR, KF.warm hW ok.2.2.2.2.2.2.2.2.1⟩, KT.warm hW hKT⟩
  have hPo := hR.one hb
  rw [ent_ob hs hci] at hPo
  have hrec := va_recv ok.2.2.2.2.2.2.2.2.1.1 hPo hC (q0 := 0) rfl
  have run := vx_runV (g := F0 (xm X) pc la ((as.reverse ++ vr b :: st).map (cv (xG X)))) (rest := st.map (cv (xG X))) (locs := locs) (cells := z.1) (slots := z.2.1) (below := xb X) (meth := xh X) (e := xe X) (As := as.map (cv (xG X))) (n := n) ⟨ok.1, ok.2.1, ok.2.2.1, ok.2.2.2.1, ok.2.2.2.2.1⟩ k (cwV n ok.2.2.2.2.1 (goodTB (in_ap (b := []) (by exact hw1))) rfl rfl rfl hw2 hRm) ⟨PcX_blind, hrec, hP9⟩ rfl (by simpa using hn) hv.1 (by show List.map _ _ = _; simp [List.map_append, List.map_reverse]; rfl) (lv_room (by rw [asz_sum]; exact hr8)) hd hf9
  intro T hT X9
  rcases run T hT X9 with ⟨v, st₀, t, T', L9, h0, X', hL9, e1, e2, ⟨⟨r, I', L', R', hr, hQ, hRep⟩, hsz⟩, hgo⟩ | ⟨q9, st₀, t, T', L9, E9, ce, h0, X', hL9, e1, e2, ⟨hE, ⟨I', L', R', hQ, hRep⟩, hsz⟩, hce, hcv, hcl, st9⟩
  · cases hr
    rw [h0] at hsz
    have hk := hQ ok hz1 hz2 T'.heap (locs ++ L9) la (by rw [e1]; exact hRep) (fun q hq => ?_) (by rw [e1]; exact Nat.le_trans hz hsz) hv
    · obtain ⟨t2, a1, b1⟩ := hk T' rfl X'
      refine ⟨t2, hgo t2 ?_, b1⟩
      cases r <;> exact a1
    · rcases List.mem_append.mp hq with h | h
      · exact hl q h
      · exact hL9 q h
  · subst hE
    rw [h0] at hsz
    have hk := hQ ok hz1 hz2 T'.heap (locs ++ L9) la q9 ce (by rw [e1]; exact hRep) (fun q hq => ?_) (by rw [e1]; exact Nat.le_trans hz hsz) hv (by rw [e1]; exact hce) hcv hcl
    · obtain ⟨t2, a1, b1⟩ := hk T' rfl X'
      exact ⟨t2, st9.trans a1, b1⟩
    · rcases List.mem_append.mp hq with h | h
      · exact hl q h
      · exact hL9 q h
abbrev M_L_led : MT := (cL_led, R_law9, 12, 5, (some .int), false, 1, 6, 161)
def hhL : List (Nat × Nat × Nat × Nat) := [(0, 10, 13, 13)]
def wsLL : List Cond := .codeWith yL_led cL_led 5 (some .int) hhL :: TB
/-- caught by the law's led -/
theorem s_cat {X : XT} {pc : Nat} {ls : List (Option AV)} {st : List AV} {I : MI} {L : ML} {R : MR} {F : State → Prop} {z : Nat × Nat × Nat} (ht : (xc X).exceptionTable.toList = tableOf hhL) (hKT : KT (xG X) (xs X)) (hpc : pc < 10) (k : V X M_L_led z 15 [none, none, none, none, none] [] I L R F) : VX X M_L_led z pc ls st I L R F := by
  intro ok h1 h2 H locs la q9 ce hR hl hz hv hce hcv hcl
  refine vx_catch (own := RL) (name := NSE) (E := NSE) ok.2.2.2.1 [] ⟨0, 10, 13, 13⟩ [] ht (fun z hz => by cases hz) ?_ (by decide) (ok.2.2.2.2.1 _ xt_l) (va_Nw.use rfl hKT.2.2) hce hcv hcl ?_
  · show (decide (0 ≤ pc) && decide (pc < 10)) = true
    rw [decide_eq_true (Nat.zero_le _), decide_eq_true hpc]; rfl
  · refine lv_astore ok.1 ok.2.1 dL_led_13 hv (by show 4 < 5; decide) rfl (fun la hv => ?_)
    exact k ok h1 h2 H locs la hR hl hz (lv_sup hv (fun q hq => by
      obtain ⟨v, h1, -⟩ := lsl_mem.mp hq
      obtain ⟨i, w⟩ := q
      rcases i with _ | _ | _ | _ | _ | i <;> simp [lk] at h1))
theorem Met_ofWH {l : Launch} {y : MethodName} {ws ws' : List Cond} {rm : Room} {Pc : Array Value → State → Prop} {Qc : Array Value → State → Outcome → State → Prop} {mc ms : Nat} {free : Addr → Prop} {cc : ByteArray} {maxL : Nat} {ret : Option FieldType} {hh : List (Nat × Nat × Nat × Nat)}
    (hy : plainName y.cls = true) (hw : ws = Cond.codeWith y cc maxL ret hh :: ws')
    (body : ∀ p e s m args below meth c s₁, BodyLoose p l y (headSpec ws rm) cc maxL ret e s m args below meth c s₁ → c.maxLocals = maxL → Pc args s →
      W p l e (headSpec ws rm).room s m args below meth c s.heap [] 0 0 (MQ below Qc args s mc ms free) (entryFrame m args maxL)) : Met l y ws rm Pc Qc mc ms free := by
  refine MetFree.of_bodyS (code := cc) (maxLocals := maxL) (ret := ret) hy ?_ ?_
  · intro args s m h hn
    obtain ⟨m9, meth, c, hn9, h1, h2, h3, h4, -, h5, h6, -⟩ := Cond.codeWith_spec (atoms_spec (ws := ws) h _ (by rw [hw]; exact List.mem_cons_self))
    cases hn.symm.trans hn9
    exact ⟨meth, c, h1, h2, h3, h4, h5, h6⟩
  · intro p e s m args below meth c s₁ B hml hP _
    have hh0 : s₁.heap = s.heap := by rw [B.state]; rfl
    obtain ⟨t, a1, o, b1, b2, b3⟩ := body p e s m args below meth c s₁ B hml hP s₁ hh0 (Stand.of_body B)
    exact ⟨t, o, a1, b1, b2, ⟨b3.1, b3.2⟩⟩
/-- the contract of the law's led -/
def CTL (E : ET) (as : List AV) (I : MI) (L : ML) (R : MR) (Q : Option AV → MI → ML → MR → Prop) : Prop :=
  Met E.1 yL_led wsLL (rmM M_L_led) (PcX E.2 161 as I L R) (QcV E.2 161 Q) 1 6 (fun q => gb E.2 ≤ q)
theorem CTL_of {E : ET} {as : List AV} {I : MI} {L : ML} {R : MR} {Q : Option AV → MI → ML → MR → Prop} (hls : asz as ≤ 5)
    (body : ∀ X, (xc X).exceptionTable.toList = tableOf hhL → KT (xG X) (xs X) → xE X = E → V X M_L_led z0 0 (padl 5 (entl as)) [] I L R (RT X M_L_led Q)) : CTL E as I L R Q := by
  refine Met_ofWH (cc := cL_led) (maxL := 5) (ret := some .int) (hh := hhL) (by decide) rfl ?_
  intro p e s m args below meth c s₁ B hml hv
  obtain ⟨⟨rfl, hR, hK⟩, hKT⟩ := hv
  have hts := atoms_spec (ws := wsLL) B.pre
  have ht := vx_table (x := yL_led) B (hts _ List.mem_cons_self)
  have hown : s.vm.findClass RL = some m.cls := findClass_of_methodNamed B.named
  have hX := body (p, E.1, e, rmM M_L_led, s, m, (as.map (cv E.2)).toArray, below, meth, c, E.2) ht hKT rfl
  have ho : MOk (p, E.1, e, rmM M_L_led, s, m, (as.map (cv E.2)).toArray, below, meth, c, E.2) M_L_led :=
    ⟨B.exec, B.bytes, hml, hown, fun w hw => hts w (List.mem_cons_of_mem _ hw), B.returns, B.notSynchronized, (fun h => by cases h), hK, Nat.le_refl _, Nat.le_refl _, Nat.le_refl _, Nat.le_refl _, hR.2.1⟩
  have hl := lv_entry (as.map (cv E.2)) (n := 5) (by rw [lg_sl_len]; exact hls)
  rw [lg_entry_eq]
  refine hX ho (Nat.zero_le _) (Nat.zero_le _) s.heap [] _ hR (fun q h => by cases h) (Nat.le_refl _) (lv_sup hl ?_)
  intro q hq
  obtain ⟨v, h1, h2⟩ := lsl_mem.mp hq
  exact entl_args E.2 as 0 q ⟨v, lk_padl _ _ _ _ h1, h2, Nat.zero_le _⟩
