/-! the judgement, contracts -/
def isArr (t : FieldType) : Bool := match t with
  | .array _ => true
  | _ => false
def isNw (w : Cond) : Bool := match w with
  | .methodLinkNest .. => true
  | .declares _ => true
  | .arrayOver t => isArr t
  | _ => false
def NWL : List Cond := lw_tbl.filter isNw
theorem NWL_of {w : Cond} (h : w ∈ lw_tbl) (hg : isNw w = true) : w ∈ NWL := List.mem_filter.mpr ⟨h, hg⟩
theorem NW_warm {w : Cond} (hg : isNw w = true) {s U : State} (hW : s.WarmedH U.vm) (h : va_Nw w s) : va_Nw w U := by
  cases w <;> first | (simp [isNw] at hg; done) | exact va_Nw.warmM hW h | exact va_Nw.warmD hW h | (rename_i t; cases t <;> first | (simp [isNw, isArr] at hg; done) | exact over_moved hW.alike h)
/-- the String constants: class, entry, text, its bytes -/

def gA9 (G : GT) : Nat → Prop := fun q => gb G ≤ q
/-- what the claim says of the constant k -/
def KStr (G : GT) (q : ST0) (k : Nat) (s : State) : Prop := vk_R q.1 q.2.1 q.2.2.1 (gs G 0 k) s ∧ va_O "java/lang/String" (gs G 0 k) (gA9 G) s (gH G) ∧ va_OF "java/lang/String" "coder" "B" (.int 0) (gs G 0 k) (gA9 G) s (gH G) ∧
  va_OF "java/lang/String" "value" "[B" (.ref (gs G 1 k)) (gs G 0 k) (gA9 G) s (gH G) ∧ va_T .byte (gs G 1 k) q.2.2.2.length (fun j => .int (q.2.2.2.getD j 0)) (gA9 G) s (gH G)
theorem KStr.warm {G : GT} {q : ST0} {k : Nat} {s U : State} (hW : s.WarmedH U.vm) (h : KStr G q k s) : KStr G q k U :=
  ⟨vk_R.warm hW h.1, va_O.moved hW.alike h.2.1, va_OF.moved hW.alike h.2.2.1, va_OF.moved hW.alike h.2.2.2.1, va_T.moved hW.alike h.2.2.2.2⟩
def KStat (G : GT) (s : State) : Prop := va_Z "java/lang/String" "COMPACT_STRINGS" "Z" (.int 1) (gA9 G) s (gH G) ∧ (va_Z "jdk/internal/util/Preconditions" "SIOOBE_FORMATTER" "Ljava/util/function/BiFunction;" (.ref (gs G 2 0)) (gA9 G) s (gH G) ∨ va_Z "jdk/internal/util/Preconditions" "SIOOBE_FORMATTER" "Ljava/util/function/BiFunction;" .null (gA9 G) s (gH G))
theorem KStat.warm {G : GT} {s U : State} (hW : s.WarmedH U.vm) (h : KStat G s) : KStat G U := ⟨va_Z.moved hW.alike h.1, h.2.imp (va_Z.moved hW.alike) (va_Z.moved hW.alike)⟩
def KF (G : GT) (s : State) : Prop := va_K (gD G) vwCl [(gI G, .int), (gJ G, .long), (gZ G, .boolean), (gA G, .array .int)] s ∧ (∀ w ∈ NWL, va_Nw w s) ∧ (∀ (k : Nat) (q : ST0), STRS[k]? = some q → KStr G q k s) ∧ KStat G s
theorem KF.warm {G : GT} {s U : State} (hW : s.WarmedH U.vm) (h : KF G s) : KF G U :=
  ⟨h.1.moved hW.alike, fun w hw => NW_warm (List.mem_filter.mp hw).2 hW (h.2.1 w hw), fun k q hq => (h.2.2.1 k q hq).warm hW, h.2.2.2.warm hW⟩
/-- a place of a walk: the machine's constants -/
abbrev XT : Type := Program × Launch × Env × Room × State × MethodId × Array Value × List Frame × Method × Code × GT
def xp (X : XT) : Program := X.1
def xl (X : XT) : Launch := X.2.1
def xe (X : XT) : Env := X.2.2.1
def xR (X : XT) : Room := X.2.2.2.1
def xs (X : XT) : State := X.2.2.2.2.1
def xm (X : XT) : MethodId := X.2.2.2.2.2.1
def xa (X : XT) : Array Value := X.2.2.2.2.2.2.1
def xb (X : XT) : List Frame := X.2.2.2.2.2.2.2.1
def xh (X : XT) : Method := X.2.2.2.2.2.2.2.2.1
def xc (X : XT) : Code := X.2.2.2.2.2.2.2.2.2.1
def xG (X : XT) : GT := X.2.2.2.2.2.2.2.2.2.2
/-- a method: code, class, rank (frames below), locals, return, is it a constructor, cells, slots, the number of cells behind it -/
abbrev MT : Type := ByteArray × String × Nat × Nat × Option FieldType × Bool × Nat × Nat × Nat
def mcc (M : MT) : ByteArray := M.1
def mown (M : MT) : String := M.2.1
def mrk (M : MT) : Nat := M.2.2.1
def mL (M : MT) : Nat := M.2.2.2.1
def mret (M : MT) : Option FieldType := M.2.2.2.2.1
def mini (M : MT) : Bool := M.2.2.2.2.2.1
def mmc (M : MT) : Nat := M.2.2.2.2.2.2.1
def mms (M : MT) : Nat := M.2.2.2.2.2.2.2.1
def mn1 (M : MT) : Nat := M.2.2.2.2.2.2.2.2
def MOk (X : XT) (M : MT) : Prop :=
  (xp X).tables.exec = Jvm.exec ∧ (xc X).code = mcc M ∧ (xc X).maxLocals = mL M ∧ (xs X).vm.findClass (mown M) = some (xm X).cls ∧ (∀ w ∈ TB, w.before (xa X) (xs X) = true) ∧ (xh X).sig.returnType = mret M ∧ (xh X).locks = false ∧ (mini M = true → (xh X).name = "<init>") ∧
  KF (xG X) (xs X) ∧ mrk M ≤ (xR X).frames ∧ 60 * mrk M ≤ (xR X).locals ∧ mmc M ≤ (xR X).cells ∧ mms M ≤ (xR X).slots ∧ (∀ q, q < gb (xG X) → (xs X).heap[q]? = (gH (xG X))[q]?)
def z0 : Nat × Nat × Nat := (0, 0, 161)
def V (X : XT) (M : MT) (z : Nat × Nat × Nat) (pc : Nat) (ls : List (Option AV)) (st : List AV) (I : MI) (L : ML) (R : MR) (F : State → Prop) : Prop :=
  MOk X M → z.1 ≤ mmc M → z.2.1 ≤ mms M → ∀ (H : Heap) (locs : List Loc) (la : Array Slot), Rep (xG X) z.2.2 I L R H → (∀ q ∈ locs, gb (xG X) ≤ q.base) → (xs X).heap.size ≤ H.size → lv_has la (mL M) (lsl (xG X) ls) →
    W (xp X) (xl X) (xe X) (xR X) (xs X) (xm X) (xa X) (xb X) (xh X) (xc X) H locs z.1 z.2.1 F (F0 (xm X) pc la (st.map (cv (xG X))))
def QcV (G : GT) (n1 : Nat) (Q : Option AV → MI → ML → MR → Prop) : Array Value → State → Outcome → State → Prop := fun _ st o t =>
  (∃ (r : Option AV) (I : MI) (L : ML) (R : MR), o = .returned (r.map (cv G)) ∧ Q r I L R ∧ Rep G n1 I L R t.heap) ∧ st.heap.size ≤ t.heap.size
def RT (X : XT) (M : MT) (Q : Option AV → MI → ML → MR → Prop) : State → Prop := MQ (xb X) (QcV (xG X) (mn1 M) Q) (xa X) (xs X) (mmc M) (mms M) (fun q => gb (xG X) ≤ q)
def rmM (M : MT) : Room := { frames := mrk M, cells := mmc M, slots := mms M, locals := 60 * mrk M }
def PcV (G : GT) (n0 : Nat) (as : List AV) (I : MI) (L : ML) (R : MR) : Array Value → State → Prop := fun v U => v = (as.map (cv G)).toArray ∧ Rep G n0 I L R U.heap ∧ KF G U
theorem PcV_blind {G : GT} {n0 : Nat} {as : List AV} {I : MI} {L : ML} {R : MR} : FrameBlind (PcV G n0 as I L R) := by
  rintro a U g mk ⟨h1, h2, h3⟩
  exact ⟨h1, h2, KF.warm (U := U.calling g mk a) (State.WarmedH.refl U) h3⟩
abbrev ET : Type := Launch × GT
def xE (X : XT) : ET := (xl X, xG X)
def wsM (M : MT) (y : MethodName) : List Cond := .code y (mcc M) (mL M) (mret M) :: TB
def CT (E : ET) (M : MT) (n0 : Nat) (y : MethodName) (as : List AV) (I : MI) (L : ML) (R : MR) (Q : Option AV → MI → ML → MR → Prop) : Prop :=
  Met E.1 y (wsM M y) (rmM M) (PcV E.2 n0 as I L R) (QcV E.2 (mn1 M) Q) (mmc M) (mms M) (fun q => gb E.2 ≤ q)
theorem entl_args (G : GT) : ∀ (as : List AV) (i : Nat) (q : Nat × Value), (∃ v, lk (entl as) (q.1 - i) = some v ∧ q.2 = cv G v ∧ i ≤ q.1) → q ∈ lv_args i (as.map (cv G))
  | [], i, q, ⟨v, h, _⟩ => by simp [entl, lk] at h
  | a :: as, i, q, ⟨v, h1, h2, h3⟩ => by
    have hc := cv_ct G a
    rcases a with x | x | r | k
    · by_cases hq : q.1 = i
      · rw [hq, Nat.sub_self] at h1
        cases h1
        exact List.mem_cons.mpr (Or.inl (Prod.ext hq h2))
      · refine List.mem_cons_of_mem _ ?_
        rw [if_neg (by rw [hc]; simp [ct])]
        refine entl_args G as (i + 1) q ⟨v, ?_, h2, by omega⟩
        rw [show q.1 - i = (q.1 - (i + 1)) + 1 by omega] at h1
        exact h1
    · by_cases hq : q.1 = i
      · rw [hq, Nat.sub_self] at h1
        cases h1
        exact List.mem_cons.mpr (Or.inl (Prod.ext hq h2))
      · by_cases hq1 : q.1 = i + 1
        · rw [show q.1 - i = 1 by omega] at h1
          cases h1
        · refine List.mem_cons_of_mem _ ?_
          rw [if_pos (by rw [hc]; rfl)]
          refine entl_args G as (i + 2) q ⟨v, ?_, h2, by omega⟩
          rw [show q.1 - i = (q.1 - (i + 2)) + 1 + 1 by omega] at h1
          exact h1
    · by_cases hq : q.1 = i
      · rw [hq, Nat.sub_self] at h1
        cases h1
        exact List.mem_cons.mpr (Or.inl (Prod.ext hq h2))
      · refine List.mem_cons_of_mem _ ?_
        rw [if_neg (by rw [hc]; simp [ct])]
        refine entl_args G as (i + 1) q ⟨v, ?_, h2, by omega⟩
        rw [show q.1 - i = (q.1 - (i + 1)) + 1 by omega] at h1
        exact h1
    · by_cases hq : q.1 = i
      · rw [hq, Nat.sub_self] at h1
        cases h1
        exact List.mem_cons.mpr (Or.inl (Prod.ext hq h2))
      · refine List.mem_cons_of_mem _ ?_
        rw [if_neg (by rw [hc]; simp [ct])]
        refine entl_args G as (i + 1) q ⟨v, ?_, h2, by omega⟩
        rw [show q.1 - i = (q.1 - (i + 1)) + 1 by omega] at h1
        exact h1
theorem lk_padl : ∀ (n : Nat) (l : List (Option AV)) (i : Nat) (v : AV), lk (padl n l) i = some v → lk l i = some v
  | 0, l, i, v, h => h
  | n + 1, [], 0, v, h => by cases h
  | n + 1, [], i + 1, v, h => by
    have := lk_padl n [] i v (by simpa [padl, lk] using h)
    simp [lk] at this
  | n + 1, a :: l, 0, v, h => h
  | n + 1, a :: l, i + 1, v, h => lk_padl n l i v (by simpa [padl, lk] using h)
def asz : List AV → Nat
  | [] => 0
  | v :: l => ct v + asz l
theorem lg_sl_len (G : GT) : ∀ as : List AV, (lg_sl (as.map (cv G))).length = asz as
  | [] => rfl
  | a :: as => by
    have h := lg_sl_len G as
    have hc := cv_ct G a
    unfold lg_sl at h ⊢
    rw [List.map_cons, List.flatMap_cons, List.length_append, h]
    show _ = ct a + asz as
    rcases a with x | x | r | k <;> simp [hc, ct]
/-- a contract, out of a walk of its body -/
theorem CT_of {E : ET} {M : MT} {n0 : Nat} {y : MethodName} {as : List AV} {I : MI} {L : ML} {R : MR} {Q : Option AV → MI → ML → MR → Prop} (hy : plainName y.cls = true) (hc : mown M = y.cls) (hi : mini M = true → y.name = "<init>") (hls : asz as ≤ mL M)
    (body : ∀ X, V X M (0, 0, n0) 0 (padl (mL M) (entl as)) [] I L R (RT X M Q)) : CT E M n0 y as I L R Q := by
  refine Met.ofW (cc := mcc M) (maxL := mL M) (ret := mret M) hy rfl ?_
  intro p e s m args below meth c s₁ B hml hv
  obtain ⟨rfl, hR, hK⟩ := hv
  have hts := atoms_spec (ws := wsM M y) B.pre
  have hown : s.vm.findClass y.cls = some m.cls := findClass_of_methodNamed B.named
  have hX := body (p, E.1, e, rmM M, s, m, (as.map (cv E.2)).toArray, below, meth, c, E.2)
  have ho : MOk (p, E.1, e, rmM M, s, m, (as.map (cv E.2)).toArray, below, meth, c, E.2) M :=
    ⟨B.exec, B.bytes, hml, by rw [hc]; exact hown, fun w hw => hts w (List.mem_cons_of_mem _ hw), B.returns, B.notSynchronized, fun h => by rw [← hi h]; exact (name_of_methodNamed B.named B.method).1, hK, Nat.le_refl _, Nat.le_refl _, Nat.le_refl _, Nat.le_refl _, hR.2.1⟩
  have hl := lv_entry (as.map (cv E.2)) (n := mL M) (by rw [lg_sl_len]; exact hls)
  rw [lg_entry_eq]
  refine hX ho (Nat.zero_le _) (Nat.zero_le _) s.heap [] _ hR (fun q h => by cases h) (Nat.le_refl _) (lv_sup hl ?_)
  intro q hq
  obtain ⟨v, h1, h2⟩ := lsl_mem.mp hq
  exact entl_args E.2 as 0 q ⟨v, lk_padl _ _ _ _ h1, h2, Nat.zero_le _⟩
/-- more is asked of an end -/
theorem CT.mono {E : ET} {M : MT} {n0 : Nat} {y : MethodName} {as : List AV} {I : MI} {L : ML} {R : MR} {Q Q' : Option AV → MI → ML → MR → Prop} (h : CT E M n0 y as I L R Q) (hq : ∀ r I' L' R', Q r I' L' R' → Q' r I' L' R') : CT E M n0 y as I L R Q' := by
  intro p e ha hc hk s m args below hf happ hP _
  obtain ⟨n, o, h1, h2, h3, ⟨⟨r, I', L', R', e1, e2, e3⟩, hz⟩, h5⟩ := h p e ha hc hk s m args below hf happ hP trivial
  exact ⟨n, o, h1, h2, h3, ⟨⟨r, I', L', R', e1, hq _ _ _ _ e2, e3⟩, hz⟩, h5⟩
