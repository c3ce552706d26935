/-! String constants: rows; the JDK's length() and charAt() over them -/
theorem oS {X : XT} {M : MT} (ok : MOk X M) {n : Nat} {I : MI} {L : ML} {R : MR} {H : Heap} {locs : List Loc} (hR : Rep (xG X) n I L R H) (hl : ∀ q ∈ locs, gb (xG X) ≤ q.base) (hz : (xs X).heap.size ≤ H.size) : va_S (gA9 (xG X)) (xs X).heap H locs :=
  ⟨hz, fun q _ hA => by rw [hR.2.1 q (Nat.not_le.mp hA)]; exact (ok.2.2.2.2.2.2.2.2.2.2.2.2.2 q (Nat.not_le.mp hA)).symm, hl⟩
theorem oF {G : GT} {o n d : String} {v : Value} {t : Nat} {s : State} (h : va_OF o n d v t (gA9 G) s (gH G)) (hq : ∀ q, q < gb G → s.heap[q]? = (gH G)[q]?) : va_OF o n d v t (gA9 G) s s.heap := by
  obtain ⟨cf, k, i, f, cell, h1, h2, h3, h4, h5, h6⟩ := h
  exact ⟨cf, k, i, f, cell, h1, h2, by rw [hq t (Nat.not_le.mp h6)]; exact h3, h4, h5, h6⟩
theorem oT {G : GT} {ty : FieldType} {t N : Nat} {f : Nat → Value} {s : State} (h : va_T ty t N f (gA9 G) s (gH G)) (hq : ∀ q, q < gb G → s.heap[q]? = (gH G)[q]?) : va_T ty t N f (gA9 G) s s.heap := by
  obtain ⟨cell, h1, h2, h3, h4, h5, h6, h7⟩ := h
  exact ⟨cell, by rw [hq t (Nat.not_le.mp h7)]; exact h1, h2, h3, h4, h5, h6, h7⟩
theorem oZ {G : GT} {C n d : String} {v : Value} {s : State} (h : va_Z C n d v (gA9 G) s (gH G)) (hq : ∀ q, q < gb G → s.heap[q]? = (gH G)[q]?) : va_Z C n d v (gA9 G) s s.heap := by
  obtain ⟨cf, kf, fi, f, a, cell, h1, h2, h3, h4, h5, h6, h7, h8⟩ := h
  exact ⟨cf, kf, fi, f, a, cell, h1, h2, h3, h4, by rw [hq a (Nat.not_le.mp h8)]; exact h5, h6, h7, h8⟩
def KS (own : String) (idx k : Nat) : Prop := ∃ q9 : ST0, STRS[k]? = some q9 ∧ q9.1 = own ∧ q9.2.1 = idx
theorem s_ldcS {X : XT} {M : MT} {z : Nat × Nat × Nat} {pc : Nat} {ls : List (Option AV)} {st : List AV} {I : MI} {L : ML} {R : MR} {F : State → Prop} {idx k : Nat} (q : Nat) (hd : decode (mcc M) pc = .ok (.ldc idx, 2)) (hq : pc + 2 = q) (hk : KS (mown M) idx k) (k9 : V X M z q ls (vq 0 k :: st) I L R F) : V X M z pc ls st I L R F := by
  subst hq
  intro ok h1 h2 H locs la hR hl hz hv
  obtain ⟨q9, a1, a2, a3⟩ := hk
  have hS := (ok.2.2.2.2.2.2.2.2.1.2.2.1 k q9 a1).1
  rw [a2, a3] at hS
  exact va_ldcS ok.1 ok.2.1 ok.2.2.2.1 hS hd (k9 ok h1 h2 H locs la hR hl hz hv)
theorem va_ldcSW {p : Program} {l : Launch} {e : Env} {R : Room} {s : State} {m : MethodId} {args : Array Value} {below : List Frame} {meth : Method} {c : Code} {H : Heap} {locs : List Loc} {cells slots : Nat} {Q : State → Prop} {cc : ByteArray} {pc : Nat} {ls : Array Slot} {rest : List Value}
    (hexec : p.tables.exec = Jvm.exec) (hb : c.code = cc) {own tx : String} {index q : Nat} (hown : s.vm.findClass own = some m.cls) (hZ : vk_R own index tx q s) (hdg : decode cc pc = .ok (.ldc_w index, 3))
    (k : W p l e R s m args below meth c H locs cells slots Q (F0 m (pc + 3) ls (.ref q :: rest))) : W p l e R s m args below meth c H locs cells slots Q (F0 m pc ls rest) := by
  intro T hT X
  obtain ⟨t, a1, b1⟩ := k T hT X
  refine ⟨t, ?_, b1⟩
  obtain ⟨k0, cf, i, a', hk, hcf, hcp, -, hr, hev'⟩ := Cond.stringRef_spec hown hZ.1
  cases hZ.2.symm.trans hev'
  obtain ⟨k', hk', he⟩ := X.warmed.alike.2.2 _ _ hk
  have hr' : k'.resolved[index]? = some (some (.string q)) := by
    rcases X.warmed.entry hk hk' index with h | ⟨h, -⟩
    · rw [h]; exact hr
    · rw [hr] at h; cases h
  have hdg' : decode c.code (F0 m pc ls rest).pc = .ok (.ldc_w index, 3) := by rw [hb]; exact hdg
  jvm_step X.here [hexec, hdg', ldc_w.wp_string (e := e) (s := T) (f := F0 m pc ls rest) X.here.top hk' (by rw [he]; exact hcf) hcp hr']
  exact a1
theorem s_ldcSw {X : XT} {M : MT} {z : Nat × Nat × Nat} {pc : Nat} {ls : List (Option AV)} {st : List AV} {I : MI} {L : ML} {R : MR} {F : State → Prop} {idx k : Nat} (q : Nat) (hd : decode (mcc M) pc = .ok (.ldc_w idx, 3)) (hq : pc + 3 = q) (hk : KS (mown M) idx k) (k9 : V X M z q ls (vq 0 k :: st) I L R F) : V X M z pc ls st I L R F := by
  subst hq
  intro ok h1 h2 H locs la hR hl hz hv
  obtain ⟨q9, a1, a2, a3⟩ := hk
  have hS := (ok.2.2.2.2.2.2.2.2.1.2.2.1 k q9 a1).1
  rw [a2, a3] at hS
  exact va_ldcSW ok.1 ok.2.1 ok.2.2.2.1 hS hd (k9 ok h1 h2 H locs la hR hl hz hv)
theorem s_qval {X : XT} {M : MT} {z : Nat × Nat × Nat} {pc : Nat} {ls : List (Option AV)} {st : List AV} {I : MI} {L : ML} {R : MR} {F : State → Prop} {k : Nat} {q9 : ST0} (q : Nat) (hd : decode (mcc M) pc = .ok (.getfield 9, 3)) (hq : pc + 3 = q) (hM : mown M = "java/lang/String") (hw : Cond.fieldLink "java/lang/String" 9 "java/lang/String" "value" "[B" ∈ TB) (hk : STRS[k]? = some q9) (k9 : V X M z q ls (vq 1 k :: st) I L R F) : V X M z pc ls (vq 0 k :: st) I L R F := by
  subst hq
  intro ok h1 h2 H locs la hR hl hz hv
  have hE := (ok.2.2.2.2.2.2.2.2.1.2.2.1 k q9 hk).2.2.2.1
  exact vk_getf ok.1 ok.2.1 (oF hE ok.2.2.2.2.2.2.2.2.2.2.2.2.2) (oS ok hR hl hz) (by rw [← hM]; exact ok.2.2.2.1) (ok.2.2.2.2.1 _ hw) (fun _ h => h) hd (k9 ok h1 h2 H locs la hR hl hz hv)
theorem s_qcod {X : XT} {M : MT} {z : Nat × Nat × Nat} {pc : Nat} {ls : List (Option AV)} {st : List AV} {I : MI} {L : ML} {R : MR} {F : State → Prop} {k : Nat} {q9 : ST0} (q : Nat) (hd : decode (mcc M) pc = .ok (.getfield 15, 3)) (hq : pc + 3 = q) (hM : mown M = "java/lang/String") (hw : Cond.fieldLink "java/lang/String" 15 "java/lang/String" "coder" "B" ∈ TB) (hk : STRS[k]? = some q9) (k9 : V X M z q ls (vi 0 :: st) I L R F) : V X M z pc ls (vq 0 k :: st) I L R F := by
  subst hq
  intro ok h1 h2 H locs la hR hl hz hv
  have hE := (ok.2.2.2.2.2.2.2.2.1.2.2.1 k q9 hk).2.2.1
  exact vk_getf ok.1 ok.2.1 (oF hE ok.2.2.2.2.2.2.2.2.2.2.2.2.2) (oS ok hR hl hz) (by rw [← hM]; exact ok.2.2.2.1) (ok.2.2.2.2.1 _ hw) (fun _ h => h) hd (k9 ok h1 h2 H locs la hR hl hz hv)
theorem s_qcom {X : XT} {M : MT} {z : Nat × Nat × Nat} {pc : Nat} {ls : List (Option AV)} {st : List AV} {I : MI} {L : ML} {R : MR} {F : State → Prop} (q : Nat) (hd : decode (mcc M) pc = .ok (.getstatic 38, 3)) (hq : pc + 3 = q) (hM : mown M = "java/lang/String") (hw : Cond.fieldLink "java/lang/String" 38 "java/lang/String" "COMPACT_STRINGS" "Z" ∈ TB) (k9 : V X M z q ls (vi 1 :: st) I L R F) : V X M z pc ls st I L R F := by
  subst hq
  intro ok h1 h2 H locs la hR hl hz hv
  exact va_gets ok.1 ok.2.1 (oZ ok.2.2.2.2.2.2.2.2.1.2.2.2.1 ok.2.2.2.2.2.2.2.2.2.2.2.2.2) (oS ok hR hl hz) (by rw [← hM]; exact ok.2.2.2.1) (ok.2.2.2.2.1 _ hw) (fun _ h => h) hd (k9 ok h1 h2 H locs la hR hl hz hv)
theorem s_qfmt {X : XT} {M : MT} {z : Nat × Nat × Nat} {pc : Nat} {ls : List (Option AV)} {st : List AV} {I : MI} {L : ML} {R : MR} {F : State → Prop} (q : Nat) (hd : decode (mcc M) pc = .ok (.getstatic 1053, 3)) (hq : pc + 3 = q) (hM : mown M = "java/lang/String") (hw : Cond.fieldLink "java/lang/String" 1053 "jdk/internal/util/Preconditions" "SIOOBE_FORMATTER" "Ljava/util/function/BiFunction;" ∈ TB) (k9 : V X M z q ls (vq 2 0 :: st) I L R F) (k8 : V X M z q ls (vo none :: st) I L R F) : V X M z pc ls st I L R F := by
  subst hq
  intro ok h1 h2 H locs la hR hl hz hv
  rcases ok.2.2.2.2.2.2.2.2.1.2.2.2.2 with h9 | h9
  · exact va_gets ok.1 ok.2.1 (oZ h9 ok.2.2.2.2.2.2.2.2.2.2.2.2.2) (oS ok hR hl hz) (by rw [← hM]; exact ok.2.2.2.1) (ok.2.2.2.2.1 _ hw) (fun _ h => h) hd (k9 ok h1 h2 H locs la hR hl hz hv)
  · exact va_gets ok.1 ok.2.1 (oZ h9 ok.2.2.2.2.2.2.2.2.2.2.2.2.2) (oS ok hR hl hz) (by rw [← hM]; exact ok.2.2.2.1) (ok.2.2.2.2.1 _ hw) (fun _ h => h) hd (k8 ok h1 h2 H locs la hR hl hz hv)
theorem s_qlen {X : XT} {M : MT} {z : Nat × Nat × Nat} {pc : Nat} {ls : List (Option AV)} {st : List AV} {I : MI} {L : ML} {R : MR} {F : State → Prop} {k : Nat} {q9 : ST0} (q : Nat) (hd : decode (mcc M) pc = .ok (.arraylength, 1)) (hq : pc + 1 = q) (hk : STRS[k]? = some q9) (k9 : V X M z q ls (vi (q9.2.2.2.length : Int) :: st) I L R F) : V X M z pc ls (vq 1 k :: st) I L R F := by
  subst hq
  intro ok h1 h2 H locs la hR hl hz hv
  have hE := (ok.2.2.2.2.2.2.2.2.1.2.2.1 k q9 hk).2.2.2.2
  exact va_tlen (v := iI (q9.2.2.2.length : Int)) ok.1 ok.2.1 (oT hE ok.2.2.2.2.2.2.2.2.2.2.2.2.2) (oS ok hR hl hz) (iI_nat _).symm hd (k9 ok h1 h2 H locs la hR hl hz hv)
theorem s_qbld {X : XT} {M : MT} {z : Nat × Nat × Nat} {pc : Nat} {ls : List (Option AV)} {st : List AV} {I : MI} {L : ML} {R : MR} {F : State → Prop} {k : Nat} {q9 : ST0} {i : Int} (q : Nat) (hd : decode (mcc M) pc = .ok (.baload, 1)) (hq : pc + 1 = q) (hk : STRS[k]? = some q9) (hi : 0 ≤ i ∧ i < (q9.2.2.2.length : Int)) (hn : (q9.2.2.2.length : Int) ≤ 2147483647) (k9 : V X M z q ls (vi (q9.2.2.2.getD i.toNat 0).toInt :: st) I L R F) : V X M z pc ls (vi i :: vq 1 k :: st) I L R F := by
  subst hq
  intro ok h1 h2 H locs la hR hl hz hv
  have hE := (ok.2.2.2.2.2.2.2.2.1.2.2.1 k q9 hk).2.2.2.2
  refine va_tb (v := .int (iI (q9.2.2.2.getD i.toNat 0).toInt)) ok.1 ok.2.1 (oT hE ok.2.2.2.2.2.2.2.2.2.2.2.2.2) (oS ok hR hl hz) (iI_in hi hn) ?_ hd (k9 ok h1 h2 H locs la hR hl hz hv)
  show Value.int (q9.2.2.2.getD (iI i).toNatClampNeg 0) = _
  rw [iI_c (by omega), iI_of]
theorem s_i2c {X : XT} {M : MT} {z : Nat × Nat × Nat} {pc : Nat} {ls : List (Option AV)} {st : List AV} {I : MI} {L : ML} {R : MR} {F : State → Prop} {x : Int} (q : Nat) (hd : decode (mcc M) pc = .ok (.i2c, 1)) (hq : pc + 1 = q) (hx : (((iI x).toUInt32 % 65536).toInt32) = iI x) (k : V X M z q ls (vi x :: st) I L R F) : V X M z pc ls (vi x :: st) I L R F := by
  subst hq
  intro ok h1 h2 H locs la hR hl hz hv
  exact lv_i2c ok.1 ok.2.1 hd hx (k ok h1 h2 H locs la hR hl hz hv)
/-- the letters of a constant -/
def wS (k : Nat) : List Int := ((STRS.getD k ("", 0, "", [])).2.2.2).map Int32.toInt
def STok : Bool := STRS.all (fun q => decide (1 ≤ q.2.2.2.length) && decide (q.2.2.2.length ≤ 7) && q.2.2.2.all (fun b => decide (97 ≤ b.toInt) && decide (b.toInt ≤ 122)))
theorem ST_ok : STok = true := by decide +kernel
theorem ST_at {k : Nat} {q9 : ST0} (hk : STRS[k]? = some q9) : wS k = q9.2.2.2.map Int32.toInt ∧ 1 ≤ q9.2.2.2.length ∧ q9.2.2.2.length ≤ 7 ∧ ∀ i, i < q9.2.2.2.length → 97 ≤ (q9.2.2.2.getD i 0).toInt ∧ (q9.2.2.2.getD i 0).toInt ≤ 122 := by
  have h := List.all_eq_true.mp ST_ok q9 (List.mem_of_getElem? hk)
  simp only [Bool.and_eq_true, decide_eq_true_eq] at h
  refine ⟨?_, h.1.1, h.1.2, fun i hi => ?_⟩
  · unfold wS
    rw [List.getD_eq_getElem?_getD, hk]
    rfl
  · have h3 := List.all_eq_true.mp h.2 (q9.2.2.2.getD i 0) (by rw [List.getD_eq_getElem?_getD, List.getElem?_eq_getElem hi]; exact List.getElem_mem hi)
    simpa using h3
theorem wS_at {k : Nat} {q9 : ST0} (hk : STRS[k]? = some q9) {i : Nat} (hi : i < q9.2.2.2.length) : (q9.2.2.2.getD i 0).toInt = (wS k).getD i 0 := by
  rw [(ST_at hk).1, List.getD_eq_getElem?_getD, List.getD_eq_getElem?_getD, List.getElem?_map, List.getElem?_eq_getElem hi]
  rfl
theorem wS_len {k : Nat} {q9 : ST0} (hk : STRS[k]? = some q9) : (wS k).length = q9.2.2.2.length := by
  rw [(ST_at hk).1, List.length_map]
theorem c7 : ∀ n : Nat, n < 128 → narrow .char (.int (nI n)) = .int (nI n) ∧ (((nI n).toUInt32 % 65536).toInt32) = nI n ∧ nI n &&& 255 = nI n := by decide +kernel
theorem c7I {x : Int} (h : 0 ≤ x ∧ x < 128) : narrow .char (.int (iI x)) = .int (iI x) ∧ (((iI x).toUInt32 % 65536).toInt32) = iI x ∧ iand x 255 = x := by
  have e : iI x = nI x.toNat := by rw [← iI_nat]; congr 1; omega
  have h1 := c7 x.toNat (by omega)
  refine ⟨by rw [e]; exact h1.1, by rw [e]; exact h1.2.1, ?_⟩
  unfold iand
  rw [e, show iI 255 = 255 by decide, h1.2.2, ← e, iI_t (by omega)]
theorem fq_9 : Cond.fieldLink "java/lang/String" 9 "java/lang/String" "value" "[B" ∈ TB := TB_of (lt9 (List.mem_of_getElem? (i := 31) (by decide +kernel))) rfl
theorem fq_15 : Cond.fieldLink "java/lang/String" 15 "java/lang/String" "coder" "B" ∈ TB := TB_of (lt9 (List.mem_of_getElem? (i := 32) (by decide +kernel))) rfl
theorem fq_38 : Cond.fieldLink "java/lang/String" 38 "java/lang/String" "COMPACT_STRINGS" "Z" ∈ TB := TB_of (lt3 (List.mem_of_getElem? (i := 30) (by decide +kernel))) rfl
theorem fq_1053 : Cond.fieldLink "java/lang/String" 1053 "jdk/internal/util/Preconditions" "SIOOBE_FORMATTER" "Ljava/util/function/BiFunction;" ∈ TB := TB_of (lt3 (List.mem_of_getElem? (i := 46) (by decide +kernel))) rfl
theorem ks_X6_81 : KS RX6 81 0 := ⟨_, rfl, rfl, rfl⟩
theorem ks_X6_123 : KS RX6 123 1 := ⟨_, rfl, rfl, rfl⟩
theorem ks_X6_132 : KS RX6 132 2 := ⟨_, rfl, rfl, rfl⟩
theorem ks_X6_134 : KS RX6 134 3 := ⟨_, rfl, rfl, rfl⟩
theorem ks_X6_89 : KS RX6 89 4 := ⟨_, rfl, rfl, rfl⟩
theorem ks_X10_64 : KS RX10 64 5 := ⟨_, rfl, rfl, rfl⟩
theorem ks_X10_70 : KS RX10 70 6 := ⟨_, rfl, rfl, rfl⟩
theorem ks_X10_72 : KS RX10 72 7 := ⟨_, rfl, rfl, rfl⟩
theorem ks_X10_74 : KS RX10 74 8 := ⟨_, rfl, rfl, rfl⟩
theorem ks_X10_76 : KS RX10 76 9 := ⟨_, rfl, rfl, rfl⟩
theorem ks_X10_78 : KS RX10 78 10 := ⟨_, rfl, rfl, rfl⟩
theorem ks_X10_80 : KS RX10 80 11 := ⟨_, rfl, rfl, rfl⟩
theorem ks_X6_164 : KS RX6 164 12 := ⟨_, rfl, rfl, rfl⟩
theorem ks_X6_166 : KS RX6 166 13 := ⟨_, rfl, rfl, rfl⟩
theorem ks_X6_168 : KS RX6 168 14 := ⟨_, rfl, rfl, rfl⟩
theorem ks_X6_170 : KS RX6 170 15 := ⟨_, rfl, rfl, rfl⟩
theorem ks_X6_154 : KS RX6 154 16 := ⟨_, rfl, rfl, rfl⟩
theorem ks_X6_156 : KS RX6 156 17 := ⟨_, rfl, rfl, rfl⟩
theorem ks_X6_158 : KS RX6 158 18 := ⟨_, rfl, rfl, rfl⟩
theorem ks_X6_94 : KS RX6 94 19 := ⟨_, rfl, rfl, rfl⟩
theorem ks_X6_172 : KS RX6 172 20 := ⟨_, rfl, rfl, rfl⟩
theorem ks_X6_99 : KS RX6 99 21 := ⟨_, rfl, rfl, rfl⟩
theorem ks_X6_107 : KS RX6 107 22 := ⟨_, rfl, rfl, rfl⟩
theorem ks_X6_197 : KS RX6 197 23 := ⟨_, rfl, rfl, rfl⟩
theorem ks_X6_214 : KS RX6 214 24 := ⟨_, rfl, rfl, rfl⟩
theorem ks_X6_216 : KS RX6 216 25 := ⟨_, rfl, rfl, rfl⟩
theorem ks_X6_202 : KS RX6 202 26 := ⟨_, rfl, rfl, rfl⟩
theorem ks_X6_115 : KS RX6 115 27 := ⟨_, rfl, rfl, rfl⟩
theorem ks_X12_150 : KS RX12 150 28 := ⟨_, rfl, rfl, rfl⟩
theorem ks_X12_241 : KS RX12 241 29 := ⟨_, rfl, rfl, rfl⟩
theorem ks_X12_247 : KS RX12 247 30 := ⟨_, rfl, rfl, rfl⟩
theorem ks_X12_249 : KS RX12 249 31 := ⟨_, rfl, rfl, rfl⟩
theorem ks_X12_152 : KS RX12 152 32 := ⟨_, rfl, rfl, rfl⟩
theorem ks_X12_154 : KS RX12 154 33 := ⟨_, rfl, rfl, rfl⟩
theorem ks_X12_156 : KS RX12 156 34 := ⟨_, rfl, rfl, rfl⟩
theorem ks_X12_158 : KS RX12 158 35 := ⟨_, rfl, rfl, rfl⟩
theorem ks_X12_160 : KS RX12 160 36 := ⟨_, rfl, rfl, rfl⟩
theorem ks_X12_162 : KS RX12 162 37 := ⟨_, rfl, rfl, rfl⟩
theorem ks_X12_255 : KS RX12 255 38 := ⟨_, rfl, rfl, rfl⟩
theorem ks_X12_257 : KS RX12 257 39 := ⟨_, rfl, rfl, rfl⟩
theorem ks_X12_259 : KS RX12 259 40 := ⟨_, rfl, rfl, rfl⟩
theorem ks_X12_261 : KS RX12 261 41 := ⟨_, rfl, rfl, rfl⟩
theorem ks_X12_263 : KS RX12 263 42 := ⟨_, rfl, rfl, rfl⟩
theorem ks_X12_265 : KS RX12 265 43 := ⟨_, rfl, rfl, rfl⟩
theorem ks_X12_267 : KS RX12 267 44 := ⟨_, rfl, rfl, rfl⟩
theorem ks_X12_269 : KS RX12 269 45 := ⟨_, rfl, rfl, rfl⟩
theorem ks_X12_281 : KS RX12 281 46 := ⟨_, rfl, rfl, rfl⟩
theorem ks_X12_186 : KS RX12 186 47 := ⟨_, rfl, rfl, rfl⟩
theorem ks_X12_188 : KS RX12 188 48 := ⟨_, rfl, rfl, rfl⟩
set_option maxHeartbeats 4000000 in
theorem c_J0_isLatin1_aae02 {E : ET} {I : MI} {L : ML} {R : MR} {Q : Option AV → MI → ML → MR → Prop} {k : Nat} {q9 : ST0} (hk : STRS[k]? = some q9) (h : Q (some (vi 1)) I L R) : CT E M_J0_isLatin1_aae02 161 yJ0_isLatin1_aae02 [(vq 0 (k))] I L R Q := by
  refine CT_of rfl rfl (fun h => by cases h) (Nat.le_of_ble_eq_true rfl) (fun X => ?_)
  show V X _ z0 0 [some (vq 0 (k))] [] I L R _
  refine s_qcom 3 dJ0_isLatin1_aae02_0 rfl rfl fq_38 ?_
  refine s_if_eq 17 6 dJ0_isLatin1_aae02_3 rfl rfl (by omega) (fun h_3 => by omega) (fun _ => ?_)
  refine s_aloadq_n 7 dJ0_isLatin1_aae02_6 rfl rfl ?_
  refine s_qcod 10 dJ0_isLatin1_aae02_7 rfl rfl fq_15 hk ?_
  refine s_if_ne 17 13 dJ0_isLatin1_aae02_10 rfl rfl (by omega) (fun h_3 => by omega) (fun _ => ?_)
  refine s_iconst 14 dJ0_isLatin1_aae02_13 rfl ?_
  refine s_goto 18 dJ0_isLatin1_aae02_14 rfl ?_
  refine s_zret dJ0_isLatin1_aae02_18 rfl (by omega) rfl ?_
  exact h
set_option maxHeartbeats 4000000 in
theorem c_J0_coder_7d493 {E : ET} {I : MI} {L : ML} {R : MR} {Q : Option AV → MI → ML → MR → Prop} {k : Nat} {q9 : ST0} (hk : STRS[k]? = some q9) (h : Q (some (vi 0)) I L R) : CT E M_J0_coder_7d493 161 yJ0_coder_7d493 [(vq 0 (k))] I L R Q := by
  refine CT_of rfl rfl (fun h => by cases h) (Nat.le_of_ble_eq_true rfl) (fun X => ?_)
  show V X _ z0 0 [some (vq 0 (k))] [] I L R _
  refine s_qcom 3 dJ0_coder_7d493_0 rfl rfl fq_38 ?_
  refine s_if_eq 13 6 dJ0_coder_7d493_3 rfl rfl (by omega) (fun h_3 => by omega) (fun _ => ?_)
  refine s_aloadq_n 7 dJ0_coder_7d493_6 rfl rfl ?_
  refine s_qcod 10 dJ0_coder_7d493_7 rfl rfl fq_15 hk ?_
  refine s_goto 14 dJ0_coder_7d493_10 rfl ?_
  refine s_cret (ty := .byte) dJ0_coder_7d493_14 rfl (by decide) rfl ?_
  exact h
theorem ishr0 {x : Int} (h : 0 ≤ x ∧ x ≤ 2147483647) : ishr x 0 = x := by
  unfold ishr
  rw [show iI 0 &&& 31 = 0 by decide]
  have e : iI x >>> (0 : Int32) = iI x := by
    rw [show (0 : Int32) = nI 0 &&& 31 by decide]
    apply b_ext
    intro i hi
    rw [b_sshr 0 (by omega) _ hi, if_pos (by omega), Nat.zero_add]
  rw [e, iI_t (by omega)]
set_option maxHeartbeats 4000000 in
theorem c_J0_length_8abf5 {E : ET} {I : MI} {L : ML} {R : MR} {Q : Option AV → MI → ML → MR → Prop} {k : Nat} {q9 : ST0} (hk : STRS[k]? = some q9) (h : Q (some (vi ((wS k).length : Int))) I L R) : CT E M_J0_length_8abf5 161 yJ0_length_8abf5 [(vq 0 (k))] I L R Q := by
  refine CT_of rfl rfl (fun h => by cases h) (Nat.le_of_ble_eq_true rfl) (fun X => ?_)
  show V X _ z0 0 [some (vq 0 (k))] [] I L R _
  have hb := ST_at hk
  refine s_aloadq_n 1 dJ0_length_8abf5_0 rfl rfl ?_
  refine s_qval 4 dJ0_length_8abf5_1 rfl rfl fq_9 hk ?_
  refine s_qlen 5 dJ0_length_8abf5_4 rfl hk ?_
  refine s_aloadq_n 6 dJ0_length_8abf5_5 rfl rfl ?_
  refine s_callQ0 (M' := M_J0_coder_7d493) (as := []) 9 dJ0_length_8abf5_6 rfl cw_J0_335 rfl rfl hk (Nat.le_of_ble_eq_true rfl) (Nat.le_of_ble_eq_true rfl) (Nat.le_of_ble_eq_true rfl) ⟨rfl, rfl, rfl⟩ ?_
  refine c_J0_coder_7d493 hk ?_
  refine s_ishr 10 dJ0_length_8abf5_9 rfl ?_
  refine s_iret dJ0_length_8abf5_10 rfl rfl ?_
  rw [ishr0 (by omega), ← wS_len hk]
  exact h
set_option maxHeartbeats 4000000 in
theorem c_J3_checkIndex_8e157 {E : ET} {I : MI} {L : ML} {R : MR} {Q : Option AV → MI → ML → MR → Prop} {i n : Int} (hi : 0 ≤ i ∧ i < n) (hn : n ≤ 2147483647) (h : Q (some (vi i)) I L R) : CT E M_J3_checkIndex_8e157 161 yJ3_checkIndex_8e157 [(vi (i)), (vi (n)), (vq 2 (0))] I L R Q := by
  refine CT_of rfl rfl (fun h => by cases h) (Nat.le_of_ble_eq_true rfl) (fun X => ?_)
  show V X _ z0 0 [some (vi (i)), some (vi (n)), some (vq 2 (0))] [] I L R _
  refine s_iload_n 1 dJ3_checkIndex_8e157_0 rfl rfl ?_
  refine s_if_lt 9 4 dJ3_checkIndex_8e157_1 rfl rfl (by omega) (fun h_3 => by omega) (fun _ => ?_)
  refine s_iload_n 5 dJ3_checkIndex_8e157_4 rfl rfl ?_
  refine s_iload_n 6 dJ3_checkIndex_8e157_5 rfl rfl ?_
  refine s_icmp_lt 16 9 dJ3_checkIndex_8e157_6 rfl rfl (by omega) (by omega) (fun _ => ?_) (fun h_6 => by omega)
  refine s_iload_n 17 dJ3_checkIndex_8e157_16 rfl rfl ?_
  refine s_iret dJ3_checkIndex_8e157_17 rfl rfl ?_
  exact h
set_option maxHeartbeats 4000000 in
theorem c_J3_checkIndex_n {E : ET} {I : MI} {L : ML} {R : MR} {Q : Option AV → MI → ML → MR → Prop} {i n : Int} (hi : 0 ≤ i ∧ i < n) (hn : n ≤ 2147483647) (h : Q (some (vi i)) I L R) : CT E M_J3_checkIndex_8e157 161 yJ3_checkIndex_8e157 [(vi (i)), (vi (n)), (vo none)] I L R Q := by
  refine CT_of rfl rfl (fun h => by cases h) (Nat.le_of_ble_eq_true rfl) (fun X => ?_)
  show V X _ z0 0 [some (vi (i)), some (vi (n)), some (vo none)] [] I L R _
  refine s_iload_n 1 dJ3_checkIndex_8e157_0 rfl rfl ?_
  refine s_if_lt 9 4 dJ3_checkIndex_8e157_1 rfl rfl (by omega) (fun h_3 => by omega) (fun _ => ?_)
  refine s_iload_n 5 dJ3_checkIndex_8e157_4 rfl rfl ?_
  refine s_iload_n 6 dJ3_checkIndex_8e157_5 rfl rfl ?_
  refine s_icmp_lt 16 9 dJ3_checkIndex_8e157_6 rfl rfl (by omega) (by omega) (fun _ => ?_) (fun h_6 => by omega)
  refine s_iload_n 17 dJ3_checkIndex_8e157_16 rfl rfl ?_
  refine s_iret dJ3_checkIndex_8e157_17 rfl rfl ?_
  exact h
set_option maxHeartbeats 4000000 in
theorem c_J0_checkIndex_df160 {E : ET} {I : MI} {L : ML} {R : MR} {Q : Option AV → MI → ML → MR → Prop} {i n : Int} (hi : 0 ≤ i ∧ i < n) (hn : n ≤ 2147483647) (h : Q none I L R) : CT E M_J0_checkIndex_df160 161 yJ0_checkIndex_df160 [(vi (i)), (vi (n))] I L R Q := by
  refine CT_of rfl rfl (fun h => by cases h) (Nat.le_of_ble_eq_true rfl) (fun X => ?_)
  show V X _ z0 0 [some (vi (i)), some (vi (n))] [] I L R _
  refine s_iload_n 1 dJ0_checkIndex_df160_0 rfl rfl ?_
  refine s_iload_n 2 dJ0_checkIndex_df160_1 rfl rfl ?_
  refine s_qfmt 5 dJ0_checkIndex_df160_2 rfl rfl fq_1053 ?_ ?_
  · refine s_callS0 (M' := M_J3_checkIndex_8e157) (as := [_, _, _]) 8 dJ0_checkIndex_df160_5 rfl cw_J0_1059 rfl rfl (Nat.le_of_ble_eq_true rfl) (Nat.le_of_ble_eq_true rfl) (Nat.le_of_ble_eq_true rfl) ⟨rfl, rfl, rfl⟩ ?_
    refine c_J3_checkIndex_8e157 hi hn ?_
    refine s_pop 9 dJ0_checkIndex_df160_8 rfl rfl ?_
    refine s_vret dJ0_checkIndex_df160_9 rfl rfl ?_
    exact h
  · refine s_callS0 (M' := M_J3_checkIndex_8e157) (as := [_, _, _]) 8 dJ0_checkIndex_df160_5 rfl cw_J0_1059 rfl rfl (Nat.le_of_ble_eq_true rfl) (Nat.le_of_ble_eq_true rfl) (Nat.le_of_ble_eq_true rfl) ⟨rfl, rfl, rfl⟩ ?_
    refine c_J3_checkIndex_n hi hn ?_
    refine s_pop 9 dJ0_checkIndex_df160_8 rfl rfl ?_
    refine s_vret dJ0_checkIndex_df160_9 rfl rfl ?_
    exact h
set_option maxHeartbeats 4000000 in
theorem c_J1_charAt_3b067 {E : ET} {I : MI} {L : ML} {R : MR} {Q : Option AV → MI → ML → MR → Prop} {k : Nat} {q9 : ST0} {i : Int} (hk : STRS[k]? = some q9) (hi : 0 ≤ i ∧ i < ((wS k).length : Int)) (h : Q (some (vi ((wS k).getD i.toNat 0))) I L R) : CT E M_J1_charAt_3b067 161 yJ1_charAt_3b067 [(vq 1 (k)), (vi (i))] I L R Q := by
  refine CT_of rfl rfl (fun h => by cases h) (Nat.le_of_ble_eq_true rfl) (fun X => ?_)
  show V X _ z0 0 [some (vq 1 (k)), some (vi (i))] [] I L R _
  have hb := ST_at hk
  rw [wS_len hk] at hi
  have hv := hb.2.2.2 i.toNat (by omega)
  have hc := c7I (x := (q9.2.2.2.getD i.toNat 0).toInt) (by omega)
  refine s_iload_n 1 dJ1_charAt_3b067_0 rfl rfl ?_
  refine s_aloadq_n 2 dJ1_charAt_3b067_1 rfl rfl ?_
  refine s_qlen 3 dJ1_charAt_3b067_2 rfl hk ?_
  refine s_callS0 (M' := M_J0_checkIndex_df160) (as := [_, _]) 6 dJ1_charAt_3b067_3 rfl cw_J1_9 rfl rfl (Nat.le_of_ble_eq_true rfl) (Nat.le_of_ble_eq_true rfl) (Nat.le_of_ble_eq_true rfl) ⟨rfl, rfl, rfl⟩ ?_
  refine c_J0_checkIndex_df160 hi (by omega) ?_
  refine s_aloadq_n 7 dJ1_charAt_3b067_6 rfl rfl ?_
  refine s_iload_n 8 dJ1_charAt_3b067_7 rfl rfl ?_
  refine s_qbld 9 dJ1_charAt_3b067_8 rfl hk hi (by omega) ?_
  refine s_sipush 12 dJ1_charAt_3b067_9 rfl (by omega) ?_
  refine s_iand 13 dJ1_charAt_3b067_12 rfl ?_
  rw [hc.2.2]
  refine s_i2c 14 dJ1_charAt_3b067_13 rfl hc.2.1 ?_
  refine s_cret (ty := .char) dJ1_charAt_3b067_14 rfl hc.1 rfl ?_
  rw [wS_at hk (by omega)]
  exact h
set_option maxHeartbeats 4000000 in
theorem c_J0_charAt_5068e {E : ET} {I : MI} {L : ML} {R : MR} {Q : Option AV → MI → ML → MR → Prop} {k : Nat} {q9 : ST0} {i : Int} (hk : STRS[k]? = some q9) (hi : 0 ≤ i ∧ i < ((wS k).length : Int)) (h : Q (some (vi ((wS k).getD i.toNat 0))) I L R) : CT E M_J0_charAt_5068e 161 yJ0_charAt_5068e [(vq 0 (k)), (vi (i))] I L R Q := by
  refine CT_of rfl rfl (fun h => by cases h) (Nat.le_of_ble_eq_true rfl) (fun X => ?_)
  show V X _ z0 0 [some (vq 0 (k)), some (vi (i))] [] I L R _
  have hb := ST_at hk
  have hv := hb.2.2.2 i.toNat (by rw [wS_len hk] at hi; omega)
  have hc := c7I (x := (q9.2.2.2.getD i.toNat 0).toInt) (by omega)
  rw [wS_at hk (by rw [wS_len hk] at hi; omega)] at hc
  refine s_aloadq_n 1 dJ0_charAt_5068e_0 rfl rfl ?_
  refine s_callQ0 (M' := M_J0_isLatin1_aae02) (as := []) 4 dJ0_charAt_5068e_1 rfl cw_J0_492 rfl rfl hk (Nat.le_of_ble_eq_true rfl) (Nat.le_of_ble_eq_true rfl) (Nat.le_of_ble_eq_true rfl) ⟨rfl, rfl, rfl⟩ ?_
  refine c_J0_isLatin1_aae02 hk ?_
  refine s_if_eq 16 7 dJ0_charAt_5068e_4 rfl rfl (by omega) (fun h_3 => by omega) (fun _ => ?_)
  refine s_aloadq_n 8 dJ0_charAt_5068e_7 rfl rfl ?_
  refine s_qval 11 dJ0_charAt_5068e_8 rfl rfl fq_9 hk ?_
  refine s_iload_n 12 dJ0_charAt_5068e_11 rfl rfl ?_
  refine s_callS0 (M' := M_J1_charAt_3b067) (as := [_, _]) 15 dJ0_charAt_5068e_12 rfl cw_J0_495 rfl rfl (Nat.le_of_ble_eq_true rfl) (Nat.le_of_ble_eq_true rfl) (Nat.le_of_ble_eq_true rfl) ⟨rfl, rfl, rfl⟩ ?_
  refine c_J1_charAt_3b067 hk hi ?_
  refine s_cret (ty := .char) dJ0_charAt_5068e_15 rfl hc.1 rfl ?_
  exact h
