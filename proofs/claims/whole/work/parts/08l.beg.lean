/-! the law's beginning: what the Statement gives of the start; objects made -/
def strC (q : ST0) : List Cond := [.exactly (.string q.1 q.2.1) "java/lang/String", .eq (.field (.string q.1 q.2.1) "java/lang/String" "coder" "B") (.int 0), .arrayOf (.field (.string q.1 q.2.1) "java/lang/String" "value" "[B") .byte, .eq (.length (.field (.string q.1 q.2.1) "java/lang/String" "value" "[B")) (.int (Int32.ofNat q.2.2.2.length))] ++
  (List.range q.2.2.2.length).map (fun j => .eq (.elem (.field (.string q.1 q.2.1) "java/lang/String" "value" "[B") (.int (Int32.ofNat j))) (.int (q.2.2.2.getD j 0)))
/-- one list's words, in their order, among another's -/
def subq : List Cond → List Cond → Bool
  | [], _ => true
  | _ :: _, [] => false
  | a :: l, b :: m => if a = b then subq l m else subq (a :: l) m
theorem subq_in : ∀ (m l : List Cond), subq l m = true → ∀ w ∈ l, w ∈ m
  | m, [], _, w, hw => by cases hw
  | [], a :: l, h, w, hw => by cases h
  | b :: m, a :: l, h, w, hw => by
    unfold subq at h
    by_cases e : a = b
    · rw [if_pos e] at h
      rcases List.mem_cons.mp hw with h1 | h1
      · rw [h1, e]; exact List.mem_cons_self
      · exact List.mem_cons_of_mem _ (subq_in m l h w h1)
    · rw [if_neg e] at h
      exact List.mem_cons_of_mem _ (subq_in m (a :: l) h w hw)
theorem str_sub : subq (STRS.flatMap strC) (flatC (Cond.and given_1 narrow_1)) = true := by decide +kernel
theorem str_in : ∀ q ∈ STRS, ∀ w ∈ strC q, w ∈ flatC (Cond.and given_1 narrow_1) := fun q hq w hw => subq_in _ _ str_sub w (List.mem_flatMap.mpr ⟨q, hq, hw⟩)
theorem str_rf : ∀ q ∈ STRS, Cond.stringRef q.1 q.2.1 q.2.2.1 ∈ lw_tbl := by decide +kernel
theorem str_ln : ∀ q ∈ STRS, q.2.2.2.length < 2 ^ 31 := by decide +kernel
theorem str_of {args : Array Value} {s : State} {A : Nat → Prop} (hg : (Cond.and given_1 narrow_1).before args s = true) (hts : ∀ w ∈ lw_tbl, w.before args s = true) (hA : ∀ a : Nat, a < s.heap.size → ¬ A a) {q : ST0} (hm : q ∈ STRS) :
    ∃ x : Nat × Nat, vk_R q.1 q.2.1 q.2.2.1 x.1 s ∧ va_O "java/lang/String" x.1 A s s.heap ∧ va_OF "java/lang/String" "coder" "B" (.int 0) x.1 A s s.heap ∧ va_OF "java/lang/String" "value" "[B" (.ref x.2) x.1 A s s.heap ∧ va_T .byte x.2 q.2.2.2.length (fun j => .int (q.2.2.2.getD j 0)) A s s.heap := by
  have hq : ∀ w ∈ strC q, w.before args s = true := fun w hw => flat_of_before _ hg w (str_in q hm w hw)
  have e1 : (Cond.exactly (.string q.1 q.2.1) "java/lang/String").before args s = true := hq _ (by simp [strC])
  have e2 : (Cond.eq (.field (.string q.1 q.2.1) "java/lang/String" "coder" "B") (.int 0)).before args s = true := hq _ (by simp [strC])
  have e3 : (Cond.arrayOf (.field (.string q.1 q.2.1) "java/lang/String" "value" "[B") .byte).before args s = true := hq _ (by simp [strC])
  have e4 : (Cond.eq (.length (.field (.string q.1 q.2.1) "java/lang/String" "value" "[B")) (.int (Int32.ofNat q.2.2.2.length))).before args s = true := hq _ (by simp [strC])
  have e5 : ∀ j : Nat, j < q.2.2.2.length → (Cond.eq (.elem (.field (.string q.1 q.2.1) "java/lang/String" "value" "[B") (.int (Int32.ofNat j))) (.int (q.2.2.2.getD j 0))).before args s = true := fun j hj => hq _ (List.mem_append_right _ (List.mem_map.mpr ⟨j, List.mem_range.mpr hj, rfl⟩))
  obtain ⟨a, c, cA, kA, q1, q2, q3, q4, q5, q6, -⟩ := Cond.exactly_spec (args := args) (first := s) (o := none) (s := s) (idx := []) (t := .string q.1 q.2.1) (cls := "java/lang/String") e1
  obtain ⟨t, ht, hT⟩ := va_Tof (f := fun j => .int (q.2.2.2.getD j 0)) (A := A) (str_ln q hm) e3 (va_eqt e4) (fun j hj => va_eqt (e5 j hj)) hA
  exact ⟨(a, t), vk_R.of (hts _ (str_rf q hm)) q1, ⟨cA, q3, q5, by rw [q6]; exact q2, hA a (Array.getElem?_eq_some_iff.mp q3).1⟩, vk_OFof q1 (va_eqt e2) hA, vk_OFof q1 ht hA, hT⟩
/-- classes, known -/
theorem cls_of {args : Array Value} {s : State} (hts : ∀ w ∈ TB, w.before args s = true) : ∃ D : va_G, ∀ (k : Nat) (q : vw_C), vwCl[k]? = some q → u_Kn s q.1 q.2.1 q.2.2 (D.1 k) (D.2 k) := by
  have h0 : ∀ k : Nat, ∃ x : ClassId × (Nat → Nat), ∀ q : vw_C, vwCl[k]? = some q → u_Kn s q.1 q.2.1 q.2.2 x.1 x.2 := by
    intro k
    by_cases hk : k < 12
    · rcases (show k = 0 ∨ k = 1 ∨ k = 2 ∨ k = 3 ∨ k = 4 ∨ k = 5 ∨ k = 6 ∨ k = 7 ∨ k = 8 ∨ k = 9 ∨ k = 10 ∨ k = 11 by omega) with h | h | h | h | h | h | h | h | h | h | h | h <;> subst h
      · obtain ⟨c, i, g⟩ := u_known (C := RX0) (T := TX0) (N := 6) hts inX0 (hts _ nwi_X0); exact ⟨(c, i), fun q hq => by cases hq; exact g⟩
      · obtain ⟨c, i, g⟩ := u_known (C := RX1) (T := TX1) (N := 8) hts inX1 (hts _ nwi_X1); exact ⟨(c, i), fun q hq => by cases hq; exact g⟩
      · obtain ⟨c, i, g⟩ := u_known (C := RX2) (T := TX2) (N := 3) hts inX2 (hts _ nwi_X2); exact ⟨(c, i), fun q hq => by cases hq; exact g⟩
      · obtain ⟨c, i, g⟩ := u_known (C := RX4) (T := TX4) (N := 13) hts inX4 (hts _ nwi_X4); exact ⟨(c, i), fun q hq => by cases hq; exact g⟩
      · obtain ⟨c, i, g⟩ := u_known (C := RX5) (T := TX5) (N := 19) hts inX5 (hts _ nwi_X5); exact ⟨(c, i), fun q hq => by cases hq; exact g⟩
      · obtain ⟨c, i, g⟩ := u_known (C := RX6) (T := TX6) (N := 8) hts inX6 (hts _ nwi_X6); exact ⟨(c, i), fun q hq => by cases hq; exact g⟩
      · obtain ⟨c, i, g⟩ := u_known (C := RX7) (T := TX7) (N := 6) hts inX7 (hts _ nwi_X7); exact ⟨(c, i), fun q hq => by cases hq; exact g⟩
      · obtain ⟨c, i, g⟩ := u_known (C := RX8) (T := TX8) (N := 3) hts inX8 (hts _ nwi_X8); exact ⟨(c, i), fun q hq => by cases hq; exact g⟩
      · obtain ⟨c, i, g⟩ := u_known (C := RX9) (T := TX9) (N := 2) hts inX9 (hts _ nwi_X9); exact ⟨(c, i), fun q hq => by cases hq; exact g⟩
      · obtain ⟨c, i, g⟩ := u_known (C := RX10) (T := TX10) (N := 7) hts inX10 (hts _ nwi_X10); exact ⟨(c, i), fun q hq => by cases hq; exact g⟩
      · obtain ⟨c, i, g⟩ := u_known (C := RX11) (T := TX11) (N := 13) hts inX11 (hts _ nwi_X11); exact ⟨(c, i), fun q hq => by cases hq; exact g⟩
      · obtain ⟨c, i, g⟩ := u_known (C := RX12) (T := TX12) (N := 38) hts inX12 (hts _ nwi_X12); exact ⟨(c, i), fun q hq => by cases hq; exact g⟩
    · refine ⟨(0, fun _ => 0), fun q hq => ?_⟩
      have h9 := (List.getElem?_eq_some_iff.mp hq).1
      exact absurd h9 (by show ¬ k < 12; exact hk)
  obtain ⟨f, hf⟩ := Classical.axiomOfChoice h0
  exact ⟨(fun k => (f k).1, fun k => (f k).2), hf⟩
theorem arr_of {args : Array Value} {s : State} {ty : FieldType} (ht : ty = .int ∨ ty = .long ∨ ty = .boolean) (h : (Cond.arrayClass ty).before args s = true) : ∃ cA : ClassId, ArrOfT s cA ty ∧ va_RA s cA ty := by
  obtain ⟨cA, kA, comp, f1, f2, f3⟩ := Cond.arrayClass_spec h
  refine ⟨cA, fun N z => ⟨(fun k h => by cases h), kA, f2, comp, f3⟩, ?_⟩
  rcases ht with rfl | rfl | rfl <;> exact f1
theorem arr_of2 {args : Array Value} {s : State} (h : (Cond.arrayOver (.array .int)).before args s = true) : ∃ cA : ClassId, ArrOfT s cA (.array .int) ∧ va_RA s cA (.array .int) := by
  obtain ⟨comp, cA, kA, f0, f2, f3, f4⟩ := Cond.arrayOver_specA h
  exact ⟨cA, fun N z => ⟨(fun k h => by cases h), kA, f2, comp, f3⟩, f4⟩
theorem nw_of {args : Array Value} {s : State} {w : Cond} (hg : isNw w = true) (h : w.before args s = true) : va_Nw w s := by
  cases w <;> first | (simp [isNw] at hg; done) | exact va_Nw.of rfl h | exact h
theorem st_in1 : Cond.eq (.static "java/lang/String" "COMPACT_STRINGS" "Z") (.int 1) ∈ flatC (Cond.and given_1 narrow_1) := by decide +kernel
theorem st_in2 : Cond.isRef (.static "jdk/internal/util/Preconditions" "SIOOBE_FORMATTER" "Ljava/util/function/BiFunction;") ∈ flatC (Cond.and given_1 narrow_1) := by decide +kernel
theorem st_in3 : Cond.isRef (.static Bundle.tN "UNASSIGNED_STACK" Bundle.steD) ∈ flatC (Cond.and given_1 narrow_1) := by decide +kernel
theorem st_in4 : Cond.isRef (.static Bundle.tN "SUPPRESSED_SENTINEL" Bundle.listD) ∈ flatC (Cond.and given_1 narrow_1) := by decide +kernel
theorem st_l1 : Cond.laysStatic "java/lang/String" "COMPACT_STRINGS" "Z" ∈ lw_tbl := by decide +kernel
theorem st_l2 : Cond.laysStatic "jdk/internal/util/Preconditions" "SIOOBE_FORMATTER" "Ljava/util/function/BiFunction;" ∈ lw_tbl := by decide +kernel
theorem st_l3 : Cond.laysStatic Bundle.tN "UNASSIGNED_STACK" Bundle.steD ∈ lw_tbl := by decide +kernel
theorem st_l4 : Cond.laysStatic Bundle.tN "SUPPRESSED_SENTINEL" Bundle.listD ∈ lw_tbl := by decide +kernel
theorem st_i1 : Cond.initialized "java/lang/String" ∈ lw_tbl := by decide +kernel
theorem st_i2 : Cond.initialized "jdk/internal/util/Preconditions" ∈ lw_tbl := by decide +kernel
theorem st_i3 : Cond.initialized Bundle.tN ∈ lw_tbl := by decide +kernel
theorem st_c : Cond.castable NSE NSE ∈ lw_tbl := by decide +kernel
/-- all constants of the start -/
theorem G_of {args : Array Value} {s : State} (b : Nat) (hg : (Cond.and given_1 narrow_1).before args s = true) (hts : ∀ w ∈ lw_tbl, w.before args s = true) :
    ∃ G : GT, gb G = s.heap.size ∧ gH G = s.heap ∧ gs G 3 0 = b ∧ KF G s ∧ KT G s := by
  have hA : ∀ a : Nat, a < s.heap.size → ¬ (fun q : Nat => s.heap.size ≤ q) a := fun a ha => Nat.not_le.mpr ha
  have htb : ∀ w ∈ TB, w.before args s = true := fun w hw => hts w (TB_in hw)
  have hq := flat_of_before _ hg
  obtain ⟨D, hD⟩ := cls_of htb
  obtain ⟨cI, i1, i2⟩ := arr_of (Or.inl rfl) (htb _ na_i)
  obtain ⟨cJ, j1, j2⟩ := arr_of (Or.inr (Or.inl rfl)) (htb _ na_l)
  obtain ⟨cZ, z1, z2⟩ := arr_of (Or.inr (Or.inr rfl)) (htb _ na_z)
  obtain ⟨cA, a1, a2⟩ := arr_of2 (hts _ (List.mem_filter.mp nao).1)
  have h0 : ∀ k : Nat, ∃ x : Nat × Nat, ∀ q : ST0, STRS[k]? = some q → vk_R q.1 q.2.1 q.2.2.1 x.1 s ∧ va_O "java/lang/String" x.1 (fun q : Nat => s.heap.size ≤ q) s s.heap ∧ va_OF "java/lang/String" "coder" "B" (.int 0) x.1 (fun q : Nat => s.heap.size ≤ q) s s.heap ∧ va_OF "java/lang/String" "value" "[B" (.ref x.2) x.1 (fun q : Nat => s.heap.size ≤ q) s s.heap ∧ va_T .byte x.2 q.2.2.2.length (fun j => .int (q.2.2.2.getD j 0)) (fun q : Nat => s.heap.size ≤ q) s s.heap := by
    intro k
    cases hk : STRS[k]? with
    | none => exact ⟨(0, 0), fun q h => by cases h⟩
    | some q =>
      obtain ⟨x, hx⟩ := str_of (A := fun q : Nat => s.heap.size ≤ q) hg hts hA (List.mem_of_getElem? hk)
      exact ⟨x, fun q' h => by cases h; exact hx⟩
  obtain ⟨ad, had⟩ := Classical.axiomOfChoice h0
  have k1 := va_Zof (A := fun q : Nat => s.heap.size ≤ q) (hts _ st_l1) (hts _ st_i1) (va_eqt (hq _ st_in1)) hA
  have k2 := va_Zqof (A := fun q : Nat => s.heap.size ≤ q) (hts _ st_l2) (hts _ st_i2) (hq _ st_in2) hA
  obtain ⟨t9, ht9⟩ : ∃ t9 : Nat, va_Z "jdk/internal/util/Preconditions" "SIOOBE_FORMATTER" "Ljava/util/function/BiFunction;" (.ref t9) (fun q : Nat => s.heap.size ≤ q) s s.heap ∨ va_Z "jdk/internal/util/Preconditions" "SIOOBE_FORMATTER" "Ljava/util/function/BiFunction;" .null (fun q : Nat => s.heap.size ≤ q) s s.heap := by
    rcases k2 with k2 | ⟨t, k2⟩
    · exact ⟨0, Or.inr k2⟩
    · exact ⟨t, Or.inl k2⟩
  refine ⟨(s.heap.size, s.heap, D, (cI, cJ, cZ, cA), fun t k => if t = 0 then (ad k).1 else if t = 1 then (ad k).2 else if t = 2 then t9 else b), rfl, rfl, rfl, ⟨⟨hD, ?_⟩, fun w hw => nw_of (List.mem_filter.mp hw).2 (hts w (List.mem_filter.mp hw).1), fun k q hk => had k q hk, k1, ht9⟩, ?_, ?_, va_Nw.of rfl (hts _ st_c)⟩
  · intro k q hk
    rcases k with _ | _ | _ | _ | k
    · cases hk; exact ⟨i1, i2⟩
    · cases hk; exact ⟨j1, j2⟩
    · cases hk; exact ⟨z1, z2⟩
    · cases hk; exact ⟨a1, a2⟩
    · simp at hk
  · exact vx_Zqof (hts _ st_l3) (hts _ st_i3) (hq _ st_in3) hA
  · exact vx_Zqof (hts _ st_l4) (hts _ st_i3) (hq _ st_in4) hA
set_option maxHeartbeats 8000000 in
/-- from the entry to the loop -/
theorem lw_body {X : XT} {F : State → Prop} {Ls : Int} {sc : Int → Int} (hS : ScX X Ls sc) (hLs : 0 ≤ Ls ∧ Ls ≤ 3072) (hKT : KT (xG X) (xs X)) (hfl : (xl X).stackTraces = false) (hend : ∀ (c' s' : Nat) (ls : List (Option AV)) (I : MI) (L : ML) (R : MR), V X M_L_law (c', s', 161) 1434 ls [] I L R F) :
    V X M_L_law (0, 0, 0) 0 [some (vq 3 0), none, none, none, none, none, none] [] (fun _ _ => 0) (fun _ _ => 0) (fun _ _ => none) F := by
  refine s_newo (ci := 10) 3 dL_law_0 rfl rfl (by decide) inX11 nw_L_8 nwi_X11 nwn_X11 tyX11_ok nok_X11 (by decide +kernel) (Nat.le_of_ble_eq_true rfl) (Nat.le_of_ble_eq_true rfl) (Nat.le_of_ble_eq_true rfl) ?_
  refine s_dup 4 dL_law_3 rfl rfl ?_
  refine s_callI (M' := M_X11_init 1) (as := []) 7 dL_law_4 rfl cw_L_15 rfl rfl (Nat.le_of_ble_eq_true rfl) (Nat.le_of_ble_eq_true rfl) (Nat.le_of_ble_eq_true rfl) (Nat.le_of_ble_eq_true rfl) (Nat.le_of_ble_eq_true rfl) ?_
  refine c_X11_init_0 ?_
  refine s_astore_n (ls' := [_, _, _, _, _, _, _]) 8 dL_law_7 rfl (Nat.le_of_ble_eq_true rfl) rfl rfl ?_
  refine s_newo (ci := 11) 11 dL_law_8 rfl rfl (by decide) inX12 nw_L_16 nwi_X12 nwn_X12 tyX12_ok nok_X12 (by decide +kernel) (Nat.le_of_ble_eq_true rfl) (Nat.le_of_ble_eq_true rfl) (Nat.le_of_ble_eq_true rfl) ?_
  refine s_dup 12 dL_law_11 rfl rfl ?_
  refine s_callI (M' := M_X12_init 139) (as := []) 15 dL_law_12 rfl cw_L_18 rfl rfl (Nat.le_of_ble_eq_true rfl) (Nat.le_of_ble_eq_true rfl) (Nat.le_of_ble_eq_true rfl) (Nat.le_of_ble_eq_true rfl) (Nat.le_of_ble_eq_true rfl) ?_
  refine c_X12_init_138 ?_
  refine s_astore_n (ls' := [_, _, _, _, _, _, _]) 16 dL_law_15 rfl (Nat.le_of_ble_eq_true rfl) rfl rfl ?_
  refine s_iconst 17 dL_law_16 rfl ?_
  refine s_newl (N := 1) 19 dL_law_17 rfl rfl na_l (by decide +kernel) (Nat.le_of_ble_eq_true rfl) (Nat.le_of_ble_eq_true rfl) (Nat.le_of_ble_eq_true rfl) (Nat.le_of_ble_eq_true rfl) ?_
  refine s_astore_n (ls' := [_, _, _, _, _, _, _]) 20 dL_law_19 rfl (Nat.le_of_ble_eq_true rfl) rfl rfl ?_
  refine s_iconst 21 dL_law_20 rfl ?_
  refine s_istore (ls' := [_, _, _, _, _, _, _]) 23 dL_law_21 rfl (Nat.le_of_ble_eq_true rfl) rfl rfl ?_
  show V X M_L_law (161, 8358, 161) 23 [some (vq 3 0), some (vr 0), some (vr 138), some (vr 160), some (vi 0), none, none] [] Ist Lst Rst F
  exact lw_loop hS hLs hKT hfl hend 513 161 8358 0 0 none none Ist Lst Rst (by omega) (by omega) (by omega) (by omega) (by omega) (by omega) (by omega) Jb.st
