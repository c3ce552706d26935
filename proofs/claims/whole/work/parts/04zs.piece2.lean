/-! the reference's piece and feed, walked -/
def Nrm (bt : F1) : Prop := (∀ k, ¬ (0 ≤ k ∧ k < 900) → bt k = 0) ∧ ∀ k, 0 ≤ bt k ∧ bt k ≤ 255
def setA (I : MI) (c : Nat) (f : F1) : MI := fun a => if a = c then f else I a
theorem setA_n {I : MI} {c a : Nat} {f : F1} (h : a ≠ c) : setA I c f a = I a := if_neg h
theorem setA_e {I : MI} {c : Nat} {f : F1} : setA I c f c = f := if_pos rfl
theorem V_set {X : XT} {M : MT} {z : Nat × Nat × Nat} {pc : Nat} {ls : List (Option AV)} {st : List AV} {I : MI} {L : ML} {R : MR} {F : State → Prop} {c N : Nat} (hs : sh c = (20, N)) (f : F1) (hf : ∀ k, 0 ≤ k → k < (N : Int) → f k = I c k) (hb : (∀ c k, -2147483648 ≤ I c k ∧ I c k ≤ 2147483647) → ∀ k, -2147483648 ≤ f k ∧ f k ≤ 2147483647) (k : V X M z pc ls st (setA I c f) L R F) : V X M z pc ls st I L R F :=
  V_ext (fun H hR => Rep_set hR hs hf (hb hR.2.2.2)) k
/-- what reading a text does to the rest -/
theorem MV.rd {I J I' : MI} {bt : F1} {n ft pl w : Int} {HP : Prop} {r s : F1} {U D K : List (List Int)} {q : Int × Int} {r1 : F1} {i : Int} (h : MV I bt n ft pl w HP r s U D K) (e1 : ∀ c, c ∉ [138, 139, 140, 142] → J c = I c) (e2 : ∀ k : Int, k ∉ [0, 2, 3, 5, 9, 11, 13] → J 138 k = I 138 k) (e3 : J 138 2 = 0) (e4 : J 139 = bt)
    (f : RFr J I') (hS : RSt I' bt i r1 (.inl q)) : Lo I (up I' 138 11 4) ∧ MV (up I' 138 11 4) bt 0 q.1 q.2 4 HP r s U D K := by
  obtain ⟨⟨a1, a2, a3, a4, a5, a6⟩, b, c, d, ⟨e1', e2'⟩, ⟨f1, f2⟩, g1, g2⟩ := h
  have fk : ∀ k : Int, k ∉ [0, 2, 3, 4, 5, 6, 7, 8, 9, 10, 11, 13] → up I' 138 11 4 138 k = I 138 k := fun k hk => by
    rw [upn (fun z => hk (by rw [z]; decide)), f.2.1 k (fun z => hk ((by decide : ∀ x ∈ ([4, 5, 6, 7, 8, 9, 10, 13] : List Int), x ∈ ([0, 2, 3, 4, 5, 6, 7, 8, 9, 10, 11, 13] : List Int)) k z)), e2 k (fun z => hk ((by decide : ∀ x ∈ ([0, 2, 3, 5, 9, 11, 13] : List Int), x ∈ ([0, 2, 3, 4, 5, 6, 7, 8, 9, 10, 11, 13] : List Int)) k z))]
  have fc : ∀ c, c ∉ [138, 139, 140, 142] → up I' 138 11 4 c = I c := fun c hc => by
    rw [up_ne (fun z => hc (by rw [z]; decide)), f.1 c (fun z => hc ((by decide : ∀ x ∈ ([138, 140, 142] : List Nat), x ∈ ([138, 139, 140, 142] : List Nat)) c z)), e1 c hc]
  refine ⟨fun c hc => fc c (by simp; omega), ⟨?_, fun k z1 z2 => ?_, ?_, ?_, ups, ?_⟩, ?_, ?_, ?_, ⟨?_, ?_⟩, ⟨?_, ?_⟩, ?_, ?_⟩
  · rw [upn (by decide), f.2.1 2 (by decide)]; exact e3
  · rw [up_ne (by decide), f.1 139 (by decide), e4]
  · rw [upn (by decide)]; exact hS.2.2.2.2.1
  · rw [upn (by decide)]; exact hS.2.2.2.2.2
  · rw [fk _ (by decide)]; exact a6
  · rw [fk _ (by decide)]; exact b
  · rw [fc _ (by decide)]; exact c
  · rw [fc _ (by decide)]; exact d
  · rw [fk _ (by decide)]; exact e1'
  · rw [fc _ (by decide)]; exact e2'
  · rw [fk _ (by decide)]; exact f1
  · rw [fc _ (by decide)]; exact f2
  · rw [fk _ (by decide)]; exact g1
  · rw [fc _ (by decide)]; exact g2
theorem cpI_at {I : MI} {a : Nat} {i : Int} {b : Nat} {j n k : Int} : cpI I a i b j n b k = if j ≤ k ∧ k < j + n then I a (i + (k - j)) else I b k := by rw [cpI_eq]
theorem rsE {bt r : F1} {n : Int} {o : PO} (h : isE o) : ∀ f : Nat, (rsF bt n f r o).1 = o
  | 0 => rfl
  | f + 1 => by
    obtain ⟨q, rfl⟩ := isE_t h
    rfl
theorem tkE_59 {bt : F1} {n b : Int} (h : tkE bt n b = 59) : b < n := by
  apply Classical.byContradiction
  intro z
  have e : tkE bt n b = 0 := pick_f z
  omega
theorem finF_l {bt : F1} {n : Int} {q : Int × Int} (h : (rdF bt n).1 = .inl q) : finF bt n = .inl q := by
  unfold finF
  cases hq : rdF bt n with
  | mk o r1 =>
    rw [hq] at h
    have h : o = .inl q := h
    subst h
    rfl
theorem finF_r {bt r : F1} {n b : Int} (h : (rdF bt n).1 = .inr b) (h2 : (rdF bt n).2 = r) : finF bt n = pick (tkE bt n b = 0) (pick (r 0 = 0 ∨ r 4 = 0 ∨ r 5 = 0) (.inl (6, b)) (.inr r)) (.inl (1, b)) := by
  unfold finF
  cases hq : rdF bt n with
  | mk o r1 =>
    rw [hq] at h h2
    have h : o = .inr b := h
    have h2 : r1 = r := h2
    subst h; subst h2
    rfl
set_option maxHeartbeats 4000000 in
theorem c_X12_piece {E : ET} {I : MI} {L : ML} {R : MR} {Q : Option AV → MI → ML → MR → Prop} {bt r s : F1} {nn ft pl w i : Int} {HP : Prop} {U D K : List (List Int)} (hT : Topo R) (hM : MV I bt nn ft pl w HP r s U D K) (hn : 0 ≤ nn ∧ nn ≤ 900) (hB : Nrm bt) (hi : -2147483648 ≤ i ∧ i ≤ 2147483647) (h : (¬ (0 ≤ i ∧ i ≤ nn) → ∀ I', Lo I I' → MV I' bt nn ft pl 2 HP r s U D K → Q (some (vi (-1))) I' L R) ∧ (0 ≤ i ∧ i ≤ nn → ∀ q, finF bt i = .inl q → ∀ I', Lo I I' → MV I' bt 0 q.1 q.2 4 HP r s U D K → Q (some (vi (-1))) I' L R) ∧ (0 ≤ i ∧ i ≤ nn → ∀ r', finF bt i = .inr r' → ∀ c B s' I', Lo I I' → ordL r' = c :: B → (∀ k, 0 ≤ k → k < r' 5 → s' k = vL c k) → (∀ p, 5 ≤ p → p < 13 → s' p = 0) → MV I' bt 0 0 (I' 138 10) 0 True r' s' [] [] [] → Q (some (vi (r' 7))) I' L R)) : CT E M_X12_piece 161 yX12_piece [(vr (138)), (vi (i))] I L R Q := by
  refine CT_of rfl rfl (fun h => by cases h) (Nat.le_of_ble_eq_true rfl) (fun X => ?_)
  show V X _ z0 0 [some (vr (138)), some (vi (i)), none] [] I L R _
  have hM0 := hM
  obtain ⟨⟨a1, a2, a3, a4, a5, a6⟩, b, c, d, ⟨e1, e2⟩, ⟨f1, f2⟩, g1, g2⟩ := hM
  have gt : up (up I 138 0 0) 138 11 0 138 2 = nn := (gd_f (by decide)).trans a1
  by_cases hi2 : 0 ≤ i ∧ i ≤ nn
  · obtain ⟨-, h2, h3⟩ := h
    have h2 := h2 hi2
    have h3 := h3 hi2
    have hb : ∀ k, 0 ≤ k → k < i → 0 ≤ bt k ∧ bt k ≤ 255 := fun k _ _ => hB.2 k
    have hn9 : 0 ≤ i ∧ i ≤ 900 := by omega
    -- the end, with or without a FAULT
    have bad : ∀ (J I1 : MI) (r1 : F1) (q : Int × Int), (∀ c, c ∉ [138, 139, 140, 142] → J c = I c) → (∀ k : Int, k ∉ [0, 2, 3, 5, 9, 11, 13] → J 138 k = I 138 k) → J 138 2 = 0 → J 139 = bt → RFr J I1 → RSt I1 bt i r1 (.inl q) → finF bt i = .inl q → ∀ w2, V X M_X12_piece z0 171 [some (vr 138), some (vi i), w2] [] I1 L R (RT X M_X12_piece Q) := by
      intro J I1 r1 q j1 j2 j3 j4 j5 j6 j7 w2
      obtain ⟨m1, m2⟩ := hM0.rd j1 j2 j3 j4 j5 j6
      refine s_aload_n 172 dX12_piece_171 rfl rfl ?_
      refine s_getI 175 dX12_piece_172 rfl fl_X12_119 (fun _ _ _ _ => rfl) sh_138 (Nat.le_of_ble_eq_true rfl) (fun r_172 => ?_)
      rw [j6.no]
      refine s_if_eq 184 178 dX12_piece_175 rfl rfl (by first | omega | exact bI_r _ | exact iI_r _) (fun h_175 => by exfalso; omega) (fun h_175 => ?_)
      refine s_aload_n 179 dX12_piece_178 rfl rfl ?_
      refine s_iconst 180 dX12_piece_179 rfl ?_
      refine s_callV0 (M' := M_X12_no) (as := [_]) 183 dX12_piece_180 rfl cw_X12_193 rfl rfl sh_138 rfl (by decide) (Nat.le_of_ble_eq_true rfl) (Nat.le_of_ble_eq_true rfl) (Nat.le_of_ble_eq_true rfl) (Nat.le_of_ble_eq_true rfl) ⟨rfl, rfl, rfl⟩ ?_
      refine c_X12_no (by omega) ?_
      refine s_iret dX12_piece_183 rfl rfl ?_
      exact h2 q j7 _ m1 m2
    have good : ∀ (J I1 : MI) (r1 : F1) (b : Int), (∀ c, c ∉ [138, 139, 140, 142] → J c = I c) → (∀ k : Int, k ∉ [0, 2, 3, 5, 9, 11, 13] → J 138 k = I 138 k) → J 138 2 = 0 → J 138 9 = 0 → J 138 11 = 0 → J 139 = bt → RFr J I1 → RSt I1 bt i r1 (.inr b) → True → finF bt i = .inr r1 → ∀ w2, V X M_X12_piece z0 171 [some (vr 138), some (vi i), w2] [] I1 L R (RT X M_X12_piece Q) := by
      intro J I1 r1 b9 j1 j2 j3 j9 j11 j4 j5 j6 j8 j7 w2
      obtain ⟨hW, hWr⟩ := finF_w j7
      have e0 := hWr.1
      have f14 : I1 138 13 = 0 := j6.ok
      have nof : ∀ k : Int, k ∉ [0, 2, 3, 4, 5, 6, 7, 8, 9, 10, 11, 13] → I1 138 k = I 138 k := fun k hk => by
        rw [j5.2.1 k (fun z => hk ((by decide : ∀ x ∈ ([4, 5, 6, 7, 8, 9, 10, 13] : List Int), x ∈ ([0, 2, 3, 4, 5, 6, 7, 8, 9, 10, 11, 13] : List Int)) k z)), j2 k (fun z => hk ((by decide : ∀ x ∈ ([0, 2, 3, 5, 9, 11, 13] : List Int), x ∈ ([0, 2, 3, 4, 5, 6, 7, 8, 9, 10, 11, 13] : List Int)) k z))]
      have noc : ∀ c, c ∉ [138, 139, 140, 142] → I1 c = I c := fun c hc => by
        rw [j5.1 c (fun z => hc ((by decide : ∀ x ∈ ([138, 140, 142] : List Nat), x ∈ ([138, 139, 140, 142] : List Nat)) c z)), j1 c hc]
      -- the last steps
      have last : ∀ I2 : MI, I2 138 2 = 0 → I2 138 9 = 0 → I2 138 11 = 0 → I2 138 14 = 1 → I2 138 30 = -1 → I2 138 22 = 0 → I2 138 23 = 0 → I2 138 24 = 0 → I2 139 = bt → I2 141 = r1 → (∀ c, c < 138 → I2 c = I c) → (∀ k, 0 ≤ k → k < 13 → I2 143 k = 0) → ∀ w2, V X M_X12_piece z0 241 [some (vr 138), some (vi i), w2] [] I2 L R (RT X M_X12_piece Q) := by
        intro I2 k2 k9 k11 k14 k30 k22 k23 k24 k139 k141 klo k143 w2
        refine s_aload_n 242 dX12_piece_241 rfl rfl ?_
        refine s_callV0 (M' := M_X12_firstOrder) (as := []) 245 dX12_piece_242 rfl cw_X12_215 rfl rfl sh_138 rfl (by decide) (Nat.le_of_ble_eq_true rfl) (Nat.le_of_ble_eq_true rfl) (Nat.le_of_ble_eq_true rfl) (Nat.le_of_ble_eq_true rfl) ⟨rfl, rfl, rfl⟩ ?_
        refine c_X12_firstOrder2 hT k141 hWr (fun P I3 q1 q2 q3 => ?_)
        have hP : P := Classical.byContradiction (fun z => ord_ex hWr hW.2.2.2.2.2.2.2.2.2.2.2 (q3 z))
        obtain ⟨A, c9, B, p1, p2, p3, p4⟩ := q2 hP
        have eo : ordL r1 = c9 :: B.filter (ordB r1) := (by unfold ordL; rw [p1, List.filter_append, p2, List.filter_cons_of_pos (ordB_t.mpr p3)]; rfl)
        refine s_pop 246 dX12_piece_245 rfl rfl ?_
        refine s_aload_n 247 dX12_piece_246 rfl rfl ?_
        refine s_getR 250 dX12_piece_247 rfl fl_X12_41 (fun _ _ _ _ => rfl) (T_X12_row hT) sh_138 (Nat.le_of_ble_eq_true rfl) ?_
        refine s_iconst 251 dX12_piece_250 rfl ?_
        refine s_aload_n 252 dX12_piece_251 rfl rfl ?_
        refine s_getR 255 dX12_piece_252 rfl fl_X12_26 (fun _ _ _ _ => rfl) (T_X12_st hT) sh_138 (Nat.le_of_ble_eq_true rfl) ?_
        refine s_iconst 256 dX12_piece_255 rfl ?_
        refine s_iconst 257 dX12_piece_256 rfl ?_
        refine s_callS0 (M' := M_X12_copy) (as := [_, _, _, _, _]) 260 dX12_piece_257 rfl cw_X12_199 rfl rfl (Nat.le_of_ble_eq_true rfl) (Nat.le_of_ble_eq_true rfl) (Nat.le_of_ble_eq_true rfl) ⟨rfl, rfl, rfl⟩ ?_
        refine c_X12_copy sh_148 sh_143 (by decide) (by decide) (by decide) (by decide) (by omega) (by omega) (by omega) ?_
        have er3 : cpI I3 148 0 143 0 5 141 = r1 := (by rw [cpI_ne (by decide), q1 141 (by decide)]; exact k141)
        refine s_aload_n 261 dX12_piece_260 rfl rfl ?_
        refine s_getR 264 dX12_piece_261 rfl fl_X12_20 (fun _ _ _ _ => rfl) (T_X12_r hT) sh_138 (Nat.le_of_ble_eq_true rfl) ?_
        refine s_bipush 266 dX12_piece_264 rfl (by decide) ?_
        refine s_iald 267 dX12_piece_266 rfl sh_141 (Nat.le_of_ble_eq_true rfl) (by omega) (by omega) (fun r_266 => ?_)
        rw [er3] at r_266 ⊢
        refine s_iret dX12_piece_267 rfl rfl ?_
        have u : ∀ c, c ≠ 143 → c ≠ 148 → cpI I3 148 0 143 0 5 c = I2 c := fun c z1 z2 => by rw [cpI_ne z1]; exact q1 c (by simpa using z2)
        refine h3 r1 j7 c9 _ _ _ (fun c hc => by rw [u c (by omega) (by omega)]; exact klo c hc) eo (fun k z1 z2 => ?_) (fun k z1 z2 => ?_) ⟨⟨?_, fun k z1 z2 => ?_, ?_, rfl, ?_, ?_⟩, ?_, er3, rfl, ⟨?_, rfl⟩, ⟨?_, rfl⟩, ?_, rfl⟩
        · rw [cpI_at, if_pos (by omega), show (0 : Int) + (k - 0) = k by omega]; exact p4 k z1 z2
        · rw [cpI_at, if_neg (by omega), q1 143 (by decide)]; exact k143 k (by omega) z2
        · rw [u 138 (by decide) (by decide)]; exact k2
        · rw [u 139 (by decide) (by decide), k139]
        · rw [u 138 (by decide) (by decide)]; exact k9
        · rw [u 138 (by decide) (by decide)]; exact k11
        · rw [u 138 (by decide) (by decide), bI_t trivial]; exact k14
        · rw [u 138 (by decide) (by decide)]; exact k30
        · rw [u 138 (by decide) (by decide)]; exact k22
        · rw [u 138 (by decide) (by decide)]; exact k23
        · rw [u 138 (by decide) (by decide)]; exact k24
      have zero : ∀ (f : Nat) (k : Int) (I2 : MI), 13 - k < (f : Int) → 0 ≤ k → k ≤ 13 → I2 138 2 = 0 → I2 138 9 = 0 → I2 138 11 = 0 → I2 138 14 = 1 → I2 138 30 = -1 → I2 138 22 = 0 → I2 138 23 = 0 → I2 138 24 = 0 → I2 139 = bt → I2 141 = r1 → (∀ c, c < 138 → I2 c = I c) → (∀ j, 0 ≤ j → j < k → I2 143 j = 0) → V X M_X12_piece z0 222 [some (vr (138)), some (vi (i)), some (vi (k))] [] (I2) L R (RT X M_X12_piece Q) := by
        intro f
        induction f with
        | zero => intro k I2 z1 z2 z3; omega
        | succ f ih =>
          intro k I2 z1 z2 z3 k2 k9 k11 k14 k30 k22 k23 k24 k139 k141 klo k143
          refine s_iload_n 223 dX12_piece_222 rfl rfl ?_
          refine s_bipush 225 dX12_piece_223 rfl (by decide) ?_
          refine s_icmp_ge 241 228 dX12_piece_225 rfl rfl (by first | omega | exact bI_r _ | exact iI_r _) (by first | omega | exact bI_r _ | exact iI_r _) (fun h_225 => ?_) (fun h_225 => ?_)
          · skip
            exact last I2 k2 k9 k11 k14 k30 k22 k23 k24 k139 k141 klo (fun j y1 y2 => k143 j y1 (by omega)) _
          refine s_aload_n 229 dX12_piece_228 rfl rfl ?_
          refine s_getR 232 dX12_piece_229 rfl fl_X12_26 (fun _ _ _ _ => rfl) (T_X12_st hT) sh_138 (Nat.le_of_ble_eq_true rfl) ?_
          refine s_iload_n 233 dX12_piece_232 rfl rfl ?_
          refine s_iconst 234 dX12_piece_233 rfl ?_
          refine s_iast 235 dX12_piece_234 rfl sh_143 (Nat.le_of_ble_eq_true rfl) (by omega) (by omega) (by first | omega | exact bI_r _ | exact iI_r _) ?_
          refine s_iinc (ls' := [_, _, _]) 238 dX12_piece_235 rfl rfl (Nat.le_of_ble_eq_true rfl) rfl rfl ?_
          refine s_goto 222 dX12_piece_238 rfl ?_
          have n143 : ∀ c, c ≠ 143 → up I2 143 k 0 c = I2 c := fun c hc => up_ne hc
          refine ih (k + 1) _ (by omega) (by omega) (by omega) (by rw [n143 _ (by decide)]; exact k2) (by rw [n143 _ (by decide)]; exact k9) (by rw [n143 _ (by decide)]; exact k11) (by rw [n143 _ (by decide)]; exact k14) (by rw [n143 _ (by decide)]; exact k30) (by rw [n143 _ (by decide)]; exact k22) (by rw [n143 _ (by decide)]; exact k23) (by rw [n143 _ (by decide)]; exact k24) (by rw [n143 _ (by decide)]; exact k139) (by rw [n143 _ (by decide)]; exact k141) (fun c hc => by rw [n143 _ (by omega)]; exact klo c hc) (fun j y1 y2 => ?_)
          rw [upd9]
          by_cases ej : j = k
          · rw [if_pos ej]
          · rw [if_neg ej]; exact k143 j y1 (by omega)
      have copied : V X M_X12_piece z0 200 [some (vr 138), some (vi i), w2] [] (setA (cpI I1 142 0 141 0 281) 141 r1) L R (RT X M_X12_piece Q) := by
        have u : ∀ c, c ≠ 141 → setA (cpI I1 142 0 141 0 281) 141 r1 c = I1 c := fun c hc => by rw [setA_n hc, cpI_ne hc]
        have f9 : I1 138 9 = 0 := by rw [(j5.2.2 f14).2.1]; exact j9
        have f2' : I1 138 2 = 0 := by rw [j5.2.1 2 (by decide)]; exact j3
        have f11 : I1 138 11 = 0 := by rw [j5.2.1 11 (by decide)]; exact j11
        have f30 : I1 138 30 = -1 := by rw [nof 30 (by decide)]; exact b
        have f139 : I1 139 = bt := by rw [j5.1 139 (by decide)]; exact j4
        refine s_aload_n 201 dX12_piece_200 rfl rfl ?_
        refine s_iconst 202 dX12_piece_201 rfl ?_
        refine s_putI 205 dX12_piece_202 rfl fl_X12_203 (fun _ => x_nz (by omega)) (fun _ => rfl) (fun _ _ _ _ => rfl) sh_138 (Nat.le_of_ble_eq_true rfl) (by first | omega | exact bI_r _ | exact iI_r _) ?_
        refine s_aload_n 206 dX12_piece_205 rfl rfl ?_
        refine s_iconst 207 dX12_piece_206 rfl ?_
        refine s_putI 210 dX12_piece_207 rfl fl_X12_206 (fun _ => rfl) (fun _ => rfl) (fun _ _ _ _ => rfl) sh_138 (Nat.le_of_ble_eq_true rfl) (by first | omega | exact bI_r _ | exact iI_r _) ?_
        refine s_aload_n 211 dX12_piece_210 rfl rfl ?_
        refine s_iconst 212 dX12_piece_211 rfl ?_
        refine s_putI 215 dX12_piece_212 rfl fl_X12_209 (fun _ => rfl) (fun _ => rfl) (fun _ _ _ _ => rfl) sh_138 (Nat.le_of_ble_eq_true rfl) (by first | omega | exact bI_r _ | exact iI_r _) ?_
        refine s_aload_n 216 dX12_piece_215 rfl rfl ?_
        refine s_iconst 217 dX12_piece_216 rfl ?_
        refine s_putI 220 dX12_piece_217 rfl fl_X12_212 (fun _ => rfl) (fun _ => rfl) (fun _ _ _ _ => rfl) sh_138 (Nat.le_of_ble_eq_true rfl) (by first | omega | exact bI_r _ | exact iI_r _) ?_
        refine s_iconst 221 dX12_piece_220 rfl ?_
        refine s_istore_n (ls' := [_, _, _]) 222 dX12_piece_221 rfl (Nat.le_of_ble_eq_true rfl) rfl rfl ?_
        refine zero 14 0 _ (by omega) (by omega) (by omega) ?_ ?_ ?_ ?_ ?_ ?_ ?_ ?_ ?_ ?_ (fun c hc => ?_) (fun j y1 y2 => by omega)
        · rw [upn (by decide), upn (by decide), upn (by decide), upn (by decide), u 138 (by decide)]; exact f2'
        · rw [upn (by decide), upn (by decide), upn (by decide), upn (by decide), u 138 (by decide)]; exact f9
        · rw [upn (by decide), upn (by decide), upn (by decide), upn (by decide), u 138 (by decide)]; exact f11
        · rw [upn (by decide), upn (by decide), upn (by decide), ups]
        · rw [upn (by decide), upn (by decide), upn (by decide), upn (by decide), u 138 (by decide)]; exact f30
        · rw [upn (by decide), upn (by decide), ups]
        · rw [upn (by decide), ups]
        · rw [ups]
        · rw [up_ne (by decide), up_ne (by decide), up_ne (by decide), up_ne (by decide), u 139 (by decide)]; exact f139
        · rw [up_ne (by decide), up_ne (by decide), up_ne (by decide), up_ne (by decide)]; exact setA_e
        · rw [up_ne (by omega), up_ne (by omega), up_ne (by omega), up_ne (by omega), u c (by omega)]; exact noc c (by simp; omega)
      refine s_aload_n 172 dX12_piece_171 rfl rfl ?_
      refine s_getI 175 dX12_piece_172 rfl fl_X12_119 (fun _ _ _ _ => rfl) sh_138 (Nat.le_of_ble_eq_true rfl) (fun r_172 => ?_)
      rw [j6.ok]
      refine s_if_eq 184 178 dX12_piece_175 rfl rfl (by first | omega | exact bI_r _ | exact iI_r _) (fun h_175 => ?_) (fun h_175 => by exfalso; omega)
      refine s_aload_n 185 dX12_piece_184 rfl rfl ?_
      refine s_getR 188 dX12_piece_185 rfl fl_X12_23 (fun _ _ _ _ => rfl) (T_X12_fresh hT) sh_138 (Nat.le_of_ble_eq_true rfl) ?_
      refine s_iconst 189 dX12_piece_188 rfl ?_
      refine s_aload_n 190 dX12_piece_189 rfl rfl ?_
      refine s_getR 193 dX12_piece_190 rfl fl_X12_20 (fun _ _ _ _ => rfl) (T_X12_r hT) sh_138 (Nat.le_of_ble_eq_true rfl) ?_
      refine s_iconst 194 dX12_piece_193 rfl ?_
      refine s_sipush 197 dX12_piece_194 rfl (by decide) ?_
      refine s_callS0 (M' := M_X12_copy) (as := [_, _, _, _, _]) 200 dX12_piece_197 rfl cw_X12_199 rfl rfl (Nat.le_of_ble_eq_true rfl) (Nat.le_of_ble_eq_true rfl) (Nat.le_of_ble_eq_true rfl) ⟨rfl, rfl, rfl⟩ ?_
      refine c_X12_copy sh_142 sh_141 (by decide) (by decide) (by decide) (by decide) (by omega) (by omega) (by omega) ?_
      refine V_set sh_141 r1 (fun k z1 z2 => ?_) (fun hh k => ?_) copied
      · rw [cpI_at, if_pos (by omega), show (0 : Int) + (k - 0) = k by omega, j6.2.2.1]
      · rw [← j6.2.2.1, ← cpI_ne (I := I1) (a := 142) (i := 0) (b := 141) (j := 0) (n := 281) (by decide : (142 : Nat) ≠ 141)]; exact hh 142 k
    have fin : ∀ (J I1 : MI) (r1 : F1) (o : PO), (∀ c, c ∉ [138, 139, 140, 142] → J c = I c) → (∀ k : Int, k ∉ [0, 2, 3, 5, 9, 11, 13] → J 138 k = I 138 k) → J 138 2 = 0 → J 138 9 = 0 → J 138 11 = 0 → J 139 = bt → RFr J I1 → RSt I1 bt i r1 o → (rdF bt i).1 = o → (¬ isE o → (rdF bt i).2 = r1) → ∀ w2, V X M_X12_piece z0 104 [some (vr 138), some (vi i), w2] [] I1 L R (RT X M_X12_piece Q) := by
      intro J I1 r1 o j1 j2 j3 j9 j11 j4 j5 j6 j7 j8 w2
      cases o with
      | inl q =>
        refine s_aload_n 105 dX12_piece_104 rfl rfl ?_
        refine s_getI 108 dX12_piece_105 rfl fl_X12_119 (fun _ _ _ _ => rfl) sh_138 (Nat.le_of_ble_eq_true rfl) (fun r_105 => ?_)
        rw [j6.no]
        refine s_if_ne 127 111 dX12_piece_108 rfl rfl (by first | omega | exact bI_r _ | exact iI_r _) (fun h_108 => ?_) (fun h_108 => by exfalso; omega)
        refine s_aload_n 128 dX12_piece_127 rfl rfl ?_
        refine s_getI 131 dX12_piece_128 rfl fl_X12_119 (fun _ _ _ _ => rfl) sh_138 (Nat.le_of_ble_eq_true rfl) (fun r_128 => ?_)
        rw [j6.no]
        refine s_if_ne 171 134 dX12_piece_131 rfl rfl (by first | omega | exact bI_r _ | exact iI_r _) (fun h_131 => ?_) (fun h_131 => by exfalso; omega)
        exact bad J I1 r1 q j1 j2 j3 j4 j5 j6 (finF_l j7) _
      | inr b9 =>
        have j8 := j8 id
        have e9 := finF_r j7 j8
        have f6 : I1 138 6 = tkE bt i b9 := j6.2.2.2.2.2.2.2.2.1
        by_cases z : tkE bt i b9 = 0
        · rw [pick_t z] at e9
          by_cases y : r1 0 = 0 ∨ r1 4 = 0 ∨ r1 5 = 0
          · rw [pick_t y] at e9
            refine s_aload_n 105 dX12_piece_104 rfl rfl ?_
            refine s_getI 108 dX12_piece_105 rfl fl_X12_119 (fun _ _ _ _ => rfl) sh_138 (Nat.le_of_ble_eq_true rfl) (fun r_105 => ?_)
            rw [j6.ok]
            refine s_if_ne 127 111 dX12_piece_108 rfl rfl (by first | omega | exact bI_r _ | exact iI_r _) (fun h_108 => by exfalso; omega) (fun h_108 => ?_)
            refine s_aload_n 112 dX12_piece_111 rfl rfl ?_
            refine s_getI 115 dX12_piece_112 rfl fl_X12_109 (fun _ _ _ _ => rfl) sh_138 (Nat.le_of_ble_eq_true rfl) (fun r_112 => ?_)
            rw [f6]
            refine s_if_eq 127 118 dX12_piece_115 rfl rfl (by first | omega | exact bI_r _ | exact iI_r _) (fun h_115 => ?_) (fun h_115 => by exfalso; omega)
            refine s_aload_n 128 dX12_piece_127 rfl rfl ?_
            refine s_getI 131 dX12_piece_128 rfl fl_X12_119 (fun _ _ _ _ => rfl) sh_138 (Nat.le_of_ble_eq_true rfl) (fun r_128 => ?_)
            rw [j6.ok]
            refine s_if_ne 171 134 dX12_piece_131 rfl rfl (by first | omega | exact bI_r _ | exact iI_r _) (fun h_131 => by exfalso; omega) (fun h_131 => ?_)
            refine s_aload_n 135 dX12_piece_134 rfl rfl ?_
            refine s_getR 138 dX12_piece_135 rfl fl_X12_23 (fun _ _ _ _ => rfl) (T_X12_fresh hT) sh_138 (Nat.le_of_ble_eq_true rfl) ?_
            refine s_iconst 139 dX12_piece_138 rfl ?_
            refine s_iald 140 dX12_piece_139 rfl sh_142 (Nat.le_of_ble_eq_true rfl) (by omega) (by omega) (fun r_139 => ?_)
            rw [j6.2.2.1] at r_139 ⊢
            refine s_if_eq 161 143 dX12_piece_140 rfl rfl (by first | omega | exact bI_r _ | exact iI_r _) (fun h_140 => ?_) (fun h_140 => ?_)
            · skip
              refine s_aload_n 162 dX12_piece_161 rfl rfl ?_
              refine s_bipush 164 dX12_piece_162 rfl (by decide) ?_
              refine s_aload_n 165 dX12_piece_164 rfl rfl ?_
              refine s_getI 168 dX12_piece_165 rfl fl_X12_100 (fun _ _ _ _ => rfl) sh_138 (Nat.le_of_ble_eq_true rfl) (fun r_165 => ?_)
              refine s_callV0 (M' := M_X12_wrong) (as := [_, _]) 171 dX12_piece_168 rfl cw_X12_146 rfl rfl sh_138 rfl (by decide) (Nat.le_of_ble_eq_true rfl) (Nat.le_of_ble_eq_true rfl) (Nat.le_of_ble_eq_true rfl) (Nat.le_of_ble_eq_true rfl) ⟨rfl, rfl, rfl⟩ ?_
              refine c_X12_wrong j6 j6.at2 (by decide) (by omega) (fun I2 q1 q2 => ?_)
              first | exact bad J I2 r1 (6, b9) j1 j2 j3 j4 (j5.tr q1) q2 e9 _ | (exfalso; omega)
            refine s_aload_n 144 dX12_piece_143 rfl rfl ?_
            refine s_getR 147 dX12_piece_144 rfl fl_X12_23 (fun _ _ _ _ => rfl) (T_X12_fresh hT) sh_138 (Nat.le_of_ble_eq_true rfl) ?_
            refine s_iconst 148 dX12_piece_147 rfl ?_
            refine s_iald 149 dX12_piece_148 rfl sh_142 (Nat.le_of_ble_eq_true rfl) (by omega) (by omega) (fun r_148 => ?_)
            rw [j6.2.2.1] at r_148 ⊢
            refine s_if_eq 161 152 dX12_piece_149 rfl rfl (by first | omega | exact bI_r _ | exact iI_r _) (fun h_149 => ?_) (fun h_149 => ?_)
            · skip
              refine s_aload_n 162 dX12_piece_161 rfl rfl ?_
              refine s_bipush 164 dX12_piece_162 rfl (by decide) ?_
              refine s_aload_n 165 dX12_piece_164 rfl rfl ?_
              refine s_getI 168 dX12_piece_165 rfl fl_X12_100 (fun _ _ _ _ => rfl) sh_138 (Nat.le_of_ble_eq_true rfl) (fun r_165 => ?_)
              refine s_callV0 (M' := M_X12_wrong) (as := [_, _]) 171 dX12_piece_168 rfl cw_X12_146 rfl rfl sh_138 rfl (by decide) (Nat.le_of_ble_eq_true rfl) (Nat.le_of_ble_eq_true rfl) (Nat.le_of_ble_eq_true rfl) (Nat.le_of_ble_eq_true rfl) ⟨rfl, rfl, rfl⟩ ?_
              refine c_X12_wrong j6 j6.at2 (by decide) (by omega) (fun I2 q1 q2 => ?_)
              first | exact bad J I2 r1 (6, b9) j1 j2 j3 j4 (j5.tr q1) q2 e9 _ | (exfalso; omega)
            refine s_aload_n 153 dX12_piece_152 rfl rfl ?_
            refine s_getR 156 dX12_piece_153 rfl fl_X12_23 (fun _ _ _ _ => rfl) (T_X12_fresh hT) sh_138 (Nat.le_of_ble_eq_true rfl) ?_
            refine s_iconst 157 dX12_piece_156 rfl ?_
            refine s_iald 158 dX12_piece_157 rfl sh_142 (Nat.le_of_ble_eq_true rfl) (by omega) (by omega) (fun r_157 => ?_)
            rw [j6.2.2.1] at r_157 ⊢
            refine s_if_ne 171 161 dX12_piece_158 rfl rfl (by first | omega | exact bI_r _ | exact iI_r _) (fun h_158 => ?_) (fun h_158 => ?_)
            · skip
              first | exact bad J I2 r1 (6, b9) j1 j2 j3 j4 (j5.tr q1) q2 e9 _ | (exfalso; omega)
            refine s_aload_n 162 dX12_piece_161 rfl rfl ?_
            refine s_bipush 164 dX12_piece_162 rfl (by decide) ?_
            refine s_aload_n 165 dX12_piece_164 rfl rfl ?_
            refine s_getI 168 dX12_piece_165 rfl fl_X12_100 (fun _ _ _ _ => rfl) sh_138 (Nat.le_of_ble_eq_true rfl) (fun r_165 => ?_)
            refine s_callV0 (M' := M_X12_wrong) (as := [_, _]) 171 dX12_piece_168 rfl cw_X12_146 rfl rfl sh_138 rfl (by decide) (Nat.le_of_ble_eq_true rfl) (Nat.le_of_ble_eq_true rfl) (Nat.le_of_ble_eq_true rfl) (Nat.le_of_ble_eq_true rfl) ⟨rfl, rfl, rfl⟩ ?_
            refine c_X12_wrong j6 j6.at2 (by decide) (by omega) (fun I2 q1 q2 => ?_)
            first | exact bad J I2 r1 (6, b9) j1 j2 j3 j4 (j5.tr q1) q2 e9 _ | (exfalso; omega)
          · rw [pick_f y] at e9
            refine s_aload_n 105 dX12_piece_104 rfl rfl ?_
            refine s_getI 108 dX12_piece_105 rfl fl_X12_119 (fun _ _ _ _ => rfl) sh_138 (Nat.le_of_ble_eq_true rfl) (fun r_105 => ?_)
            rw [j6.ok]
            refine s_if_ne 127 111 dX12_piece_108 rfl rfl (by first | omega | exact bI_r _ | exact iI_r _) (fun h_108 => by exfalso; omega) (fun h_108 => ?_)
            refine s_aload_n 112 dX12_piece_111 rfl rfl ?_
            refine s_getI 115 dX12_piece_112 rfl fl_X12_109 (fun _ _ _ _ => rfl) sh_138 (Nat.le_of_ble_eq_true rfl) (fun r_112 => ?_)
            rw [f6]
            refine s_if_eq 127 118 dX12_piece_115 rfl rfl (by first | omega | exact bI_r _ | exact iI_r _) (fun h_115 => ?_) (fun h_115 => by exfalso; omega)
            refine s_aload_n 128 dX12_piece_127 rfl rfl ?_
            refine s_getI 131 dX12_piece_128 rfl fl_X12_119 (fun _ _ _ _ => rfl) sh_138 (Nat.le_of_ble_eq_true rfl) (fun r_128 => ?_)
            rw [j6.ok]
            refine s_if_ne 171 134 dX12_piece_131 rfl rfl (by first | omega | exact bI_r _ | exact iI_r _) (fun h_131 => by exfalso; omega) (fun h_131 => ?_)
            refine s_aload_n 135 dX12_piece_134 rfl rfl ?_
            refine s_getR 138 dX12_piece_135 rfl fl_X12_23 (fun _ _ _ _ => rfl) (T_X12_fresh hT) sh_138 (Nat.le_of_ble_eq_true rfl) ?_
            refine s_iconst 139 dX12_piece_138 rfl ?_
            refine s_iald 140 dX12_piece_139 rfl sh_142 (Nat.le_of_ble_eq_true rfl) (by omega) (by omega) (fun r_139 => ?_)
            rw [j6.2.2.1] at r_139 ⊢
            refine s_if_eq 161 143 dX12_piece_140 rfl rfl (by first | omega | exact bI_r _ | exact iI_r _) (fun h_140 => by exfalso; omega) (fun h_140 => ?_)
            refine s_aload_n 144 dX12_piece_143 rfl rfl ?_
            refine s_getR 147 dX12_piece_144 rfl fl_X12_23 (fun _ _ _ _ => rfl) (T_X12_fresh hT) sh_138 (Nat.le_of_ble_eq_true rfl) ?_
            refine s_iconst 148 dX12_piece_147 rfl ?_
            refine s_iald 149 dX12_piece_148 rfl sh_142 (Nat.le_of_ble_eq_true rfl) (by omega) (by omega) (fun r_148 => ?_)
            rw [j6.2.2.1] at r_148 ⊢
            refine s_if_eq 161 152 dX12_piece_149 rfl rfl (by first | omega | exact bI_r _ | exact iI_r _) (fun h_149 => by exfalso; omega) (fun h_149 => ?_)
            refine s_aload_n 153 dX12_piece_152 rfl rfl ?_
            refine s_getR 156 dX12_piece_153 rfl fl_X12_23 (fun _ _ _ _ => rfl) (T_X12_fresh hT) sh_138 (Nat.le_of_ble_eq_true rfl) ?_
            refine s_iconst 157 dX12_piece_156 rfl ?_
            refine s_iald 158 dX12_piece_157 rfl sh_142 (Nat.le_of_ble_eq_true rfl) (by omega) (by omega) (fun r_157 => ?_)
            rw [j6.2.2.1] at r_157 ⊢
            refine s_if_ne 171 161 dX12_piece_158 rfl rfl (by first | omega | exact bI_r _ | exact iI_r _) (fun h_158 => ?_) (fun h_158 => by exfalso; omega)
            exact good J I1 r1 b9 j1 j2 j3 j9 j11 j4 j5 j6 trivial e9 _
        · rw [pick_f z] at e9
          refine s_aload_n 105 dX12_piece_104 rfl rfl ?_
          refine s_getI 108 dX12_piece_105 rfl fl_X12_119 (fun _ _ _ _ => rfl) sh_138 (Nat.le_of_ble_eq_true rfl) (fun r_105 => ?_)
          rw [j6.ok]
          refine s_if_ne 127 111 dX12_piece_108 rfl rfl (by first | omega | exact bI_r _ | exact iI_r _) (fun h_108 => by exfalso; omega) (fun h_108 => ?_)
          refine s_aload_n 112 dX12_piece_111 rfl rfl ?_
          refine s_getI 115 dX12_piece_112 rfl fl_X12_109 (fun _ _ _ _ => rfl) sh_138 (Nat.le_of_ble_eq_true rfl) (fun r_112 => ?_)
          rw [f6]
          refine s_if_eq 127 118 dX12_piece_115 rfl rfl (by first | omega | exact bI_r _ | exact iI_r _) (fun h_115 => by exfalso; omega) (fun h_115 => ?_)
          refine s_aload_n 119 dX12_piece_118 rfl rfl ?_
          refine s_iconst 120 dX12_piece_119 rfl ?_
          refine s_aload_n 121 dX12_piece_120 rfl rfl ?_
          refine s_getI 124 dX12_piece_121 rfl fl_X12_100 (fun _ _ _ _ => rfl) sh_138 (Nat.le_of_ble_eq_true rfl) (fun r_121 => ?_)
          refine s_callV0 (M' := M_X12_wrong) (as := [_, _]) 127 dX12_piece_124 rfl cw_X12_146 rfl rfl sh_138 rfl (by decide) (Nat.le_of_ble_eq_true rfl) (Nat.le_of_ble_eq_true rfl) (Nat.le_of_ble_eq_true rfl) (Nat.le_of_ble_eq_true rfl) ⟨rfl, rfl, rfl⟩ ?_
          refine c_X12_wrong j6 j6.at2 (by decide) (by omega) (fun I2 q1 q2 => ?_)
          have q2 : RSt I2 bt i r1 (.inl (1, b9)) := q2
          refine s_aload_n 128 dX12_piece_127 rfl rfl ?_
          refine s_getI 131 dX12_piece_128 rfl fl_X12_119 (fun _ _ _ _ => rfl) sh_138 (Nat.le_of_ble_eq_true rfl) (fun r_128 => ?_)
          rw [q2.no]
          refine s_if_ne 171 134 dX12_piece_131 rfl rfl (by first | omega | exact bI_r _ | exact iI_r _) (fun h_131 => ?_) (fun h_131 => by exfalso; omega)
          exact bad J I2 r1 (1, b9) j1 j2 j3 j4 (j5.tr q1) q2 e9 _
    -- LINE after LINE
    have lines : ∀ (J : MI), (∀ c, c ∉ [138, 139, 140, 142] → J c = I c) → (∀ k : Int, k ∉ [0, 2, 3, 5, 9, 11, 13] → J 138 k = I 138 k) → J 138 2 = 0 → J 138 9 = 0 → J 138 11 = 0 → J 139 = bt → ∀ (f : Nat) (I1 : MI) (r1 : F1) (o : PO), RFr J I1 → RSt I1 bt i r1 o → (¬ isE o → WFp r1) → pge i 0 o → (∀ b, o = .inr b → i - b < (f : Int)) → (rsF bt i f r1 o).1 = (rdF bt i).1 → (¬ isE (rdF bt i).1 → (rsF bt i f r1 o).2 = (rdF bt i).2) → ∀ w2, V X M_X12_piece z0 77 [some (vr 138), some (vi i), w2] [] I1 L R (RT X M_X12_piece Q) := by
      intro J j1 j2 j3 j9 j11 j4 f
      induction f with
      | zero =>
        intro I1 r1 o j5 j6 jw jp jm jr1 jr2 w2
        cases o with
        | inl q =>
          refine s_aload_n 78 dX12_piece_77 rfl rfl ?_
          refine s_getI 81 dX12_piece_78 rfl fl_X12_119 (fun _ _ _ _ => rfl) sh_138 (Nat.le_of_ble_eq_true rfl) (fun r_78 => ?_)
          rw [j6.no]
          refine s_if_ne 104 84 dX12_piece_81 rfl rfl (by first | omega | exact bI_r _ | exact iI_r _) (fun h_81 => ?_) (fun h_81 => by exfalso; omega)
          exact fin J I1 r1 _ j1 j2 j3 j9 j11 j4 j5 j6 jr1.symm (fun z => absurd trivial z) _
        | inr b9 =>
          have := jm b9 rfl
          have := jp.2
          omega
      | succ f ih =>
        intro I1 r1 o j5 j6 jw jp jm jr1 jr2 w2
        cases o with
        | inl q =>
          refine s_aload_n 78 dX12_piece_77 rfl rfl ?_
          refine s_getI 81 dX12_piece_78 rfl fl_X12_119 (fun _ _ _ _ => rfl) sh_138 (Nat.le_of_ble_eq_true rfl) (fun r_78 => ?_)
          rw [j6.no]
          refine s_if_ne 104 84 dX12_piece_81 rfl rfl (by first | omega | exact bI_r _ | exact iI_r _) (fun h_81 => ?_) (fun h_81 => by exfalso; omega)
          exact fin J I1 r1 _ j1 j2 j3 j9 j11 j4 j5 j6 jr1.symm (fun z => absurd trivial z) _
        | inr b9 =>
          have f6 : I1 138 6 = tkE bt i b9 := j6.2.2.2.2.2.2.2.2.1
          by_cases z : tkE bt i b9 = 59
          · have er : rsF bt i (f + 1) r1 (.inr b9) = rsF bt i f (liR bt i r1 (nxE bt i b9)) (liO bt i r1 (nxE bt i b9)) := pick_t z
            rw [er] at jr1 jr2
            have hlt := tkE_59 z
            have nx := nxE_v (bt := bt) (n := i) (a := b9) jp.2
            have hp2 := pge_li (bt := bt) (r := r1) (n := i) (a := nxE bt i b9) nx.2.1
            have hp1 := jp.1
            have hj := jm b9 rfl
            have hge : ∀ o' : PO, pge i (nxE bt i b9) o' → pge i 0 o' ∧ ∀ b, o' = .inr b → i - b < (f : Int) := fun o' g => by
              cases o' with
              | inl q => exact ⟨trivial, fun b y => by cases y⟩
              | inr b =>
                have := nx.2.2 hlt
                exact ⟨⟨by have := g.1; omega, g.2⟩, fun b y => by cases y; have := g.1; omega⟩
            refine s_aload_n 78 dX12_piece_77 rfl rfl ?_
            refine s_getI 81 dX12_piece_78 rfl fl_X12_119 (fun _ _ _ _ => rfl) sh_138 (Nat.le_of_ble_eq_true rfl) (fun r_78 => ?_)
            rw [j6.ok]
            refine s_if_ne 104 84 dX12_piece_81 rfl rfl (by first | omega | exact bI_r _ | exact iI_r _) (fun h_81 => by exfalso; omega) (fun h_81 => ?_)
            refine s_aload_n 85 dX12_piece_84 rfl rfl ?_
            refine s_getI 88 dX12_piece_85 rfl fl_X12_109 (fun _ _ _ _ => rfl) sh_138 (Nat.le_of_ble_eq_true rfl) (fun r_85 => ?_)
            rw [f6]
            refine s_bipush 90 dX12_piece_88 rfl (by decide) ?_
            refine s_icmp_ne 104 93 dX12_piece_90 rfl rfl (by first | omega | exact bI_r _ | exact iI_r _) (by first | omega | exact bI_r _ | exact iI_r _) (fun h_90 => by exfalso; omega) (fun h_90 => ?_)
            refine s_aload_n 94 dX12_piece_93 rfl rfl ?_
            refine s_callV0 (M' := M_X12_next) (as := []) 97 dX12_piece_94 rfl cw_X12_140 rfl rfl sh_138 rfl (by decide) (Nat.le_of_ble_eq_true rfl) (Nat.le_of_ble_eq_true rfl) (Nat.le_of_ble_eq_true rfl) (Nat.le_of_ble_eq_true rfl) ⟨rfl, rfl, rfl⟩ ?_
            refine c_X12_next2 hT hn9 hb j6 (fun I2 q1 q2 => ?_)
            refine s_aload_n 98 dX12_piece_97 rfl rfl ?_
            refine s_callV0 (M' := M_X12_readLine) (as := []) 101 dX12_piece_98 rfl cw_X12_196 rfl rfl sh_138 rfl (by decide) (Nat.le_of_ble_eq_true rfl) (Nat.le_of_ble_eq_true rfl) (Nat.le_of_ble_eq_true rfl) (Nat.le_of_ble_eq_true rfl) ⟨rfl, rfl, rfl⟩ ?_
            refine c_X12_readLine hT hn9 hb (jw id) q2 (fun I3 r3 q3 q4 q5 => ?_)
            refine s_goto 77 dX12_piece_101 rfl ?_
            obtain ⟨g1, g2⟩ := hge _ hp2
            refine ih I3 r3 _ ((j5.tr q1).tr q3) q4 (fun y => by rw [q5 y]; exact liR_w (jw id) y) g1 g2 ?_ ?_ _
            · by_cases y : isE (liO bt i r1 (nxE bt i b9))
              · rw [rsE y] at jr1 ⊢; exact jr1
              · rw [q5 y]; exact jr1
            · intro v
              by_cases y : isE (liO bt i r1 (nxE bt i b9))
              · rw [rsE y] at jr1; rw [← jr1] at v; exact absurd y v
              · rw [q5 y]; exact jr2 v
          · have er : rsF bt i (f + 1) r1 (.inr b9) = (.inr b9, r1) := pick_f z
            rw [er] at jr1 jr2
            refine s_aload_n 78 dX12_piece_77 rfl rfl ?_
            refine s_getI 81 dX12_piece_78 rfl fl_X12_119 (fun _ _ _ _ => rfl) sh_138 (Nat.le_of_ble_eq_true rfl) (fun r_78 => ?_)
            rw [j6.ok]
            refine s_if_ne 104 84 dX12_piece_81 rfl rfl (by first | omega | exact bI_r _ | exact iI_r _) (fun h_81 => by exfalso; omega) (fun h_81 => ?_)
            refine s_aload_n 85 dX12_piece_84 rfl rfl ?_
            refine s_getI 88 dX12_piece_85 rfl fl_X12_109 (fun _ _ _ _ => rfl) sh_138 (Nat.le_of_ble_eq_true rfl) (fun r_85 => ?_)
            rw [f6]
            refine s_bipush 90 dX12_piece_88 rfl (by decide) ?_
            refine s_icmp_ne 104 93 dX12_piece_90 rfl rfl (by first | omega | exact bI_r _ | exact iI_r _) (by first | omega | exact bI_r _ | exact iI_r _) (fun h_90 => ?_) (fun h_90 => by exfalso; omega)
            exact fin J I1 r1 _ j1 j2 j3 j9 j11 j4 j5 j6 jr1.symm (fun z => (jr2 (by rw [← jr1]; exact id)).symm) _
    -- the beginning
    have start : ∀ I2 : MI, (∀ c, c ∉ [138, 139, 140, 142] → I2 c = I c) → (∀ k : Int, k ∉ [0, 2, 3, 5, 9, 11, 13] → I2 138 k = I 138 k) → I2 138 2 = 0 → I2 138 9 = 0 → I2 138 11 = 0 → I2 138 13 = 0 → I2 139 = bt → I2 142 = (fun _ => 0) → ∀ w2, V X M_X12_piece z0 59 [some (vr 138), some (vi i), w2] [] I2 L R (RT X M_X12_piece Q) := by
      intro I2 j1 j2 j3 j9 j11 j13 j4 j42 w2
      refine s_aload_n 60 dX12_piece_59 rfl rfl ?_
      refine s_iload_n 61 dX12_piece_60 rfl rfl ?_
      refine s_putI 64 dX12_piece_61 rfl fl_X12_90 (fun _ => rfl) (fun _ => rfl) (fun _ _ _ _ => rfl) sh_138 (Nat.le_of_ble_eq_true rfl) (by first | omega | exact bI_r _ | exact iI_r _) ?_
      refine s_aload_n 65 dX12_piece_64 rfl rfl ?_
      refine s_iconst 66 dX12_piece_65 rfl ?_
      refine s_putI 69 dX12_piece_66 rfl fl_X12_93 (fun _ => rfl) (fun _ => rfl) (fun _ _ _ _ => rfl) sh_138 (Nat.le_of_ble_eq_true rfl) (by first | omega | exact bI_r _ | exact iI_r _) ?_
      refine s_aload_n 70 dX12_piece_69 rfl rfl ?_
      refine s_callV0 (M' := M_X12_next) (as := []) 73 dX12_piece_70 rfl cw_X12_140 rfl rfl sh_138 rfl (by decide) (Nat.le_of_ble_eq_true rfl) (Nat.le_of_ble_eq_true rfl) (Nat.le_of_ble_eq_true rfl) (Nat.le_of_ble_eq_true rfl) ⟨rfl, rfl, rfl⟩ ?_
      refine c_X12_next (bt := bt) (n := i) (e := 0) hT ((up_ne (by decide)).trans ((up_ne (by decide)).trans j4)) ((upn (by decide)).trans ups) hn9 hb ups (by omega) (fun I3 q1 q2 => ?_)
      have q3 : RSt I3 bt i (fun _ => 0) (.inr (skE bt i 0)) := ⟨by rw [q1.1 139 (by decide), up_ne (by decide), up_ne (by decide)]; exact j4, by rw [q1.2 3 (by decide), upn (by decide), ups], by rw [q1.1 142 (by decide), up_ne (by decide), up_ne (by decide)]; exact j42, by rw [q1.2 13 (by decide), upn (by decide), upn (by decide)]; exact j13, q2⟩
      refine s_aload_n 74 dX12_piece_73 rfl rfl ?_
      refine s_callV0 (M' := M_X12_readLine) (as := []) 77 dX12_piece_74 rfl cw_X12_196 rfl rfl sh_138 rfl (by decide) (Nat.le_of_ble_eq_true rfl) (Nat.le_of_ble_eq_true rfl) (Nat.le_of_ble_eq_true rfl) (Nat.le_of_ble_eq_true rfl) ⟨rfl, rfl, rfl⟩ ?_
      refine c_X12_readLine hT hn9 hb WFp_0 q3 (fun I4 r4 q4 q5 q6 => ?_)
      have sk := skE_v (bt := bt) (n := i) (e := 0) hi2.1
      have hp2 := pge_li (bt := bt) (r := fun _ => 0) (n := i) (a := skE bt i 0) sk.2
      refine lines (up (up I2 138 3 i) 138 5 0) (fun c hc => ?_) (fun k hk => ?_) ?_ ?_ ?_ ?_ 902 I4 r4 _ (q1.fr.tr q4) q5 (fun y => by rw [q6 y]; exact liR_w WFp_0 y) ?_ (fun b y => ?_) ?_ (fun v => ?_) _
      · rw [up_ne (fun z => hc (by rw [z]; decide)), up_ne (fun z => hc (by rw [z]; decide))]; exact j1 c hc
      · rw [upn (fun z => hk (by rw [z]; decide)), upn (fun z => hk (by rw [z]; decide))]; exact j2 k hk
      · rw [upn (by decide), upn (by decide)]; exact j3
      · rw [upn (by decide), upn (by decide)]; exact j9
      · rw [upn (by decide), upn (by decide)]; exact j11
      · rw [up_ne (by decide), up_ne (by decide)]; exact j4
      · generalize liO bt i (fun _ => 0) (skE bt i 0) = o at hp2 ⊢
        cases o with
        | inl q => exact trivial
        | inr b => exact ⟨by have := hp2.1; omega, hp2.2⟩
      · rw [y] at hp2; have := hp2.1; omega
      · by_cases y : isE (liO bt i (fun _ => 0) (skE bt i 0))
        · rw [rsE y]; unfold rdF; rw [rsE y]
        · rw [q6 y]; rfl
      · by_cases y : isE (liO bt i (fun _ => 0) (skE bt i 0))
        · unfold rdF at v; rw [rsE y] at v; exact absurd y v
        · rw [q6 y]; rfl
    have zf : ∀ (f : Nat) (k : Int) (I2 : MI), 281 - k < (f : Int) → 0 ≤ k → k ≤ 281 → (∀ c, c ∉ [138, 142] → I2 c = I c) → (∀ k : Int, k ∉ [0, 2, 9, 11, 13] → I2 138 k = I 138 k) → I2 138 2 = 0 → I2 138 9 = 0 → I2 138 11 = 0 → I2 138 13 = 0 → (∀ j, 0 ≤ j → j < k → I2 142 j = 0) → V X M_X12_piece z0 39 [some (vr (138)), some (vi (i)), some (vi (k))] [] (I2) L R (RT X M_X12_piece Q) := by
      intro f
      induction f with
      | zero => intro k I2 z1 z2 z3; omega
      | succ f ih =>
        intro k I2 z1 z2 z3 j1 j2 j3 j9 j11 j13 jz
        refine s_iload_n 40 dX12_piece_39 rfl rfl ?_
        refine s_sipush 43 dX12_piece_40 rfl (by decide) ?_
        refine s_icmp_ge 59 46 dX12_piece_43 rfl rfl (by first | omega | exact bI_r _ | exact iI_r _) (by first | omega | exact bI_r _ | exact iI_r _) (fun h_43 => ?_) (fun h_43 => ?_)
        · skip
          refine V_set sh_142 (fun _ => 0) (fun k y1 y2 => (jz k y1 (by omega)).symm) (fun _ k => by omega) ?_
          refine V_set sh_139 bt (fun k y1 y2 => ?_) (fun _ k => by have := hB.2 k; omega) ?_
          · rw [setA_n (by decide), j1 139 (by decide)]; exact (a2 k y1 (by omega)).symm
          have n138 : setA (setA I2 142 (fun _ => 0)) 139 bt 138 = I2 138 := (setA_n (by decide)).trans (setA_n (by decide))
          refine start _ (fun c hc => ?_) (fun k hk => ?_) (by rw [n138]; exact j3) (by rw [n138]; exact j9) (by rw [n138]; exact j11) (by rw [n138]; exact j13) setA_e ((setA_n (by decide)).trans setA_e) _
          · rw [setA_n (fun z => hc (by rw [z]; decide)), setA_n (fun z => hc (by rw [z]; decide))]
            exact j1 c (fun z => hc ((by decide : ∀ x ∈ ([138, 142] : List Nat), x ∈ ([138, 139, 140, 142] : List Nat)) c z))
          · rw [n138]
            exact j2 k (fun z => hk ((by decide : ∀ x ∈ ([0, 2, 9, 11, 13] : List Int), x ∈ ([0, 2, 3, 5, 9, 11, 13] : List Int)) k z))
        refine s_aload_n 47 dX12_piece_46 rfl rfl ?_
        refine s_getR 50 dX12_piece_47 rfl fl_X12_23 (fun _ _ _ _ => rfl) (T_X12_fresh hT) sh_138 (Nat.le_of_ble_eq_true rfl) ?_
        refine s_iload_n 51 dX12_piece_50 rfl rfl ?_
        refine s_iconst 52 dX12_piece_51 rfl ?_
        refine s_iast 53 dX12_piece_52 rfl sh_142 (Nat.le_of_ble_eq_true rfl) (by omega) (by omega) (by first | omega | exact bI_r _ | exact iI_r _) ?_
        refine s_iinc (ls' := [_, _, _]) 56 dX12_piece_53 rfl rfl (Nat.le_of_ble_eq_true rfl) rfl rfl ?_
        refine s_goto 39 dX12_piece_56 rfl ?_
        have n142 : ∀ c, c ≠ 142 → up I2 142 k 0 c = I2 c := fun c hc => up_ne hc
        refine ih (k + 1) _ (by omega) (by omega) (by omega) (fun c hc => by rw [n142 c (fun z => hc (by rw [z]; decide))]; exact j1 c hc) (fun k hk => by rw [n142 138 (by decide)]; exact j2 k hk) (by rw [n142 _ (by decide)]; exact j3) (by rw [n142 _ (by decide)]; exact j9) (by rw [n142 _ (by decide)]; exact j11) (by rw [n142 _ (by decide)]; exact j13) (fun j y1 y2 => ?_)
        rw [upd9]
        by_cases ej : j = k
        · rw [if_pos ej]
        · rw [if_neg ej]; exact jz j y1 (by omega)
    refine s_aload_n 1 dX12_piece_0 rfl rfl ?_
    refine s_callV0 (M' := M_X12_good) (as := []) 4 dX12_piece_1 rfl cw_X12_190 rfl rfl sh_138 rfl (by decide) (Nat.le_of_ble_eq_true rfl) (Nat.le_of_ble_eq_true rfl) (Nat.le_of_ble_eq_true rfl) (Nat.le_of_ble_eq_true rfl) ⟨rfl, rfl, rfl⟩ ?_
    refine c_X12_good ?_
    refine s_iload_n 5 dX12_piece_4 rfl rfl ?_
    refine s_iconst 6 dX12_piece_5 rfl ?_
    refine s_aload_n 7 dX12_piece_6 rfl rfl ?_
    refine s_getI 10 dX12_piece_7 rfl fl_X12_87 (fun _ _ _ _ => rfl) sh_138 (Nat.le_of_ble_eq_true rfl) (fun r_7 => ?_)
    rw [gt]
    refine s_callS0 (M' := M_X12_within) (as := [_, _, _]) 13 dX12_piece_10 rfl cw_X12_174 rfl rfl (Nat.le_of_ble_eq_true rfl) (Nat.le_of_ble_eq_true rfl) (Nat.le_of_ble_eq_true rfl) ⟨rfl, rfl, rfl⟩ ?_
    refine c_X12_within (by omega) (by omega) (by omega) ?_
    refine s_ifb_ne 22 16 dX12_piece_13 rfl rfl (fun h_13 => ?_) (fun h_13 => by exfalso; exact absurd hi2 h_13)
    refine s_aload_n 23 dX12_piece_22 rfl rfl ?_
    refine s_iconst 24 dX12_piece_23 rfl ?_
    refine s_putI 27 dX12_piece_24 rfl fl_X12_87 (fun _ => rfl) (fun _ => rfl) (fun _ _ _ _ => rfl) sh_138 (Nat.le_of_ble_eq_true rfl) (by first | omega | exact bI_r _ | exact iI_r _) ?_
    refine s_aload_n 28 dX12_piece_27 rfl rfl ?_
    refine s_iconst 29 dX12_piece_28 rfl ?_
    refine s_putI 32 dX12_piece_29 rfl fl_X12_123 (fun _ => rfl) (fun _ => rfl) (fun _ _ _ _ => rfl) sh_138 (Nat.le_of_ble_eq_true rfl) (by first | omega | exact bI_r _ | exact iI_r _) ?_
    refine s_aload_n 33 dX12_piece_32 rfl rfl ?_
    refine s_iconst 34 dX12_piece_33 rfl ?_
    refine s_putI 37 dX12_piece_34 rfl fl_X12_119 (fun _ => x_nz (by omega)) (fun _ => rfl) (fun _ _ _ _ => rfl) sh_138 (Nat.le_of_ble_eq_true rfl) (by first | omega | exact bI_r _ | exact iI_r _) ?_
    refine s_iconst 38 dX12_piece_37 rfl ?_
    refine s_istore_n (ls' := [_, _, _]) 39 dX12_piece_38 rfl (Nat.le_of_ble_eq_true rfl) rfl rfl ?_
    refine zf 282 0 _ (by omega) (by omega) (by omega) (fun c hc => ?_) (fun k hk => ?_) ?_ ?_ ?_ ?_ (fun j y1 y2 => by omega)
    · have z : c ≠ 138 := fun z => hc (by rw [z]; decide)
      rw [up_ne z, up_ne z, up_ne z, up_ne z, up_ne z]
    · have z : ∀ x ∈ ([0, 2, 9, 11, 13] : List Int), k ≠ x := fun x hx e => hk (by rw [e]; exact hx)
      rw [upn (z 13 (by decide)), upn (z 9 (by decide)), upn (z 2 (by decide)), upn (z 11 (by decide)), upn (z 0 (by decide))]
    · rw [upn (by decide), upn (by decide), ups]
    · rw [upn (by decide), ups]
    · rw [upn (by decide), upn (by decide), upn (by decide), ups]
    · rw [ups]
  · have h1 := h.1 hi2
    refine s_aload_n 1 dX12_piece_0 rfl rfl ?_
    refine s_callV0 (M' := M_X12_good) (as := []) 4 dX12_piece_1 rfl cw_X12_190 rfl rfl sh_138 rfl (by decide) (Nat.le_of_ble_eq_true rfl) (Nat.le_of_ble_eq_true rfl) (Nat.le_of_ble_eq_true rfl) (Nat.le_of_ble_eq_true rfl) ⟨rfl, rfl, rfl⟩ ?_
    refine c_X12_good ?_
    refine s_iload_n 5 dX12_piece_4 rfl rfl ?_
    refine s_iconst 6 dX12_piece_5 rfl ?_
    refine s_aload_n 7 dX12_piece_6 rfl rfl ?_
    refine s_getI 10 dX12_piece_7 rfl fl_X12_87 (fun _ _ _ _ => rfl) sh_138 (Nat.le_of_ble_eq_true rfl) (fun r_7 => ?_)
    rw [gt]
    refine s_callS0 (M' := M_X12_within) (as := [_, _, _]) 13 dX12_piece_10 rfl cw_X12_174 rfl rfl (Nat.le_of_ble_eq_true rfl) (Nat.le_of_ble_eq_true rfl) (Nat.le_of_ble_eq_true rfl) ⟨rfl, rfl, rfl⟩ ?_
    refine c_X12_within (by omega) (by omega) (by omega) ?_
    refine s_ifb_ne 22 16 dX12_piece_13 rfl rfl (fun h_13 => by exfalso; exact absurd h_13 hi2) (fun h_13 => ?_)
    refine s_aload_n 17 dX12_piece_16 rfl rfl ?_
    refine s_iconst 18 dX12_piece_17 rfl ?_
    refine s_callV0 (M' := M_X12_no) (as := [_]) 21 dX12_piece_18 rfl cw_X12_193 rfl rfl sh_138 rfl (by decide) (Nat.le_of_ble_eq_true rfl) (Nat.le_of_ble_eq_true rfl) (Nat.le_of_ble_eq_true rfl) (Nat.le_of_ble_eq_true rfl) ⟨rfl, rfl, rfl⟩ ?_
    refine c_X12_no (by omega) ?_
    refine s_iret dX12_piece_21 rfl rfl ?_
    have e : up (up (up I 138 0 0) 138 11 0) 138 11 2 = gd I 2 := gd_no
    rw [e]
    exact h1 _ (Lo.gd (w := 2) Eqo.rf) (hM0.q (w' := 2) Eqo.rf)
