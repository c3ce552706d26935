/-! arraycopy over the row of what is past; ACTS -/
theorem w_ac0 : Cond.methodLink RX0 34 arraycopyName ∈ TB := TB_of (lt5 (List.mem_of_getElem? (i := 197) (by decide +kernel))) rfl
theorem w_ac1 : Cond.static arraycopyName ∈ TB := TB_of (lt5 (List.mem_of_getElem? (i := 198) (by decide +kernel))) rfl
theorem w_ac2 : Cond.native arraycopyName ∈ TB := TB_of (lt5 (List.mem_of_getElem? (i := 199) (by decide +kernel))) rfl
theorem w_ac3 : Cond.initialized "java/lang/System" ∈ TB := TB_of (lt1 (List.mem_of_getElem? (i := 20) (by decide +kernel))) rfl
def cpL (L : ML) (a : Nat) (i j m : Int) : ML := fun c => if c = a then (fun k => if j ≤ k ∧ k < j + m then L a (i + (k - j)) else L a k) else L c
theorem cpL_n {L : ML} {a c : Nat} {i j m : Int} (h : c ≠ a) : cpL L a i j m c = L c := if_neg h
theorem cpL_k {L : ML} {a : Nat} {i j m k : Int} : cpL L a i j m a k = if j ≤ k ∧ k < j + m then L a (i + (k - j)) else L a k := by
  unfold cpL
  rw [if_pos rfl]
theorem s_acp82 {X : XT} {M : MT} {z : Nat × Nat × Nat} {pc : Nat} {ls : List (Option AV)} {st : List AV} {I : MI} {L : ML} {R : MR} {F : State → Prop} {idx : Nat} {i j m : Int} (q : Nat) (hd : decode (mcc M) pc = .ok (.invokestatic idx, 3)) (hq : pc + 3 = q) (hw : Cond.methodLink (mown M) idx arraycopyName ∈ TB) (hz1 : z.2.2 = 161) (hb : 0 ≤ i ∧ 0 ≤ j ∧ 0 ≤ m ∧ i + m ≤ 12 ∧ j + m ≤ 12) (hr : 2 ≤ mrk M) (hst : asz st ≤ 8) (k9 : V X M z q ls st I (cpL L 82 i j m) R F) : V X M z pc ls (vi m :: vi j :: vr 82 :: vi i :: vr 82 :: st) I L R F := by
  subst hq
  intro ok h1 h2 H locs la hR hl hz hv
  have hR0 := hR
  rw [hz1] at hR0
  have hRc := hR0.2.2.1
  have hex : ∃ ws : va_W, ws = (List.range 161).map (fun c => (gb (xG X) + c, ent (xG X) c (I c) (L c) (R c))) := ⟨_, rfl⟩
  obtain ⟨ws, hws⟩ := hex
  have hat : ∀ c, c < 161 → ws[c]? = some (gb (xG X) + c, ent (xG X) c (I c) (L c) (R c)) := fun c hc => by
    rw [hws, List.getElem?_map, List.getElem?_range hc]; rfl
  have hlt : ∀ (c : Nat) (q : Nat × va_E), ws[c]? = some q → c < 161 := fun c q h => by
    have := (List.getElem?_eq_some_iff.mp h).1
    rw [hws, List.length_map, List.length_range] at this
    exact this
  have hP : va_P (gD (xG X)) vwCl ws H := fun c q h => by
    have hc := hlt c q h
    rw [hat c hc] at h
    cases h
    exact hRc c hc
  have hD : va_D (gA9 (xG X)) ws := ⟨fun c d p q g1 g2 g3 => by
      have hc := hlt c p g1
      have hd2 := hlt d q g2
      rw [hat c hc] at g1
      rw [hat d hd2] at g2
      cases g1
      cases g2
      have g4 : gb (xG X) + c = gb (xG X) + d := g3
      omega, fun c q h => by
      have hc := hlt c q h
      rw [hat c hc] at h
      cases h
      exact Nat.le_add_right _ _⟩
  have hS : va_S (gA9 (xG X)) H H locs := ⟨Nat.le_refl _, fun _ _ _ => rfl, hl⟩
  have ea : ws[82]? = some (gb (xG X) + 82, .inl (gJ (xG X), 12, .inr (.inl (fun j => L 82 j)))) := by rw [hat 82 (by decide), ent_l sh_82]
  have ti : ∀ x : Int, 0 ≤ x → x ≤ 12 → (iI x).toNatClampNeg = x.toNat ∧ ¬ iI x < 0 := fun x a b => ⟨iI_c (by omega), by rw [iI_0, iI_lt (by omega) (by omega)]; omega⟩
  refine va_copyl ok.1 ok.2.1 (ok.2.2.1.trans hv.1.symm) ok.2.2.2.1 (ok.2.2.2.2.1 _ hw) (ok.2.2.2.2.1 _ w_ac2) (ok.2.2.2.2.1 _ w_ac1) (ok.2.2.2.2.1 _ w_ac3) ok.2.2.2.2.2.2.2.2.1.1 hP hD hS 82 82 1 1 ea ea rfl rfl rfl (ti i (by omega) (by omega)).2 (ti j (by omega) (by omega)).2 (ti m (by omega) (by omega)).2 (by rw [(ti i (by omega) (by omega)).1, (ti m (by omega) (by omega)).1]; omega) (by rw [(ti j (by omega) (by omega)).1, (ti m (by omega) (by omega)).1]; omega) (fun _ _ => rfl) ?_ ?_ hd (fun H1 locs1 g1 g2 g3 => ?_)
  · have a1 := ok.2.2.2.2.2.2.2.2.2.1
    omega
  · have a2 := ok.2.2.2.2.2.2.2.2.2.2.1
    rw [asz_sum]
    have : nativeFrameWords "java/lang/System" "arraycopy" 5 = 7 := by decide
    omega
  · have set_n : ∀ c, c < 161 → c ≠ 82 → va_at (gD (xG X)) vwCl (gb (xG X) + c, ent (xG X) c (I c) (L c) (R c)) H1 := fun c hc hne => g1 c _ (by rw [List.getElem?_set_ne (Ne.symm hne)]; exact hat c hc)
    have sz : gb (xG X) + 161 ≤ H1.size := by
      have g := set_n 160 (by decide) (by decide)
      rw [ent_l sh_160] at g
      have g' : H1[gb (xG X) + 160]? = some _ := g
      have := (Array.getElem?_eq_some_iff.mp g').1
      omega
    refine k9 ok h1 h2 H1 locs1 la ⟨⟨by rw [hz1]; exact sz, fun h => absurd h (by rw [hz1]; decide)⟩, fun q hq => ?_, fun c hc => ?_, hR.2.2.2⟩ g3.2.2 (Nat.le_trans hz g3.1) hv
    · rw [g3.2.1 q (by have := hR.1.1; omega) (fun z => by have z9 : gb (xG X) ≤ q := z; omega)]
      exact hR.2.1 q hq
    · rw [hz1] at hc
      by_cases e : c = 82
      · subst e
        have g := g1 82 _ (List.getElem?_set_self (by rw [hws, List.length_map, List.length_range]; decide))
        rw [ent_l sh_82]
        have ef : (fun k : Nat => cpL L 82 i j m 82 k) = va_cpy (fun j => L 82 j) (fun j => L 82 j) (iI i).toNatClampNeg (iI j).toNatClampNeg (iI m).toNatClampNeg := by
          funext k
          rw [cpL_k, (ti i (by omega) (by omega)).1, (ti j (by omega) (by omega)).1, (ti m (by omega) (by omega)).1]
          unfold va_cpy
          by_cases e : j ≤ (k : Int) ∧ (k : Int) < j + m
          · rw [if_pos e, if_pos (by omega)]
            congr 1
            omega
          · rw [if_neg e, if_neg (by omega)]
        rw [ef]
        exact g
      · rw [cpL_n e]
        exact set_n c hc e
def AcL (L : ML) (c : Nat) (U : List Int64) : Prop := ∀ j : Nat, j < U.length → L c j = U.getD j 0
def kpL (U : List Int64) (x : Int64) : List Int64 := (if U.length = 12 then U.tail else U) ++ [x]
theorem upnL {L : ML} {c : Nat} {k j : Int} {v : Int64} (h : j ≠ k) : up L c k v c j = L c j := by rw [up_eq]; exact if_neg h
theorem AcL.ap {L : ML} {c : Nat} {U : List Int64} {x : Int64} (h : AcL L c U) : AcL (up L c U.length x) c (U ++ [x]) := by
  intro j hj
  rw [List.length_append, List.length_singleton] at hj
  by_cases e : j = U.length
  · subst e
    rw [upsL, List.getD_eq_getElem?_getD, List.getElem?_concat_length]
    rfl
  · rw [upnL (by omega), List.getD_eq_getElem?_getD, List.getElem?_append_left (by omega), ← List.getD_eq_getElem?_getD]
    exact h j (by omega)
theorem AcL.c {L L' : ML} {c : Nat} {U : List Int64} (h : AcL L c U) (e : L' c = L c) : AcL L' c U := fun j hj => by rw [e]; exact h j hj
theorem AcL.dl {L : ML} {c : Nat} {U : List Int64} (h : AcL L c U) : AcL L c U.dropLast := by
  intro j hj
  rw [List.length_dropLast] at hj
  rw [h j (by omega), List.getD_eq_getElem?_getD, List.getD_eq_getElem?_getD, List.getElem?_dropLast, if_pos (by omega)]
theorem AcL.la {L : ML} {c : Nat} {U : List Int64} (h : AcL L c U) (hn : U ≠ []) : L c ((U.length : Int) - 1) = U.getLastD 0 := by
  have h1 : 0 < U.length := List.length_pos_iff.mpr hn
  have := h (U.length - 1) (by omega)
  rw [show ((U.length - 1 : Nat) : Int) = (U.length : Int) - 1 by omega] at this
  rw [this, List.getD_eq_getElem?_getD, ← List.getLast?_eq_getElem?, List.getLastD_eq_getLast?]
theorem AcL.tl {L : ML} {U : List Int64} (h : AcL L 82 U) (hu : U.length = 12) : AcL (cpL L 82 1 0 11) 82 U.tail := by
  intro j hj
  rw [List.length_tail] at hj
  rw [cpL_k, if_pos (by omega), show (1 : Int) + ((j : Int) - 0) = ((j + 1 : Nat) : Int) by omega, h (j + 1) (by omega), List.getD_eq_getElem?_getD, List.getD_eq_getElem?_getD, List.getElem?_tail]
set_option maxHeartbeats 4000000 in
theorem c_X0_forgetSteps {E : ET} {I : MI} {L : ML} {R : MR} {Q : Option AV → MI → ML → MR → Prop}  (h : Q none (up (up I 81 1 0) 81 3 0) L R) : CT E M_X0_forgetSteps 161 yX0_forgetSteps [(vr (81))] I L R Q := by
  refine CT_of rfl rfl (fun h => by cases h) (Nat.le_of_ble_eq_true rfl) (fun X => ?_)
  show V X _ z0 0 [some (vr (81))] [] I L R _
  refine s_aload_n 1 dX0_forgetSteps_0 rfl rfl ?_
  refine s_iconst 2 dX0_forgetSteps_1 rfl ?_
  refine s_putI 5 dX0_forgetSteps_2 rfl fl_X0_15 (fun _ => rfl) (fun _ => rfl) (fun _ _ _ _ => rfl) sh_81 (Nat.le_of_ble_eq_true rfl) (by first | omega | exact bI_r _ | exact iI_r _) ?_
  refine s_aload_n 6 dX0_forgetSteps_5 rfl rfl ?_
  refine s_iconst 7 dX0_forgetSteps_6 rfl ?_
  refine s_putI 10 dX0_forgetSteps_7 rfl fl_X0_22 (fun _ => rfl) (fun _ => rfl) (fun _ _ _ _ => rfl) sh_81 (Nat.le_of_ble_eq_true rfl) (by first | omega | exact bI_r _ | exact iI_r _) ?_
  refine s_vret dX0_forgetSteps_10 rfl rfl ?_
  exact h
set_option maxHeartbeats 4000000 in
theorem c_X0_clear {E : ET} {I : MI} {L : ML} {R : MR} {Q : Option AV → MI → ML → MR → Prop}  (h : Q none (up (up (up I 81 1 0) 81 3 0) 81 5 0) L R) : CT E M_X0_clear 161 yX0_clear [(vr (81))] I L R Q := by
  refine CT_of rfl rfl (fun h => by cases h) (Nat.le_of_ble_eq_true rfl) (fun X => ?_)
  show V X _ z0 0 [some (vr (81))] [] I L R _
  refine s_aload_n 1 dX0_clear_0 rfl rfl ?_
  refine s_callV0 (M' := M_X0_forgetSteps) (as := []) 4 dX0_clear_1 rfl cw_X0_31 rfl rfl sh_81 rfl (by decide) (Nat.le_of_ble_eq_true rfl) (Nat.le_of_ble_eq_true rfl) (Nat.le_of_ble_eq_true rfl) (Nat.le_of_ble_eq_true rfl) ⟨rfl, rfl, rfl⟩ ?_
  refine c_X0_forgetSteps ?_
  refine s_aload_n 5 dX0_clear_4 rfl rfl ?_
  refine s_iconst 6 dX0_clear_5 rfl ?_
  refine s_putI 9 dX0_clear_6 rfl fl_X0_28 (fun _ => rfl) (fun _ => rfl) (fun _ _ _ _ => rfl) sh_81 (Nat.le_of_ble_eq_true rfl) (by first | omega | exact bI_r _ | exact iI_r _) ?_
  refine s_vret dX0_clear_9 rfl rfl ?_
  exact h
set_option maxHeartbeats 4000000 in
theorem c_X0_keep {E : ET} {I : MI} {L : ML} {R : MR} {Q : Option AV → MI → ML → MR → Prop} {U : List Int64} {e : Int64} (hT : Topo R) (e1 : I 81 1 = (U.length : Int)) (hu : U.length ≤ 12) (hU : AcL L 82 U) (h : ∀ I' L', Eqo [81] I I' → I' 81 1 = ((kpL U e).length : Int) → I' 81 3 = 0 → I' 81 5 = I 81 5 → (∀ c, c ≠ 82 → L' c = L c) → AcL L' 82 (kpL U e) → Q none I' L' R) : CT E M_X0_keep 161 yX0_keep [(vr (81)), (vl (e))] I L R Q := by
  refine CT_of rfl rfl (fun h => by cases h) (Nat.le_of_ble_eq_true rfl) (fun X => ?_)
  show V X _ z0 0 [some (vr (81)), some (vl (e)), none] [] I L R _
  by_cases hc : U.length = 12
  · have ek : kpL U e = U.tail ++ [e] := by unfold kpL; rw [if_pos hc]
    have el : ((U.tail.length : Nat) : Int) = 11 := by rw [List.length_tail]; omega
    have hU2 := (hU.tl hc).ap (x := e)
    rw [el, ← ek] at hU2
    have el2 : ((kpL U e).length : Int) = 12 := by rw [ek, List.length_append, List.length_singleton]; omega
    have e2 : I 81 1 = 12 := by omega
    refine s_aload_n 1 dX0_keep_0 rfl rfl ?_
    refine s_getI 4 dX0_keep_1 rfl fl_X0_15 (fun _ _ _ _ => rfl) sh_81 (Nat.le_of_ble_eq_true rfl) (fun r_1 => ?_)
    refine s_bipush 6 dX0_keep_4 rfl (by decide) ?_
    rw [e2]
    refine s_icmp_ne 34 9 dX0_keep_6 rfl rfl (by first | omega | exact bI_r _ | exact iI_r _) (by first | omega | exact bI_r _ | exact iI_r _) (fun h_6 => by exfalso; omega) (fun h_6 => ?_)
    refine s_aload_n 10 dX0_keep_9 rfl rfl ?_
    refine s_getR 13 dX0_keep_10 rfl fl_X0_9 (fun _ _ _ _ => rfl) (T_X0_past hT) sh_81 (Nat.le_of_ble_eq_true rfl) ?_
    refine s_iconst 14 dX0_keep_13 rfl ?_
    refine s_aload_n 15 dX0_keep_14 rfl rfl ?_
    refine s_getR 18 dX0_keep_15 rfl fl_X0_9 (fun _ _ _ _ => rfl) (T_X0_past hT) sh_81 (Nat.le_of_ble_eq_true rfl) ?_
    refine s_iconst 19 dX0_keep_18 rfl ?_
    refine s_bipush 21 dX0_keep_19 rfl (by decide) ?_
    refine s_acp82 24 dX0_keep_21 rfl w_ac0 rfl (by decide) (Nat.le_of_ble_eq_true rfl) (Nat.le_of_ble_eq_true rfl) ?_
    refine s_aload_n 25 dX0_keep_24 rfl rfl ?_
    refine s_dup 26 dX0_keep_25 rfl rfl ?_
    refine s_getI 29 dX0_keep_26 rfl fl_X0_15 (fun _ _ _ _ => rfl) sh_81 (Nat.le_of_ble_eq_true rfl) (fun r_26 => ?_)
    rw [e2]
    refine s_iconst 30 dX0_keep_29 rfl ?_
    refine s_isub 31 dX0_keep_30 rfl ?_
    refine s_putI 34 dX0_keep_31 rfl fl_X0_15 (fun _ => rfl) (fun _ => rfl) (fun _ _ _ _ => rfl) sh_81 (Nat.le_of_ble_eq_true rfl) (by first | omega | exact bI_r _ | exact iI_r _) ?_
    refine s_aload_n 35 dX0_keep_34 rfl rfl ?_
    refine s_getR 38 dX0_keep_35 rfl fl_X0_9 (fun _ _ _ _ => rfl) (T_X0_past hT) sh_81 (Nat.le_of_ble_eq_true rfl) ?_
    refine s_aload_n 39 dX0_keep_38 rfl rfl ?_
    refine s_getI 42 dX0_keep_39 rfl fl_X0_15 (fun _ _ _ _ => rfl) sh_81 (Nat.le_of_ble_eq_true rfl) (fun r_39 => ?_)
    rw [ups, show (12 : Int) - 1 = 11 from rfl]
    refine s_lload_n 43 dX0_keep_42 rfl rfl ?_
    refine s_last 44 dX0_keep_43 rfl sh_82 (Nat.le_of_ble_eq_true rfl) (by omega) (by omega) ?_
    refine s_aload_n 45 dX0_keep_44 rfl rfl ?_
    refine s_dup 46 dX0_keep_45 rfl rfl ?_
    refine s_getI 49 dX0_keep_46 rfl fl_X0_15 (fun _ _ _ _ => rfl) sh_81 (Nat.le_of_ble_eq_true rfl) (fun r_46 => ?_)
    rw [ups]
    refine s_iconst 50 dX0_keep_49 rfl ?_
    refine s_iadd 51 dX0_keep_50 rfl ?_
    refine s_putI 54 dX0_keep_51 rfl fl_X0_15 (fun _ => rfl) (fun _ => rfl) (fun _ _ _ _ => rfl) sh_81 (Nat.le_of_ble_eq_true rfl) (by first | omega | exact bI_r _ | exact iI_r _) ?_
    refine s_aload_n 55 dX0_keep_54 rfl rfl ?_
    refine s_iconst 56 dX0_keep_55 rfl ?_
    refine s_putI 59 dX0_keep_56 rfl fl_X0_22 (fun _ => rfl) (fun _ => rfl) (fun _ _ _ _ => rfl) sh_81 (Nat.le_of_ble_eq_true rfl) (by first | omega | exact bI_r _ | exact iI_r _) ?_
    refine s_vret dX0_keep_59 rfl rfl ?_
    refine h _ _ ?_ ?_ ?_ ?_ ?_ hU2
    · exact ((Eqo.rf.st (by decide)).st (by decide)).st (by decide)
    · rw [upn (by decide), ups, el2]; rfl
    · exact ups
    · rw [upn (by decide), upn (by decide), upn (by decide)]
    · intro c c1; rw [up_ne c1, cpL_n c1]
  · have ek : kpL U e = U ++ [e] := by unfold kpL; rw [if_neg hc]
    have hU2 := hU.ap (x := e)
    rw [← ek] at hU2
    have el2 : ((kpL U e).length : Int) = (U.length : Int) + 1 := by rw [ek, List.length_append, List.length_singleton]; omega
    refine s_aload_n 1 dX0_keep_0 rfl rfl ?_
    refine s_getI 4 dX0_keep_1 rfl fl_X0_15 (fun _ _ _ _ => rfl) sh_81 (Nat.le_of_ble_eq_true rfl) (fun r_1 => ?_)
    refine s_bipush 6 dX0_keep_4 rfl (by decide) ?_
    rw [e1]
    refine s_icmp_ne 34 9 dX0_keep_6 rfl rfl (by first | omega | exact bI_r _ | exact iI_r _) (by first | omega | exact bI_r _ | exact iI_r _) (fun h_6 => ?_) (fun h_6 => by exfalso; omega)
    refine s_aload_n 35 dX0_keep_34 rfl rfl ?_
    refine s_getR 38 dX0_keep_35 rfl fl_X0_9 (fun _ _ _ _ => rfl) (T_X0_past hT) sh_81 (Nat.le_of_ble_eq_true rfl) ?_
    refine s_aload_n 39 dX0_keep_38 rfl rfl ?_
    refine s_getI 42 dX0_keep_39 rfl fl_X0_15 (fun _ _ _ _ => rfl) sh_81 (Nat.le_of_ble_eq_true rfl) (fun r_39 => ?_)
    rw [e1]
    refine s_lload_n 43 dX0_keep_42 rfl rfl ?_
    refine s_last 44 dX0_keep_43 rfl sh_82 (Nat.le_of_ble_eq_true rfl) (by omega) (by omega) ?_
    refine s_aload_n 45 dX0_keep_44 rfl rfl ?_
    refine s_dup 46 dX0_keep_45 rfl rfl ?_
    refine s_getI 49 dX0_keep_46 rfl fl_X0_15 (fun _ _ _ _ => rfl) sh_81 (Nat.le_of_ble_eq_true rfl) (fun r_46 => ?_)
    rw [e1]
    refine s_iconst 50 dX0_keep_49 rfl ?_
    refine s_iadd 51 dX0_keep_50 rfl ?_
    refine s_putI 54 dX0_keep_51 rfl fl_X0_15 (fun _ => rfl) (fun _ => rfl) (fun _ _ _ _ => rfl) sh_81 (Nat.le_of_ble_eq_true rfl) (by first | omega | exact bI_r _ | exact iI_r _) ?_
    refine s_aload_n 55 dX0_keep_54 rfl rfl ?_
    refine s_iconst 56 dX0_keep_55 rfl ?_
    refine s_putI 59 dX0_keep_56 rfl fl_X0_22 (fun _ => rfl) (fun _ => rfl) (fun _ _ _ _ => rfl) sh_81 (Nat.le_of_ble_eq_true rfl) (by first | omega | exact bI_r _ | exact iI_r _) ?_
    refine s_vret dX0_keep_59 rfl rfl ?_
    refine h _ _ ?_ ?_ ?_ ?_ ?_ hU2
    · exact (Eqo.rf.st (by decide)).st (by decide)
    · rw [upn (by decide), ups, el2]
    · exact ups
    · rw [upn (by decide), upn (by decide)]
    · intro c c1; rw [up_ne c1]
set_option maxHeartbeats 4000000 in
theorem c_X0_stepBack {E : ET} {I : MI} {L : ML} {R : MR} {Q : Option AV → MI → ML → MR → Prop} {U D : List Int64} {e : Int64} (hT : Topo R) (e1 : I 81 1 = (U.length : Int)) (e3 : I 81 3 = (D.length : Int)) (hn : U ≠ []) (hu : U.length + D.length ≤ 12) (hU : AcL L 82 U) (hD : AcL L 83 D) (h : ∀ I' L', Eqo [81] I I' → I' 81 1 = (U.length : Int) - 1 → I' 81 3 = (D.length : Int) + 1 → I' 81 5 = I 81 5 → (∀ c, c ≠ 83 → L' c = L c) → AcL L' 83 (D ++ [e]) → Q (some (vl (U.getLastD 0))) I' L' R) : CT E M_X0_stepBack 161 yX0_stepBack [(vr (81)), (vl (e))] I L R Q := by
  refine CT_of rfl rfl (fun h => by cases h) (Nat.le_of_ble_eq_true rfl) (fun X => ?_)
  show V X _ z0 0 [some (vr (81)), some (vl (e)), none] [] I L R _
  have h1 : 0 < U.length := List.length_pos_iff.mpr hn
  have la : ∀ L' : ML, (∀ c, c ≠ 83 → L' c = L c) → L' 82 ((U.length : Int) - 1) = U.getLastD 0 := fun L' g => by rw [g 82 (by decide)]; exact hU.la hn
  refine s_aload_n 1 dX0_stepBack_0 rfl rfl ?_
  refine s_getI 4 dX0_stepBack_1 rfl fl_X0_15 (fun _ _ _ _ => rfl) sh_81 (Nat.le_of_ble_eq_true rfl) (fun r_1 => ?_)
  rw [e1]
  refine s_if_eq 16 7 dX0_stepBack_4 rfl rfl (by first | omega | exact bI_r _ | exact iI_r _) (fun h_4 => by exfalso; omega) (fun h_4 => ?_)
  refine s_aload_n 8 dX0_stepBack_7 rfl rfl ?_
  refine s_getI 11 dX0_stepBack_8 rfl fl_X0_22 (fun _ _ _ _ => rfl) sh_81 (Nat.le_of_ble_eq_true rfl) (fun r_8 => ?_)
  refine s_bipush 13 dX0_stepBack_11 rfl (by decide) ?_
  rw [e3]
  refine s_icmp_ne 18 16 dX0_stepBack_13 rfl rfl (by first | omega | exact bI_r _ | exact iI_r _) (by first | omega | exact bI_r _ | exact iI_r _) (fun h_13 => ?_) (fun h_13 => by exfalso; omega)
  refine s_aload_n 19 dX0_stepBack_18 rfl rfl ?_
  refine s_getR 22 dX0_stepBack_19 rfl fl_X0_19 (fun _ _ _ _ => rfl) (T_X0_future hT) sh_81 (Nat.le_of_ble_eq_true rfl) ?_
  refine s_aload_n 23 dX0_stepBack_22 rfl rfl ?_
  refine s_getI 26 dX0_stepBack_23 rfl fl_X0_22 (fun _ _ _ _ => rfl) sh_81 (Nat.le_of_ble_eq_true rfl) (fun r_23 => ?_)
  rw [e3]
  refine s_lload_n 27 dX0_stepBack_26 rfl rfl ?_
  refine s_last 28 dX0_stepBack_27 rfl sh_83 (Nat.le_of_ble_eq_true rfl) (by omega) (by omega) ?_
  refine s_aload_n 29 dX0_stepBack_28 rfl rfl ?_
  refine s_dup 30 dX0_stepBack_29 rfl rfl ?_
  refine s_getI 33 dX0_stepBack_30 rfl fl_X0_22 (fun _ _ _ _ => rfl) sh_81 (Nat.le_of_ble_eq_true rfl) (fun r_30 => ?_)
  rw [e3]
  refine s_iconst 34 dX0_stepBack_33 rfl ?_
  refine s_iadd 35 dX0_stepBack_34 rfl ?_
  refine s_putI 38 dX0_stepBack_35 rfl fl_X0_22 (fun _ => rfl) (fun _ => rfl) (fun _ _ _ _ => rfl) sh_81 (Nat.le_of_ble_eq_true rfl) (by first | omega | exact bI_r _ | exact iI_r _) ?_
  refine s_aload_n 39 dX0_stepBack_38 rfl rfl ?_
  refine s_dup 40 dX0_stepBack_39 rfl rfl ?_
  refine s_getI 43 dX0_stepBack_40 rfl fl_X0_15 (fun _ _ _ _ => rfl) sh_81 (Nat.le_of_ble_eq_true rfl) (fun r_40 => ?_)
  rw [upn (by decide), e1]
  refine s_iconst 44 dX0_stepBack_43 rfl ?_
  refine s_isub 45 dX0_stepBack_44 rfl ?_
  refine s_putI 48 dX0_stepBack_45 rfl fl_X0_15 (fun _ => rfl) (fun _ => rfl) (fun _ _ _ _ => rfl) sh_81 (Nat.le_of_ble_eq_true rfl) (by first | omega | exact bI_r _ | exact iI_r _) ?_
  refine s_aload_n 49 dX0_stepBack_48 rfl rfl ?_
  refine s_getR 52 dX0_stepBack_49 rfl fl_X0_9 (fun _ _ _ _ => rfl) (T_X0_past hT) sh_81 (Nat.le_of_ble_eq_true rfl) ?_
  refine s_aload_n 53 dX0_stepBack_52 rfl rfl ?_
  refine s_getI 56 dX0_stepBack_53 rfl fl_X0_15 (fun _ _ _ _ => rfl) sh_81 (Nat.le_of_ble_eq_true rfl) (fun r_53 => ?_)
  rw [ups]
  refine s_lald 57 dX0_stepBack_56 rfl sh_82 (Nat.le_of_ble_eq_true rfl) (by omega) (by omega) ?_
  rw [la _ (fun c c1 => up_ne c1)]
  refine s_lret dX0_stepBack_57 rfl rfl ?_
  refine h _ _ ?_ ?_ ?_ ?_ ?_ hD.ap
  · exact (Eqo.rf.st (by decide)).st (by decide)
  · exact ups
  · rw [upn (by decide), ups]
  · rw [upn (by decide), upn (by decide)]
  · intro c c1; rw [up_ne c1]
set_option maxHeartbeats 4000000 in
theorem c_X0_stepOn {E : ET} {I : MI} {L : ML} {R : MR} {Q : Option AV → MI → ML → MR → Prop} {U D : List Int64} {e : Int64} (hT : Topo R) (e1 : I 81 1 = (U.length : Int)) (e3 : I 81 3 = (D.length : Int)) (hn : D ≠ []) (hu : U.length + D.length ≤ 12) (hU : AcL L 82 U) (hD : AcL L 83 D) (h : ∀ I' L', Eqo [81] I I' → I' 81 1 = (U.length : Int) + 1 → I' 81 3 = (D.length : Int) - 1 → I' 81 5 = I 81 5 → (∀ c, c ≠ 82 → L' c = L c) → AcL L' 82 (U ++ [e]) → Q (some (vl (D.getLastD 0))) I' L' R) : CT E M_X0_stepOn 161 yX0_stepOn [(vr (81)), (vl (e))] I L R Q := by
  refine CT_of rfl rfl (fun h => by cases h) (Nat.le_of_ble_eq_true rfl) (fun X => ?_)
  show V X _ z0 0 [some (vr (81)), some (vl (e)), none] [] I L R _
  have h1 : 0 < D.length := List.length_pos_iff.mpr hn
  have la : ∀ L' : ML, (∀ c, c ≠ 82 → L' c = L c) → L' 83 ((D.length : Int) - 1) = D.getLastD 0 := fun L' g => by rw [g 83 (by decide)]; exact hD.la hn
  refine s_aload_n 1 dX0_stepOn_0 rfl rfl ?_
  refine s_getI 4 dX0_stepOn_1 rfl fl_X0_22 (fun _ _ _ _ => rfl) sh_81 (Nat.le_of_ble_eq_true rfl) (fun r_1 => ?_)
  rw [e3]
  refine s_if_eq 16 7 dX0_stepOn_4 rfl rfl (by first | omega | exact bI_r _ | exact iI_r _) (fun h_4 => by exfalso; omega) (fun h_4 => ?_)
  refine s_aload_n 8 dX0_stepOn_7 rfl rfl ?_
  refine s_getI 11 dX0_stepOn_8 rfl fl_X0_15 (fun _ _ _ _ => rfl) sh_81 (Nat.le_of_ble_eq_true rfl) (fun r_8 => ?_)
  refine s_bipush 13 dX0_stepOn_11 rfl (by decide) ?_
  rw [e1]
  refine s_icmp_ne 18 16 dX0_stepOn_13 rfl rfl (by first | omega | exact bI_r _ | exact iI_r _) (by first | omega | exact bI_r _ | exact iI_r _) (fun h_13 => ?_) (fun h_13 => by exfalso; omega)
  refine s_aload_n 19 dX0_stepOn_18 rfl rfl ?_
  refine s_getR 22 dX0_stepOn_19 rfl fl_X0_9 (fun _ _ _ _ => rfl) (T_X0_past hT) sh_81 (Nat.le_of_ble_eq_true rfl) ?_
  refine s_aload_n 23 dX0_stepOn_22 rfl rfl ?_
  refine s_getI 26 dX0_stepOn_23 rfl fl_X0_15 (fun _ _ _ _ => rfl) sh_81 (Nat.le_of_ble_eq_true rfl) (fun r_23 => ?_)
  rw [e1]
  refine s_lload_n 27 dX0_stepOn_26 rfl rfl ?_
  refine s_last 28 dX0_stepOn_27 rfl sh_82 (Nat.le_of_ble_eq_true rfl) (by omega) (by omega) ?_
  refine s_aload_n 29 dX0_stepOn_28 rfl rfl ?_
  refine s_dup 30 dX0_stepOn_29 rfl rfl ?_
  refine s_getI 33 dX0_stepOn_30 rfl fl_X0_15 (fun _ _ _ _ => rfl) sh_81 (Nat.le_of_ble_eq_true rfl) (fun r_30 => ?_)
  rw [e1]
  refine s_iconst 34 dX0_stepOn_33 rfl ?_
  refine s_iadd 35 dX0_stepOn_34 rfl ?_
  refine s_putI 38 dX0_stepOn_35 rfl fl_X0_15 (fun _ => rfl) (fun _ => rfl) (fun _ _ _ _ => rfl) sh_81 (Nat.le_of_ble_eq_true rfl) (by first | omega | exact bI_r _ | exact iI_r _) ?_
  refine s_aload_n 39 dX0_stepOn_38 rfl rfl ?_
  refine s_dup 40 dX0_stepOn_39 rfl rfl ?_
  refine s_getI 43 dX0_stepOn_40 rfl fl_X0_22 (fun _ _ _ _ => rfl) sh_81 (Nat.le_of_ble_eq_true rfl) (fun r_40 => ?_)
  rw [upn (by decide), e3]
  refine s_iconst 44 dX0_stepOn_43 rfl ?_
  refine s_isub 45 dX0_stepOn_44 rfl ?_
  refine s_putI 48 dX0_stepOn_45 rfl fl_X0_22 (fun _ => rfl) (fun _ => rfl) (fun _ _ _ _ => rfl) sh_81 (Nat.le_of_ble_eq_true rfl) (by first | omega | exact bI_r _ | exact iI_r _) ?_
  refine s_aload_n 49 dX0_stepOn_48 rfl rfl ?_
  refine s_getR 52 dX0_stepOn_49 rfl fl_X0_19 (fun _ _ _ _ => rfl) (T_X0_future hT) sh_81 (Nat.le_of_ble_eq_true rfl) ?_
  refine s_aload_n 53 dX0_stepOn_52 rfl rfl ?_
  refine s_getI 56 dX0_stepOn_53 rfl fl_X0_22 (fun _ _ _ _ => rfl) sh_81 (Nat.le_of_ble_eq_true rfl) (fun r_53 => ?_)
  rw [ups]
  refine s_lald 57 dX0_stepOn_56 rfl sh_83 (Nat.le_of_ble_eq_true rfl) (by omega) (by omega) ?_
  rw [la _ (fun c c1 => up_ne c1)]
  refine s_lret dX0_stepOn_57 rfl rfl ?_
  refine h _ _ ?_ ?_ ?_ ?_ ?_ hU.ap
  · exact (Eqo.rf.st (by decide)).st (by decide)
  · rw [upn (by decide), ups]
  · exact ups
  · rw [upn (by decide), upn (by decide)]
  · intro c c1; rw [up_ne c1]
set_option maxHeartbeats 4000000 in
theorem c_X0_addImage {E : ET} {I : MI} {L : ML} {R : MR} {Q : Option AV → MI → ML → MR → Prop} {K : List Int64} {e : Int64} (hT : Topo R) (e5 : I 81 5 = (K.length : Int)) (hk : K.length ≤ 2) (hK : AcL L 84 K) (h : ∀ L', (∀ c, c ≠ 84 → L' c = L c) → AcL L' 84 (K ++ [e]) → Q (some (vi K.length)) (up I 81 5 ((K.length : Int) + 1)) L' R) : CT E M_X0_addImage 161 yX0_addImage [(vr (81)), (vl (e))] I L R Q := by
  refine CT_of rfl rfl (fun h => by cases h) (Nat.le_of_ble_eq_true rfl) (fun X => ?_)
  show V X _ z0 0 [some (vr (81)), some (vl (e)), none] [] I L R _
  refine s_aload_n 1 dX0_addImage_0 rfl rfl ?_
  refine s_getI 4 dX0_addImage_1 rfl fl_X0_28 (fun _ _ _ _ => rfl) sh_81 (Nat.le_of_ble_eq_true rfl) (fun r_1 => ?_)
  refine s_iconst 5 dX0_addImage_4 rfl ?_
  rw [e5]
  refine s_icmp_ne 10 8 dX0_addImage_5 rfl rfl (by first | omega | exact bI_r _ | exact iI_r _) (by first | omega | exact bI_r _ | exact iI_r _) (fun h_5 => ?_) (fun h_5 => by exfalso; omega)
  refine s_aload_n 11 dX0_addImage_10 rfl rfl ?_
  refine s_getR 14 dX0_addImage_11 rfl fl_X0_25 (fun _ _ _ _ => rfl) (T_X0_images hT) sh_81 (Nat.le_of_ble_eq_true rfl) ?_
  refine s_aload_n 15 dX0_addImage_14 rfl rfl ?_
  refine s_getI 18 dX0_addImage_15 rfl fl_X0_28 (fun _ _ _ _ => rfl) sh_81 (Nat.le_of_ble_eq_true rfl) (fun r_15 => ?_)
  rw [e5]
  refine s_lload_n 19 dX0_addImage_18 rfl rfl ?_
  refine s_last 20 dX0_addImage_19 rfl sh_84 (Nat.le_of_ble_eq_true rfl) (by omega) (by omega) ?_
  refine s_aload_n 21 dX0_addImage_20 rfl rfl ?_
  refine s_dup 22 dX0_addImage_21 rfl rfl ?_
  refine s_getI 25 dX0_addImage_22 rfl fl_X0_28 (fun _ _ _ _ => rfl) sh_81 (Nat.le_of_ble_eq_true rfl) (fun r_22 => ?_)
  rw [e5]
  refine s_iconst 26 dX0_addImage_25 rfl ?_
  refine s_iadd 27 dX0_addImage_26 rfl ?_
  refine s_putI 30 dX0_addImage_27 rfl fl_X0_28 (fun _ => rfl) (fun _ => rfl) (fun _ _ _ _ => rfl) sh_81 (Nat.le_of_ble_eq_true rfl) (by first | omega | exact bI_r _ | exact iI_r _) ?_
  refine s_aload_n 31 dX0_addImage_30 rfl rfl ?_
  refine s_getI 34 dX0_addImage_31 rfl fl_X0_28 (fun _ _ _ _ => rfl) sh_81 (Nat.le_of_ble_eq_true rfl) (fun r_31 => ?_)
  rw [ups]
  refine s_iconst 35 dX0_addImage_34 rfl ?_
  refine s_isub 36 dX0_addImage_35 rfl ?_
  rw [show (K.length : Int) + 1 - 1 = (K.length : Int) by omega]
  refine s_iret dX0_addImage_36 rfl rfl ?_
  exact h _ (fun c c1 => up_ne c1) hK.ap
