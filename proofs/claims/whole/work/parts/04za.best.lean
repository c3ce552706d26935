/-! the first of the least of a list; orders, player, FEWEST of all -/
noncomputable def stB (val : List Int → Int) (o : Option (List Int)) (c : List Int) : Option (List Int) := if val c = -2 then o else match o with
  | none => some c
  | some b => if val c < val b then some c else some b
noncomputable def bestL (val : List Int → Int) (Ls : List (List Int)) : Option (List Int) := Ls.foldl (stB val) none
noncomputable def bestV (val : List Int → Int) (Ls : List (List Int)) : Int := match bestL val Ls with
  | none => -2
  | some b => val b
noncomputable def bestX (val : List Int → Int) (Ls : List (List Int)) (i : Int) : Int := match bestL val Ls with
  | none => -2
  | some b => vL b i
theorem fold_none {val : List Int → Int} : ∀ {Ls : List (List Int)} {o : Option (List Int)} (_ : ∀ l ∈ Ls, val l = -2), Ls.foldl (stB val) o = o
  | [], o, _ => rfl
  | c :: t, o, h => by
    have h1 : stB val o c = o := by unfold stB; rw [if_pos (h c (by simp))]
    rw [List.foldl_cons, h1]
    exact fold_none (fun l hl => h l (by simp [hl]))
theorem fold_keep {val : List Int → Int} {b : List Int} : ∀ {Ls : List (List Int)} (_ : ∀ l ∈ Ls, val l = -2 ∨ val b ≤ val l), Ls.foldl (stB val) (some b) = some b
  | [], _ => rfl
  | c :: t, h => by
    have h1 : stB val (some b) c = some b := by
      unfold stB
      rcases h c (by simp) with z | z
      · rw [if_pos z]
      · split
        · rfl
        · show (if val c < val b then some c else some b) = some b
          rw [if_neg (by omega)]
    rw [List.foldl_cons, h1]
    exact fold_keep (fun l hl => h l (by simp [hl]))
theorem fold_pre {val : List Int → Int} {v : Int} : ∀ {Ls : List (List Int)} {o : Option (List Int)} (_ : ∀ l ∈ Ls, val l = -2 ∨ v < val l) (_ : ∀ b, o = some b → v < val b), ∀ b, Ls.foldl (stB val) o = some b → v < val b
  | [], o, _, h, b, hb => h b hb
  | c :: t, o, h, ho, b, hb => by
    rw [List.foldl_cons] at hb
    refine fold_pre (Ls := t) (o := stB val o c) (fun l hl => h l (by simp [hl])) (fun x hx => ?_) b hb
    have hc := h c (by simp)
    unfold stB at hx
    split at hx
    · exact ho x hx
    · cases o with
      | none =>
        have : c = x := by simpa using hx
        subst this; omega
      | some y =>
        have hy := ho y rfl
        simp only [] at hx
        split at hx
        · have : c = x := by simpa using hx
          subst this; omega
        · have : y = x := by simpa using hx
          subst this; exact hy
theorem AllF.best {n : Int} {val : List Int → Int} {Ls : List (List Int)} {v : Int} {br : F1} (h : AllF n val Ls v br) : bestV val Ls = v ∧ ∀ i, 0 ≤ i → i < n → bestX val Ls i = if v = -2 then -2 else br i := by
  rcases h with ⟨a, b⟩ | ⟨P, b, S, h1, h2, h3, h4, h5, h6⟩
  · have e : bestL val Ls = none := fold_none b
    refine ⟨by unfold bestV; rw [e, a], fun i _ _ => by unfold bestX; rw [e, if_pos a]⟩
  · have e : bestL val Ls = some b := by
      unfold bestL
      rw [h1, List.foldl_append, List.foldl_cons]
      have hp := fold_pre (Ls := P) (o := none) h6 (fun b hb => by cases hb)
      have hs : ∀ o : Option (List Int), (∀ y, o = some y → v < val y) → stB val o b = some b := by
        intro o ho
        unfold stB
        rw [if_neg (by omega)]
        cases o with
        | none => rfl
        | some y =>
          have := ho y rfl
          show (if val b < val y then some b else some y) = some b
          rw [if_pos (by omega)]
      rw [hs _ hp]
      exact fold_keep (fun l hl => by rw [← h2]; exact h5 l hl)
    refine ⟨by unfold bestV; rw [e]; exact h2.symm, fun i z1 z2 => by unfold bestX; rw [e, if_neg h3]; exact (h4 i z1 z2).symm⟩
/-- the players of a CAST; -2 where one can't -/
noncomputable def valR (G : Int → Prop) (n : Nat) (l : List Int) : Int := pick (GL G n (vL l)) (plF (vL l) n) (-2)
theorem Few.all {G : Int → Prop} {n : Nat} {v : Int} {best : F1} (h : Few G n v best) : AllF n (valR G n) (rgs n) v best := by
  rcases h with ⟨a, b⟩ | ⟨b, b1, b2, b3, b4, b5, b6⟩
  · refine Or.inl ⟨a, fun l hl => ?_⟩
    obtain ⟨j, j1, j2⟩ := List.getElem_of_mem hl
    have := b j j1
    rw [List.getD_eq_getElem?_getD, List.getElem?_eq_getElem j1] at this
    unfold valR
    rw [pick_f]
    rw [← j2]
    exact this
  · have hb : (rgs n).getD b [] = (rgs n)[b] := by rw [List.getD_eq_getElem?_getD, List.getElem?_eq_getElem b1]; rfl
    refine Or.inr ⟨(rgs n).take b, (rgs n).getD b [], (rgs n).drop (b + 1), ?_, ?_, ?_, b4, fun l hl => ?_, fun l hl => ?_⟩
    · rw [hb, ← List.drop_eq_getElem_cons b1, List.take_append_drop]
    · unfold valR; rw [pick_t b2]; exact b3
    · have := plF_nn (vL ((rgs n).getD b [])) n
      omega
    · obtain ⟨j, j1, j2⟩ := List.getElem_of_mem hl
      rw [List.getElem_drop] at j2
      have j3 : b + 1 + j < (rgs n).length := by simp at j1; omega
      have e : (rgs n).getD (b + 1 + j) [] = l := by rw [List.getD_eq_getElem?_getD, List.getElem?_eq_getElem j3]; exact j2
      unfold valR
      by_cases z : GL G n (vL l)
      · rw [pick_t z]
        have := b5 _ j3 (by rw [e]; exact z)
        rw [e] at this
        exact Or.inr this
      · rw [pick_f z]; exact Or.inl rfl
    · obtain ⟨j, j1, j2⟩ := List.getElem_of_mem hl
      rw [List.getElem_take] at j2
      have j3 : j < b := by simp at j1; omega
      have e : (rgs n).getD j [] = l := by rw [List.getD_eq_getElem?_getD, List.getElem?_eq_getElem (by omega)]; exact j2
      unfold valR
      by_cases z : GL G n (vL l)
      · rw [pick_t z]
        have := b6 j j3 (by rw [e]; exact z)
        rw [e] at this
        exact Or.inr this
      · rw [pick_f z]; exact Or.inl rfl
theorem Few.v {G : Int → Prop} {n : Nat} {v : Int} {best : F1} (h : Few G n v best) : fewV G n = bestV (valR G n) (rgs n) := by
  rw [h.is.v, h.all.best.1]
set_option maxHeartbeats 4000000 in
theorem c_X12_player {E : ET} {I : MI} {L : ML} {R : MR} {Q : Option AV → MI → ML → MR → Prop} {r s : F1} {a : List Int} {HP : Prop} {i : Int} (hT : Topo R) (er : I 141 = r) (es : I 143 = s) (erd : I 138 30 = -1) (ehp : I 138 14 = bI HP) (hr : HP → SOk r s a) (hi : -2147483648 ≤ i ∧ i ≤ 2147483647) (h : ∀ I', Eqo MS (gd I (pick (HP ∧ 0 ≤ i ∧ i < r 4) 0 1)) I' → Q (some (vi (pick (HP ∧ 0 ≤ i ∧ i < r 4) (bestX (valR (MayP r (-1) (r 2) s (s 12)) (r 4).toNat) (rgs (r 4).toNat) i) (-1)))) I' L R) : CT E M_X12_player 161 yX12_player [(vr (138)), (vi (i))] I L R Q := by
  refine CT_of rfl rfl (fun h => by cases h) (Nat.le_of_ble_eq_true rfl) (fun X => ?_)
  show V X _ z0 0 [some (vr (138)), some (vi (i))] [] I L R _
  have hno := (pick_spl h).1
  have hye := (pick_spl h).2
  have er1 : up (up I 138 0 0) 138 11 0 141 = r := (gd_n (by decide)).trans er
  have es1 : up (up I 138 0 0) 138 11 0 143 = s := (gd_n (by decide)).trans es
  have erd1 : up (up I 138 0 0) 138 11 0 138 30 = -1 := (gd_f (by decide)).trans erd
  have ehp1 : up (up I 138 0 0) 138 11 0 138 14 = bI HP := (gd_f (by decide)).trans ehp
  have hr1 : HP → WFr r := fun z => (hr z).1
  refine s_aload_n 1 dX12_player_0 rfl rfl ?_
  refine s_callV0 (M' := M_X12_good) (as := []) 4 dX12_player_1 rfl cw_X12_190 rfl rfl sh_138 rfl (by decide) (Nat.le_of_ble_eq_true rfl) (Nat.le_of_ble_eq_true rfl) (Nat.le_of_ble_eq_true rfl) (Nat.le_of_ble_eq_true rfl) ⟨rfl, rfl, rfl⟩ ?_
  refine c_X12_good ?_
  refine s_aload_n 5 dX12_player_4 rfl rfl ?_
  refine s_iload_n 6 dX12_player_5 rfl rfl ?_
  refine s_callV0 (M' := M_X12_isPart) (as := [_]) 9 dX12_player_6 rfl cw_X12_318 rfl rfl sh_138 rfl (by decide) (Nat.le_of_ble_eq_true rfl) (Nat.le_of_ble_eq_true rfl) (Nat.le_of_ble_eq_true rfl) (Nat.le_of_ble_eq_true rfl) ⟨rfl, rfl, rfl⟩ ?_
  refine c_X12_isPart hT er1 ehp1 hr1 (by omega) ?_
  refine s_ifb_ne 18 12 dX12_player_9 rfl rfl (fun h_9 => ?_) (fun h_9 => ?_)
  · skip
    refine s_aload_n 19 dX12_player_18 rfl rfl ?_
    refine s_aload_n 20 dX12_player_19 rfl rfl ?_
    refine s_getR 23 dX12_player_20 rfl fl_X12_26 (fun _ _ _ _ => rfl) (T_X12_st hT) sh_138 (Nat.le_of_ble_eq_true rfl) ?_
    refine s_aload_n 24 dX12_player_23 rfl rfl ?_
    refine s_getR 27 dX12_player_24 rfl fl_X12_26 (fun _ _ _ _ => rfl) (T_X12_st hT) sh_138 (Nat.le_of_ble_eq_true rfl) ?_
    refine s_bipush 29 dX12_player_27 rfl (by decide) ?_
    refine s_iald 30 dX12_player_29 rfl sh_143 (Nat.le_of_ble_eq_true rfl) (by omega) (by omega) (fun r_29 => ?_)
    rw [es1] at r_29 ⊢
    refine s_callV0 (M' := M_X12_fewestBy) (as := [_, _]) 33 dX12_player_30 rfl cw_X12_372 rfl rfl sh_138 rfl (by decide) (Nat.le_of_ble_eq_true rfl) (Nat.le_of_ble_eq_true rfl) (Nat.le_of_ble_eq_true rfl) (Nat.le_of_ble_eq_true rfl) ⟨rfl, rfl, rfl⟩ ?_
    have hC : HP ∧ 0 ≤ i ∧ i < r 4 := by assumption
    have hP := hC.1
    have e0 := (hr hP).1.1
    refine c_X12_fewestBy hT er1 erd1 (hr hP).1 rfl sh_143 (by decide) (by decide) (by decide) es1 (hr hP).p (fun v I2 k1 k2 k3 => ?_)
    have hb := k2.all.best.2 i hC.2.1 (by omega)
    refine s_bipush 35 dX12_player_33 rfl (by decide) ?_
    refine s_icmp_ne 43 38 dX12_player_35 rfl rfl (by first | omega | exact bI_r _ | exact iI_r _) (by first | omega | exact bI_r _ | exact iI_r _) (fun h_35 => ?_) (fun h_35 => ?_)
    · skip
      refine s_aload_n 44 dX12_player_43 rfl rfl ?_
      refine s_getR 47 dX12_player_44 rfl fl_X12_69 (fun _ _ _ _ => rfl) (T_X12_best hT) sh_138 (Nat.le_of_ble_eq_true rfl) ?_
      refine s_iload_n 48 dX12_player_47 rfl rfl ?_
      refine s_iald 49 dX12_player_48 rfl sh_156 (Nat.le_of_ble_eq_true rfl) (by omega) (by omega) (fun r_48 => ?_)
      refine s_iret dX12_player_49 rfl rfl ?_
      have q := hye hC I2 (k1.mo (by decide))
      rw [hb] at q
      first | (rw [if_pos (by assumption)] at q; exact q) | (rw [if_neg (by assumption)] at q; exact q)
    refine s_bipush 40 dX12_player_38 rfl (by decide) ?_
    refine s_goto 49 dX12_player_40 rfl ?_
    refine s_iret dX12_player_49 rfl rfl ?_
    have q := hye hC I2 (k1.mo (by decide))
    rw [hb] at q
    first | (rw [if_pos (by assumption)] at q; exact q) | (rw [if_neg (by assumption)] at q; exact q)
  refine s_aload_n 13 dX12_player_12 rfl rfl ?_
  refine s_iconst 14 dX12_player_13 rfl ?_
  refine s_callV0 (M' := M_X12_no) (as := [_]) 17 dX12_player_14 rfl cw_X12_193 rfl rfl sh_138 rfl (by decide) (Nat.le_of_ble_eq_true rfl) (Nat.le_of_ble_eq_true rfl) (Nat.le_of_ble_eq_true rfl) (Nat.le_of_ble_eq_true rfl) ⟨rfl, rfl, rfl⟩ ?_
  refine c_X12_no (by decide) ?_
  first | rw [show up (up (up I 138 0 0) 138 11 0) 138 11 1 = gd I 1 from gd_no] | rw [show up (up (up I 138 0 0) 138 11 0) 138 11 2 = gd I 2 from gd_no]
  refine s_iret dX12_player_17 rfl rfl ?_
  exact hno (by assumption)
set_option maxHeartbeats 4000000 in
theorem c_X12_fewestOfAll {E : ET} {I : MI} {L : ML} {R : MR} {Q : Option AV → MI → ML → MR → Prop} {r s : F1} {a : List Int} {HP : Prop} (hT : Topo R) (er : I 141 = r) (es : I 143 = s) (erd : I 138 30 = -1) (ehp : I 138 14 = bI HP) (hr : HP → SOk r s a) (h : ∀ I', Eqo MS (gd I (pick HP 0 1)) I' → Q (some (vi (pick HP (bestV (valF r (-1) (r 2) (s 12)) (ordL r)) (-1)))) I' L R) : CT E M_X12_fewestOfAll 161 yX12_fewestOfAll [(vr (138))] I L R Q := by
  refine CT_of rfl rfl (fun h => by cases h) (Nat.le_of_ble_eq_true rfl) (fun X => ?_)
  show V X _ z0 0 [some (vr (138))] [] I L R _
  have hno := (pick_spl h).1
  have hye := (pick_spl h).2
  have er1 : up (up I 138 0 0) 138 11 0 141 = r := (gd_n (by decide)).trans er
  have es1 : up (up I 138 0 0) 138 11 0 143 = s := (gd_n (by decide)).trans es
  have erd1 : up (up I 138 0 0) 138 11 0 138 30 = -1 := (gd_f (by decide)).trans erd
  have ehp1 : up (up I 138 0 0) 138 11 0 138 14 = bI HP := (gd_f (by decide)).trans ehp
  have hr1 : HP → WFr r := fun z => (hr z).1
  refine s_aload_n 1 dX12_fewestOfAll_0 rfl rfl ?_
  refine s_callV0 (M' := M_X12_good) (as := []) 4 dX12_fewestOfAll_1 rfl cw_X12_190 rfl rfl sh_138 rfl (by decide) (Nat.le_of_ble_eq_true rfl) (Nat.le_of_ble_eq_true rfl) (Nat.le_of_ble_eq_true rfl) (Nat.le_of_ble_eq_true rfl) ⟨rfl, rfl, rfl⟩ ?_
  refine c_X12_good ?_
  refine s_aload_n 5 dX12_fewestOfAll_4 rfl rfl ?_
  refine s_getI 8 dX12_fewestOfAll_5 rfl fl_X12_203 (fun _ _ _ _ => rfl) sh_138 (Nat.le_of_ble_eq_true rfl) (fun r_5 => ?_)
  rw [ehp1]
  refine s_ifb_eq 18 11 dX12_fewestOfAll_8 rfl rfl (fun h_8 => ?_) (fun h_8 => ?_)
  · skip
    refine s_aload_n 19 dX12_fewestOfAll_18 rfl rfl ?_
    refine s_iconst 20 dX12_fewestOfAll_19 rfl ?_
    refine s_callV0 (M' := M_X12_no) (as := [_]) 23 dX12_fewestOfAll_20 rfl cw_X12_193 rfl rfl sh_138 rfl (by decide) (Nat.le_of_ble_eq_true rfl) (Nat.le_of_ble_eq_true rfl) (Nat.le_of_ble_eq_true rfl) (Nat.le_of_ble_eq_true rfl) ⟨rfl, rfl, rfl⟩ ?_
    refine c_X12_no (by decide) ?_
    first | rw [show up (up (up I 138 0 0) 138 11 0) 138 11 1 = gd I 1 from gd_no] | rw [show up (up (up I 138 0 0) 138 11 0) 138 11 2 = gd I 2 from gd_no]
    refine s_iret dX12_fewestOfAll_23 rfl rfl ?_
    first | exact hno (by assumption) | (have q := hye (by assumption) I2 (k1.mo (by decide)); rw [k2.best.1] at q; exact q)
  refine s_aload_n 12 dX12_fewestOfAll_11 rfl rfl ?_
  refine s_callV0 (M' := M_X12_fewestOverAll) (as := []) 15 dX12_fewestOfAll_12 rfl cw_X12_376 rfl rfl sh_138 rfl (by decide) (Nat.le_of_ble_eq_true rfl) (Nat.le_of_ble_eq_true rfl) (Nat.le_of_ble_eq_true rfl) (Nat.le_of_ble_eq_true rfl) ⟨rfl, rfl, rfl⟩ ?_
  have hP : HP := by assumption
  refine c_X12_fewestOverAll hT er1 es1 erd1 (hr hP).1 rfl (fun v I2 k1 k2 k3 => ?_)
  refine s_goto 23 dX12_fewestOfAll_15 rfl ?_
  refine s_iret dX12_fewestOfAll_23 rfl rfl ?_
  first | exact hno (by assumption) | (have q := hye (by assumption) I2 (k1.mo (by decide)); rw [k2.best.1] at q; exact q)
set_option maxHeartbeats 4000000 in
theorem c_X12_sceneOfAll {E : ET} {I : MI} {L : ML} {R : MR} {Q : Option AV → MI → ML → MR → Prop} {r s : F1} {a : List Int} {HP : Prop} {i : Int} (hT : Topo R) (er : I 141 = r) (es : I 143 = s) (erd : I 138 30 = -1) (ehp : I 138 14 = bI HP) (hr : HP → SOk r s a) (hi : -2147483648 ≤ i ∧ i ≤ 2147483647) (h : ∀ I', Eqo MS (gd I (pick (HP ∧ 0 ≤ i ∧ i < r 5) 0 1)) I' → Q (some (vi (pick (HP ∧ 0 ≤ i ∧ i < r 5) (bestX (valF r (-1) (r 2) (s 12)) (ordL r) i) (-1)))) I' L R) : CT E M_X12_sceneOfAll 161 yX12_sceneOfAll [(vr (138)), (vi (i))] I L R Q := by
  refine CT_of rfl rfl (fun h => by cases h) (Nat.le_of_ble_eq_true rfl) (fun X => ?_)
  show V X _ z0 0 [some (vr (138)), some (vi (i))] [] I L R _
  have hno := (pick_spl h).1
  have hye := (pick_spl h).2
  have er1 : up (up I 138 0 0) 138 11 0 141 = r := (gd_n (by decide)).trans er
  have es1 : up (up I 138 0 0) 138 11 0 143 = s := (gd_n (by decide)).trans es
  have erd1 : up (up I 138 0 0) 138 11 0 138 30 = -1 := (gd_f (by decide)).trans erd
  have ehp1 : up (up I 138 0 0) 138 11 0 138 14 = bI HP := (gd_f (by decide)).trans ehp
  have hr1 : HP → WFr r := fun z => (hr z).1
  refine s_aload_n 1 dX12_sceneOfAll_0 rfl rfl ?_
  refine s_callV0 (M' := M_X12_good) (as := []) 4 dX12_sceneOfAll_1 rfl cw_X12_190 rfl rfl sh_138 rfl (by decide) (Nat.le_of_ble_eq_true rfl) (Nat.le_of_ble_eq_true rfl) (Nat.le_of_ble_eq_true rfl) (Nat.le_of_ble_eq_true rfl) ⟨rfl, rfl, rfl⟩ ?_
  refine c_X12_good ?_
  refine s_aload_n 5 dX12_sceneOfAll_4 rfl rfl ?_
  refine s_iload_n 6 dX12_sceneOfAll_5 rfl rfl ?_
  refine s_callV0 (M' := M_X12_isScene) (as := [_]) 9 dX12_sceneOfAll_6 rfl cw_X12_299 rfl rfl sh_138 rfl (by decide) (Nat.le_of_ble_eq_true rfl) (Nat.le_of_ble_eq_true rfl) (Nat.le_of_ble_eq_true rfl) (Nat.le_of_ble_eq_true rfl) ⟨rfl, rfl, rfl⟩ ?_
  refine c_X12_isScene hT er1 ehp1 hr1 (by omega) ?_
  refine s_ifb_ne 18 12 dX12_sceneOfAll_9 rfl rfl (fun h_9 => ?_) (fun h_9 => ?_)
  · skip
    refine s_aload_n 19 dX12_sceneOfAll_18 rfl rfl ?_
    refine s_callV0 (M' := M_X12_fewestOverAll) (as := []) 22 dX12_sceneOfAll_19 rfl cw_X12_376 rfl rfl sh_138 rfl (by decide) (Nat.le_of_ble_eq_true rfl) (Nat.le_of_ble_eq_true rfl) (Nat.le_of_ble_eq_true rfl) (Nat.le_of_ble_eq_true rfl) ⟨rfl, rfl, rfl⟩ ?_
    have hC : HP ∧ 0 ≤ i ∧ i < r 5 := by assumption
    have e0 := (hr hC.1).1.1
    refine c_X12_fewestOverAll hT er1 es1 erd1 (hr hC.1).1 rfl (fun v I2 k1 k2 k3 => ?_)
    have hb := k2.best.2 i hC.2.1 hC.2.2
    refine s_bipush 24 dX12_sceneOfAll_22 rfl (by decide) ?_
    refine s_icmp_ne 32 27 dX12_sceneOfAll_24 rfl rfl (by first | omega | exact bI_r _ | exact iI_r _) (by first | omega | exact bI_r _ | exact iI_r _) (fun h_24 => ?_) (fun h_24 => ?_)
    · skip
      refine s_aload_n 33 dX12_sceneOfAll_32 rfl rfl ?_
      refine s_getR 36 dX12_sceneOfAll_33 rfl fl_X12_72 (fun _ _ _ _ => rfl) (T_X12_bestRow hT) sh_138 (Nat.le_of_ble_eq_true rfl) ?_
      refine s_iload_n 37 dX12_sceneOfAll_36 rfl rfl ?_
      refine s_iald 38 dX12_sceneOfAll_37 rfl sh_157 (Nat.le_of_ble_eq_true rfl) (by omega) (by omega) (fun r_37 => ?_)
      refine s_iret dX12_sceneOfAll_38 rfl rfl ?_
      have q := hye hC I2 (k1.mo (by decide))
      rw [hb] at q
      first | (rw [if_pos (by assumption)] at q; exact q) | (rw [if_neg (by assumption)] at q; exact q)
    refine s_bipush 29 dX12_sceneOfAll_27 rfl (by decide) ?_
    refine s_goto 38 dX12_sceneOfAll_29 rfl ?_
    refine s_iret dX12_sceneOfAll_38 rfl rfl ?_
    have q := hye hC I2 (k1.mo (by decide))
    rw [hb] at q
    first | (rw [if_pos (by assumption)] at q; exact q) | (rw [if_neg (by assumption)] at q; exact q)
  refine s_aload_n 13 dX12_sceneOfAll_12 rfl rfl ?_
  refine s_iconst 14 dX12_sceneOfAll_13 rfl ?_
  refine s_callV0 (M' := M_X12_no) (as := [_]) 17 dX12_sceneOfAll_14 rfl cw_X12_193 rfl rfl sh_138 rfl (by decide) (Nat.le_of_ble_eq_true rfl) (Nat.le_of_ble_eq_true rfl) (Nat.le_of_ble_eq_true rfl) (Nat.le_of_ble_eq_true rfl) ⟨rfl, rfl, rfl⟩ ?_
  refine c_X12_no (by decide) ?_
  first | rw [show up (up (up I 138 0 0) 138 11 0) 138 11 1 = gd I 1 from gd_no] | rw [show up (up (up I 138 0 0) 138 11 0) 138 11 2 = gd I 2 from gd_no]
  refine s_iret dX12_sceneOfAll_17 rfl rfl ?_
  exact hno (by assumption)
set_option maxHeartbeats 4000000 in
theorem c_X12_enough {E : ET} {I : MI} {L : ML} {R : MR} {Q : Option AV → MI → ML → MR → Prop} {r s : F1} {a : List Int} {HP : Prop} (hT : Topo R) (er : I 141 = r) (es : I 143 = s) (erd : I 138 30 = -1) (ehp : I 138 14 = bI HP) (hr : HP → SOk r s a) (h : ∀ I', Eqo MS (gd I (pick HP 0 1)) I' → Q (some (vi (pick HP (bI (bestV (valF r (-1) (r 2) (s 12)) (ordL r) ≠ -2 ∧ bestV (valF r (-1) (r 2) (s 12)) (ordL r) ≤ r 3)) (-1)))) I' L R) : CT E M_X12_enough 161 yX12_enough [(vr (138))] I L R Q := by
  refine CT_of rfl rfl (fun h => by cases h) (Nat.le_of_ble_eq_true rfl) (fun X => ?_)
  show V X _ z0 0 [some (vr (138)), none] [] I L R _
  have hno := (pick_spl h).1
  have hye := (pick_spl h).2
  have er1 : up (up I 138 0 0) 138 11 0 141 = r := (gd_n (by decide)).trans er
  have es1 : up (up I 138 0 0) 138 11 0 143 = s := (gd_n (by decide)).trans es
  have erd1 : up (up I 138 0 0) 138 11 0 138 30 = -1 := (gd_f (by decide)).trans erd
  have ehp1 : up (up I 138 0 0) 138 11 0 138 14 = bI HP := (gd_f (by decide)).trans ehp
  have hr1 : HP → WFr r := fun z => (hr z).1
  refine s_aload_n 1 dX12_enough_0 rfl rfl ?_
  refine s_callV0 (M' := M_X12_good) (as := []) 4 dX12_enough_1 rfl cw_X12_190 rfl rfl sh_138 rfl (by decide) (Nat.le_of_ble_eq_true rfl) (Nat.le_of_ble_eq_true rfl) (Nat.le_of_ble_eq_true rfl) (Nat.le_of_ble_eq_true rfl) ⟨rfl, rfl, rfl⟩ ?_
  refine c_X12_good ?_
  refine s_aload_n 5 dX12_enough_4 rfl rfl ?_
  refine s_getI 8 dX12_enough_5 rfl fl_X12_203 (fun _ _ _ _ => rfl) sh_138 (Nat.le_of_ble_eq_true rfl) (fun r_5 => ?_)
  rw [ehp1]
  refine s_ifb_ne 17 11 dX12_enough_8 rfl rfl (fun h_8 => ?_) (fun h_8 => ?_)
  · skip
    refine s_aload_n 18 dX12_enough_17 rfl rfl ?_
    refine s_callV0 (M' := M_X12_fewestOverAll) (as := []) 21 dX12_enough_18 rfl cw_X12_376 rfl rfl sh_138 rfl (by decide) (Nat.le_of_ble_eq_true rfl) (Nat.le_of_ble_eq_true rfl) (Nat.le_of_ble_eq_true rfl) (Nat.le_of_ble_eq_true rfl) ⟨rfl, rfl, rfl⟩ ?_
    have hP : HP := by assumption
    have e0 := (hr hP).1.1
    refine c_X12_fewestOverAll hT er1 es1 erd1 (hr hP).1 rfl (fun v I2 k1 k2 k3 => ?_)
    have er2 : I2 141 = r := (k1 141 (by decide)).trans er1
    have q := hye hP I2 (k1.mo (by decide))
    rw [k2.best.1] at q
    refine s_istore_n (ls' := [_, _]) 22 dX12_enough_21 rfl (Nat.le_of_ble_eq_true rfl) rfl rfl ?_
    refine s_iload_n 23 dX12_enough_22 rfl rfl ?_
    refine s_bipush 25 dX12_enough_23 rfl (by decide) ?_
    refine s_icmp_eq 42 28 dX12_enough_25 rfl rfl (by first | omega | exact bI_r _ | exact iI_r _) (by first | omega | exact bI_r _ | exact iI_r _) (fun h_25 => ?_) (fun h_25 => ?_)
    · skip
      refine s_iconst 43 dX12_enough_42 rfl ?_
      refine s_iret dX12_enough_43 rfl rfl ?_
      first | exact hno (by assumption) | exact ret_t ⟨by assumption, by omega⟩ q | exact ret_f (fun z => absurd z.2 (by omega)) q | exact ret_f (fun z => absurd z.1 (by omega)) q
    refine s_iload_n 29 dX12_enough_28 rfl rfl ?_
    refine s_aload_n 30 dX12_enough_29 rfl rfl ?_
    refine s_getR 33 dX12_enough_30 rfl fl_X12_20 (fun _ _ _ _ => rfl) (T_X12_r hT) sh_138 (Nat.le_of_ble_eq_true rfl) ?_
    refine s_iconst 34 dX12_enough_33 rfl ?_
    refine s_iald 35 dX12_enough_34 rfl sh_141 (Nat.le_of_ble_eq_true rfl) (by omega) (by omega) (fun r_34 => ?_)
    rw [er2] at r_34 ⊢
    refine s_icmp_gt 42 38 dX12_enough_35 rfl rfl (by first | omega | exact bI_r _ | exact iI_r _) (by first | omega | exact bI_r _ | exact iI_r _) (fun h_35 => ?_) (fun h_35 => ?_)
    · skip
      refine s_iconst 43 dX12_enough_42 rfl ?_
      refine s_iret dX12_enough_43 rfl rfl ?_
      first | exact hno (by assumption) | exact ret_t ⟨by assumption, by omega⟩ q | exact ret_f (fun z => absurd z.2 (by omega)) q | exact ret_f (fun z => absurd z.1 (by omega)) q
    refine s_iconst 39 dX12_enough_38 rfl ?_
    refine s_goto 43 dX12_enough_39 rfl ?_
    refine s_iret dX12_enough_43 rfl rfl ?_
    first | exact hno (by assumption) | exact ret_t ⟨by assumption, by omega⟩ q | exact ret_f (fun z => absurd z.2 (by omega)) q | exact ret_f (fun z => absurd z.1 (by omega)) q
  refine s_aload_n 12 dX12_enough_11 rfl rfl ?_
  refine s_iconst 13 dX12_enough_12 rfl ?_
  refine s_callV0 (M' := M_X12_no) (as := [_]) 16 dX12_enough_13 rfl cw_X12_193 rfl rfl sh_138 rfl (by decide) (Nat.le_of_ble_eq_true rfl) (Nat.le_of_ble_eq_true rfl) (Nat.le_of_ble_eq_true rfl) (Nat.le_of_ble_eq_true rfl) ⟨rfl, rfl, rfl⟩ ?_
  refine c_X12_no (by decide) ?_
  first | rw [show up (up (up I 138 0 0) 138 11 0) 138 11 1 = gd I 1 from gd_no] | rw [show up (up (up I 138 0 0) 138 11 0) 138 11 2 = gd I 2 from gd_no]
  refine s_iret dX12_enough_16 rfl rfl ?_
  first | exact hno (by assumption) | exact ret_t ⟨by assumption, by omega⟩ q | exact ret_f (fun z => absurd z.2 (by omega)) q | exact ret_f (fun z => absurd z.1 (by omega)) q
set_option maxHeartbeats 4000000 in
theorem c_X12_orders {E : ET} {I : MI} {L : ML} {R : MR} {Q : Option AV → MI → ML → MR → Prop} {r s : F1} {a : List Int} {HP : Prop} (hT : Topo R) (er : I 141 = r) (es : I 143 = s) (erd : I 138 30 = -1) (ehp : I 138 14 = bI HP) (hr : HP → SOk r s a) (h : ∀ I', Eqo MS (gd I (pick HP 0 1)) I' → Q (some (vi (pick HP ((ordL r).length : Int) (-1)))) I' L R) : CT E M_X12_orders 161 yX12_orders [(vr (138))] I L R Q := by
  refine CT_of rfl rfl (fun h => by cases h) (Nat.le_of_ble_eq_true rfl) (fun X => ?_)
  show V X _ z0 0 [some (vr (138)), none, none] [] I L R _
  have hno := (pick_spl h).1
  have hye := (pick_spl h).2
  have er1 : up (up I 138 0 0) 138 11 0 141 = r := (gd_n (by decide)).trans er
  have es1 : up (up I 138 0 0) 138 11 0 143 = s := (gd_n (by decide)).trans es
  have erd1 : up (up I 138 0 0) 138 11 0 138 30 = -1 := (gd_f (by decide)).trans erd
  have ehp1 : up (up I 138 0 0) 138 11 0 138 14 = bI HP := (gd_f (by decide)).trans ehp
  have hr1 : HP → WFr r := fun z => (hr z).1
  have fin : HP → ∀ (I1 : MI), Eqo MS (gd I 0) I1 → V X M_X12_orders z0 24 [some (vr 138), some (vi ((ordL r).length : Int)), some (vi (bI False))] [] I1 L R (RT X M_X12_orders Q) := by
    intro hP I1 g1
    refine s_iload_n 25 dX12_orders_24 rfl rfl ?_
    refine s_ifb_eq 39 28 dX12_orders_25 rfl rfl (fun h_25 => ?_) (fun h_25 => by exfalso; exact h_25)
    refine s_iload_n 40 dX12_orders_39 rfl rfl ?_
    refine s_iret dX12_orders_40 rfl rfl ?_
    exact hye hP I1 g1
  have loop : HP → ∀ (f : Nat) (A B : List (List Int)) (c : List Int) (I1 : MI), B.length < f → perms (r 5).toNat = A ++ c :: B → OrdP r (vL c) → (∀ k, 0 ≤ k → k < r 5 → I1 148 k = vL c k) → Eqo MS (gd I 0) I1 →
      V X M_X12_orders z0 24 [some (vr 138), some (vi ((A.filter (ordB r)).length : Int)), some (vi (bI True))] [] I1 L R (RT X M_X12_orders Q) := by
    intro hP f
    induction f with
    | zero => intro A B c I1 g1; omega
    | succ f ih =>
      intro A B c I1 g1 g2 g3 g4 g5
      have er2 : I1 141 = r := (g5 141 (by decide)).trans er1
      have hoc : ordB r c = true := ordB_t.mpr g3
      have hfl : (A ++ [c]).filter (ordB r) = A.filter (ordB r) ++ [c] := by rw [List.filter_append]; simp [hoc]
      have hln : ((A.filter (ordB r)).length : Int) + 1 = (((A ++ [c]).filter (ordB r)).length : Nat) := by rw [hfl, List.length_append]; rfl
      refine s_iload_n 25 dX12_orders_24 rfl rfl ?_
      refine s_ifb_eq 39 28 dX12_orders_25 rfl rfl (fun h_25 => by exfalso; exact h_25 trivial) (fun h_25 => ?_)
      refine s_iinc (ls' := [_, _, _]) 31 dX12_orders_28 rfl rfl (Nat.le_of_ble_eq_true rfl) rfl rfl ?_
      refine s_aload_n 32 dX12_orders_31 rfl rfl ?_
      refine s_callV0 (M' := M_X12_nextOrder) (as := []) 35 dX12_orders_32 rfl cw_X12_290 rfl rfl sh_138 rfl (by decide) (Nat.le_of_ble_eq_true rfl) (Nat.le_of_ble_eq_true rfl) (Nat.le_of_ble_eq_true rfl) (Nat.le_of_ble_eq_true rfl) ⟨rfl, rfl, rfl⟩ ?_
      rw [hln]
      refine c_X12_nextOrder2 hT er2 rfl (hr hP).1 g2 g4 (fun P I3 m1 m2 m3 => ?_)
      refine s_istore_n (ls' := [_, _, _]) 36 dX12_orders_35 rfl (Nat.le_of_ble_eq_true rfl) rfl rfl ?_
      refine s_goto 24 dX12_orders_36 rfl ?_
      by_cases hP2 : P
      · obtain ⟨B1, c', B2, z1, z2, z3, z4⟩ := m2 hP2
        rw [bI_t hP2, ← bI_t trivial]
        have e : (A ++ c :: B1).filter (ordB r) = (A ++ [c]).filter (ordB r) := by rw [show A ++ c :: B1 = (A ++ [c]) ++ B1 by simp, List.filter_append, z2, List.append_nil]
        rw [← e]
        exact ih (A ++ c :: B1) B2 c' I3 (by rw [z1] at g1; simp at g1; omega) (by rw [g2, z1]; simp) z3 z4 (g5.tr (m1.mo (by decide)))
      · rw [bI_f hP2, ← bI_f (b := False) id]
        have e : ordL r = (A ++ [c]).filter (ordB r) := by unfold ordL; rw [g2, show A ++ c :: B = (A ++ [c]) ++ B by simp, List.filter_append, m3 hP2, List.append_nil]
        rw [← e]
        exact fin hP I3 (g5.tr (m1.mo (by decide)))
  refine s_aload_n 1 dX12_orders_0 rfl rfl ?_
  refine s_callV0 (M' := M_X12_good) (as := []) 4 dX12_orders_1 rfl cw_X12_190 rfl rfl sh_138 rfl (by decide) (Nat.le_of_ble_eq_true rfl) (Nat.le_of_ble_eq_true rfl) (Nat.le_of_ble_eq_true rfl) (Nat.le_of_ble_eq_true rfl) ⟨rfl, rfl, rfl⟩ ?_
  refine c_X12_good ?_
  refine s_aload_n 5 dX12_orders_4 rfl rfl ?_
  refine s_getI 8 dX12_orders_5 rfl fl_X12_203 (fun _ _ _ _ => rfl) sh_138 (Nat.le_of_ble_eq_true rfl) (fun r_5 => ?_)
  rw [ehp1]
  refine s_ifb_ne 17 11 dX12_orders_8 rfl rfl (fun h_8 => ?_) (fun h_8 => ?_)
  · skip
    refine s_iconst 18 dX12_orders_17 rfl ?_
    refine s_istore_n (ls' := [_, _, _]) 19 dX12_orders_18 rfl (Nat.le_of_ble_eq_true rfl) rfl rfl ?_
    refine s_aload_n 20 dX12_orders_19 rfl rfl ?_
    refine s_callV0 (M' := M_X12_firstOrder) (as := []) 23 dX12_orders_20 rfl cw_X12_215 rfl rfl sh_138 rfl (by decide) (Nat.le_of_ble_eq_true rfl) (Nat.le_of_ble_eq_true rfl) (Nat.le_of_ble_eq_true rfl) (Nat.le_of_ble_eq_true rfl) ⟨rfl, rfl, rfl⟩ ?_
    have hP : HP := by assumption
    refine c_X12_firstOrder2 hT er1 (hr hP).1 (fun P I1 m1 m2 m3 => ?_)
    refine s_istore_n (ls' := [_, _, _]) 24 dX12_orders_23 rfl (Nat.le_of_ble_eq_true rfl) rfl rfl ?_
    by_cases hP2 : P
    · obtain ⟨A, c, B, z1, z2, z3, z4⟩ := m2 hP2
      rw [bI_t hP2, ← bI_t trivial]
      have := loop hP (B.length + 1) A B c I1 (by omega) z1 z3 z4 (m1.mo (by decide))
      rw [z2] at this
      exact this
    · rw [show bI P = bI False from (bI_f hP2).trans (bI_f (b := False) id).symm]
      have := fin hP I1 (m1.mo (by decide))
      rw [m3 hP2] at this
      exact this
  refine s_aload_n 12 dX12_orders_11 rfl rfl ?_
  refine s_iconst 13 dX12_orders_12 rfl ?_
  refine s_callV0 (M' := M_X12_no) (as := [_]) 16 dX12_orders_13 rfl cw_X12_193 rfl rfl sh_138 rfl (by decide) (Nat.le_of_ble_eq_true rfl) (Nat.le_of_ble_eq_true rfl) (Nat.le_of_ble_eq_true rfl) (Nat.le_of_ble_eq_true rfl) ⟨rfl, rfl, rfl⟩ ?_
  refine c_X12_no (by decide) ?_
  first | rw [show up (up (up I 138 0 0) 138 11 0) 138 11 1 = gd I 1 from gd_no] | rw [show up (up (up I 138 0 0) 138 11 0) 138 11 2 = gd I 2 from gd_no]
  refine s_iret dX12_orders_16 rfl rfl ?_
  exact hno (by assumption)
