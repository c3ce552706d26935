/-! the class's TOKENS, walked -/
def clS (t : Int) : Int := if t = 0 then 0 else if t = 2 then 1 else if t = 3 then 2 else if t = 59 then 3 else 4
theorem clS_i {t u : Int} (hu : u = 0 ∨ u = 2 ∨ u = 3 ∨ u = 59) : clS t = clS u ↔ t = u := by
  unfold clS
  rcases hu with rfl | rfl | rfl | rfl <;> (constructor <;> intro h)
  all_goals first
    | (subst h; rfl)
    | (repeat (first | (rw [if_pos rfl] at h) | (split at h))
       all_goals first | assumption | (exfalso; revert h; decide) | omega)
def TkC (I : MI) (L : ML) (bt : F1) (n a : Int) : Prop := (0 ≤ a ∧ a ≤ n) ∧ I 79 1 = n ∧ I 79 4 = a ∧ I 79 2 = enE bt n a ∧ I 79 3 = clS (tkE bt n a) ∧ (tkE bt n a = 2 → L 79 5 = pkW (wdE bt n a)) ∧ (tkE bt n a = 3 → I 79 6 = nuE bt n a)
/-- only the TOKEN at hand has changed -/
def TmQ (I : MI) (L : ML) (I' : MI) (L' : ML) : Prop := Eqo [79] I I' ∧ I' 79 1 = I 79 1 ∧ ∀ c, c ≠ 79 → L' c = L c
theorem TmQ.rf {I : MI} {L : ML} : TmQ I L I L := ⟨Eqo.rf, rfl, fun _ _ => rfl⟩
theorem TmQ.tr {I I' I'' : MI} {L L' L'' : ML} (h : TmQ I L I' L') (h' : TmQ I' L' I'' L'') : TmQ I L I'' L'' := ⟨h.1.tr h'.1, h'.2.1.trans h.2.1, fun c hc => (h'.2.2 c hc).trans (h.2.2 c hc)⟩
theorem TmQ.fs {I I' : MI} {L L' : ML} (h : TmQ I L I' L') {k v : Int} (hk : k ≠ 1) : TmQ I L (up I' 79 k v) L' := ⟨h.1.st (by decide), (upn (fun e => hk e.symm)).trans h.2.1, h.2.2⟩
theorem TmQ.ls {I I' : MI} {L L' : ML} (h : TmQ I L I' L') {v : Int64} : TmQ I L I' (up L' 79 5 v) := ⟨h.1, h.2.1, fun c hc => (up_ne hc).trans (h.2.2 c hc)⟩
theorem pk_wd {bt : F1} {n a k : Int} (h : enE bt n a = k) (hk : a ≤ k) : pkW (wdE bt n a) = pk (fun j => bt (a + j)) (k - a).toNat := by
  unfold pkW
  rw [wdE_len, h]
  exact pk_c (fun j a1 b => wdE_at ⟨a1, by omega⟩)
theorem upsL {L : ML} {c : Nat} {k : Int} {v : Int64} : up L c k v c k = v := by rw [up_eq]; exact if_pos rfl
set_option maxHeartbeats 4000000 in
theorem c_X10_takeWord {E : ET} {I : MI} {L : ML} {R : MR} {Q : Option AV → MI → ML → MR → Prop} {bt : F1} {n a : Int} (hT : Topo R) (et : I 2 = bt) (en : I 79 1 = n) (hn : 0 ≤ n ∧ n ≤ 900) (hb : ∀ k, 0 ≤ bt k ∧ bt k ≤ 255) (ha : 0 ≤ a ∧ a < n) (e2 : I 79 2 = a) (e4 : I 79 4 = a) (hs : smB (bt a)) (h : ∀ I' L', TmQ I L I' L' → TkC I' L' bt n a → Q none I' L' R) : CT E M_X10_takeWord 161 yX10_takeWord [(vr (79))] I L R Q := by
  refine CT_of rfl rfl (fun h => by cases h) (Nat.le_of_ble_eq_true rfl) (fun X => ?_)
  show V X _ z0 0 [some (vr (79))] [] I L R _
  have hen : enE bt n a = rnE (fun j => j < n ∧ smB (bt j)) a := by unfold enE; rw [pick_t ha.2, pick_t hs]
  have htk : tkE bt n a = pick (enE bt n a - a > 8) 1 2 := by unfold tkE; rw [pick_t ha.2, pick_t hs]
  have loop : ∀ (f : Nat) (k : Int) (I1 : MI) (L1 : ML), n - k < (f : Int) → a ≤ k → k ≤ n → (∀ j, a ≤ j → j < k → j < n ∧ smB (bt j)) → TmQ I L I1 L1 → I1 79 2 = k → I1 79 4 = a → L1 79 5 = pk (fun j => bt (a + j)) (k - a).toNat → V X M_X10_takeWord z0 5 [some (vr (79))] [] (I1) L1 R (RT X M_X10_takeWord Q) := by
    intro f
    induction f with
    | zero => intro k I1 L1 h1 h2 h3; omega
    | succ f ih =>
      intro k I1 L1 h1 h2 h3 h4 h5 h6 h7 h8
      have et1 : I1 2 = bt := (h5.1 2 (by decide)).trans et
      have en1 : I1 79 1 = n := h5.2.1.trans en
      have hbk := hb k
      have fin : ¬ (k < n ∧ smB (bt k)) → V X M_X10_takeWord z0 70 [some (vr (79))] [] (I1) L1 R (RT X M_X10_takeWord Q) := by
        intro z
        have hk : a < k := by
          rcases Int.lt_trichotomy a k with y | y | y
          · exact y
          · exact absurd (show k < n ∧ smB (bt k) by rw [← y]; exact ⟨ha.2, hs⟩) z
          · omega
        have hr : IsRun (fun j => j < n ∧ smB (bt j)) a k := ⟨h2, h4, z⟩
        rw [hr.v] at hen
        rw [hen] at htk
        have fields : ∀ t, t = clS (tkE bt n a) → TkC (up I1 79 3 t) L1 bt n a := by
          intro t ht
          refine ⟨⟨ha.1, by omega⟩, (upn (by decide)).trans en1, (upn (by decide)).trans h7, (upn (by decide)).trans (h6.trans hen.symm), by rw [ups, ht], fun _ => ?_, fun y => ?_⟩
          · rw [h8, pk_wd hen h2]
          · rw [htk] at y
            by_cases u : k - a > 8
            · rw [pick_t u] at y; omega
            · rw [pick_f u] at y; omega
        refine s_aload_n 71 dX10_takeWord_70 rfl rfl ?_
        refine s_aload_n 72 dX10_takeWord_71 rfl rfl ?_
        refine s_getI 75 dX10_takeWord_72 rfl fl_X10_17 (fun _ _ _ _ => rfl) sh_79 (Nat.le_of_ble_eq_true rfl) (fun r_72 => ?_)
        rw [h6]
        refine s_aload_n 76 dX10_takeWord_75 rfl rfl ?_
        refine s_getI 79 dX10_takeWord_76 rfl fl_X10_29 (fun _ _ _ _ => rfl) sh_79 (Nat.le_of_ble_eq_true rfl) (fun r_76 => ?_)
        rw [h7]
        refine s_isub 80 dX10_takeWord_79 rfl ?_
        refine s_bipush 82 dX10_takeWord_80 rfl (by decide) ?_
        refine s_icmp_gt 89 85 dX10_takeWord_82 rfl rfl (by first | omega | exact bI_r _ | exact iI_r _) (by first | omega | exact bI_r _ | exact iI_r _) (fun h_82 => ?_) (fun h_82 => ?_)
        · skip
          refine s_iconst 90 dX10_takeWord_89 rfl ?_
          refine s_putI 93 dX10_takeWord_90 rfl fl_X10_32 (fun _ => rfl) (fun _ => rfl) (fun _ _ _ _ => rfl) sh_79 (Nat.le_of_ble_eq_true rfl) (by first | omega | exact bI_r _ | exact iI_r _) ?_
          refine s_vret dX10_takeWord_93 rfl rfl ?_
          refine h _ _ (h5.fs (by decide)) (fields _ ?_)
          rw [htk]; first | (rw [pick_t (by omega)]; rfl) | (rw [pick_f (by omega)]; rfl)
        refine s_iconst 86 dX10_takeWord_85 rfl ?_
        refine s_goto 90 dX10_takeWord_86 rfl ?_
        refine s_putI 93 dX10_takeWord_90 rfl fl_X10_32 (fun _ => rfl) (fun _ => rfl) (fun _ _ _ _ => rfl) sh_79 (Nat.le_of_ble_eq_true rfl) (by first | omega | exact bI_r _ | exact iI_r _) ?_
        refine s_vret dX10_takeWord_93 rfl rfl ?_
        refine h _ _ (h5.fs (by decide)) (fields _ ?_)
        rw [htk]; first | (rw [pick_t (by omega)]; rfl) | (rw [pick_f (by omega)]; rfl)
      by_cases hk : k < n
      · skip
        refine s_aload_n 6 dX10_takeWord_5 rfl rfl ?_
        refine s_getI 9 dX10_takeWord_6 rfl fl_X10_17 (fun _ _ _ _ => rfl) sh_79 (Nat.le_of_ble_eq_true rfl) (fun r_6 => ?_)
        rw [h6]
        refine s_aload_n 10 dX10_takeWord_9 rfl rfl ?_
        refine s_getI 13 dX10_takeWord_10 rfl fl_X10_13 (fun _ _ _ _ => rfl) sh_79 (Nat.le_of_ble_eq_true rfl) (fun r_10 => ?_)
        rw [en1]
        refine s_icmp_ge 70 16 dX10_takeWord_13 rfl rfl (by first | omega | exact bI_r _ | exact iI_r _) (by first | omega | exact bI_r _ | exact iI_r _) (fun h_13 => by exfalso; omega) (fun h_13 => ?_)
        refine s_aload_n 17 dX10_takeWord_16 rfl rfl ?_
        refine s_getR 20 dX10_takeWord_17 rfl fl_X10_7 (fun _ _ _ _ => rfl) (T_X10_tape hT) sh_79 (Nat.le_of_ble_eq_true rfl) ?_
        refine s_aload_n 21 dX10_takeWord_20 rfl rfl ?_
        refine s_getI 24 dX10_takeWord_21 rfl fl_X10_17 (fun _ _ _ _ => rfl) sh_79 (Nat.le_of_ble_eq_true rfl) (fun r_21 => ?_)
        rw [h6]
        refine s_callV0 (M' := M_X9_at) (as := [_]) 27 dX10_takeWord_24 rfl cw_X10_23 rfl rfl sh_1 rfl (by decide) (Nat.le_of_ble_eq_true rfl) (Nat.le_of_ble_eq_true rfl) (Nat.le_of_ble_eq_true rfl) (Nat.le_of_ble_eq_true rfl) ⟨rfl, rfl, rfl⟩ ?_
        refine c_X9_at hT et1 (by omega) ?_
        refine s_callS0 (M' := M_X10_isLetter) (as := [_]) 30 dX10_takeWord_27 rfl cw_X10_35 rfl rfl (Nat.le_of_ble_eq_true rfl) (Nat.le_of_ble_eq_true rfl) (Nat.le_of_ble_eq_true rfl) ⟨rfl, rfl, rfl⟩ ?_
        refine c_X10_isLetter (by omega) ?_
        refine s_ifb_eq 70 33 dX10_takeWord_30 rfl rfl (fun h_30 => ?_) (fun h_30 => ?_)
        · skip
          exact fin (fun z => absurd z.2 (by assumption))
        refine s_aload_n 34 dX10_takeWord_33 rfl rfl ?_
        refine s_aload_n 35 dX10_takeWord_34 rfl rfl ?_
        refine s_getL 38 dX10_takeWord_35 rfl fl_X10_48 (fun _ _ _ _ => rfl) sh_79 (Nat.le_of_ble_eq_true rfl) ?_
        rw [h8]
        refine s_bipush 40 dX10_takeWord_38 rfl (by decide) ?_
        refine s_lshl 41 dX10_takeWord_40 rfl ?_
        refine s_aload_n 42 dX10_takeWord_41 rfl rfl ?_
        refine s_getR 45 dX10_takeWord_42 rfl fl_X10_7 (fun _ _ _ _ => rfl) (T_X10_tape hT) sh_79 (Nat.le_of_ble_eq_true rfl) ?_
        refine s_aload_n 46 dX10_takeWord_45 rfl rfl ?_
        refine s_getI 49 dX10_takeWord_46 rfl fl_X10_17 (fun _ _ _ _ => rfl) sh_79 (Nat.le_of_ble_eq_true rfl) (fun r_46 => ?_)
        rw [h6]
        refine s_callV0 (M' := M_X9_at) (as := [_]) 52 dX10_takeWord_49 rfl cw_X10_23 rfl rfl sh_1 rfl (by decide) (Nat.le_of_ble_eq_true rfl) (Nat.le_of_ble_eq_true rfl) (Nat.le_of_ble_eq_true rfl) (Nat.le_of_ble_eq_true rfl) ⟨rfl, rfl, rfl⟩ ?_
        refine c_X9_at hT et1 (by omega) ?_
        refine s_i2l 53 dX10_takeWord_52 rfl ?_
        refine s_lor 54 dX10_takeWord_53 rfl ?_
        refine s_putL 57 dX10_takeWord_54 rfl fl_X10_48 (fun _ => rfl) (fun _ => rfl) (fun _ _ _ _ => rfl) sh_79 (Nat.le_of_ble_eq_true rfl) ?_
        refine s_aload_n 58 dX10_takeWord_57 rfl rfl ?_
        refine s_dup 59 dX10_takeWord_58 rfl rfl ?_
        refine s_getI 62 dX10_takeWord_59 rfl fl_X10_17 (fun _ _ _ _ => rfl) sh_79 (Nat.le_of_ble_eq_true rfl) (fun r_59 => ?_)
        rw [h6]
        refine s_iconst 63 dX10_takeWord_62 rfl ?_
        refine s_iadd 64 dX10_takeWord_63 rfl ?_
        refine s_putI 67 dX10_takeWord_64 rfl fl_X10_17 (fun _ => rfl) (fun _ => rfl) (fun _ _ _ _ => rfl) sh_79 (Nat.le_of_ble_eq_true rfl) (by first | omega | exact bI_r _ | exact iI_r _) ?_
        refine s_goto 5 dX10_takeWord_67 rfl ?_
        have hsk : smB (bt k) := by assumption
        refine ih (k + 1) _ _ (by omega) (by omega) (by omega) (fun j j1 j2 => if ej : j = k then (by rw [ej]; exact ⟨hk, hsk⟩) else h4 j j1 (by omega)) ((h5.ls).fs (by decide)) ups ((upn (by decide)).trans h7) ?_
        rw [upsL, show (k + 1 - a).toNat = (k - a).toNat + 1 by omega]
        show _ = (pk (fun j => bt (a + j)) (k - a).toNat <<< ((iI 8).toInt64 &&& 63)) ||| (iI (bt (a + ((k - a).toNat : Nat)))).toInt64
        rw [show a + (((k - a).toNat : Nat) : Int) = k by omega]
      · skip
        refine s_aload_n 6 dX10_takeWord_5 rfl rfl ?_
        refine s_getI 9 dX10_takeWord_6 rfl fl_X10_17 (fun _ _ _ _ => rfl) sh_79 (Nat.le_of_ble_eq_true rfl) (fun r_6 => ?_)
        rw [h6]
        refine s_aload_n 10 dX10_takeWord_9 rfl rfl ?_
        refine s_getI 13 dX10_takeWord_10 rfl fl_X10_13 (fun _ _ _ _ => rfl) sh_79 (Nat.le_of_ble_eq_true rfl) (fun r_10 => ?_)
        rw [en1]
        refine s_icmp_ge 70 16 dX10_takeWord_13 rfl rfl (by first | omega | exact bI_r _ | exact iI_r _) (by first | omega | exact bI_r _ | exact iI_r _) (fun h_13 => ?_) (fun h_13 => by exfalso; omega)
        exact fin (fun z => absurd z.1 hk)
  refine s_aload_n 1 dX10_takeWord_0 rfl rfl ?_
  refine s_lconst 2 dX10_takeWord_1 rfl ?_
  refine s_putL 5 dX10_takeWord_2 rfl fl_X10_48 (fun _ => rfl) (fun _ => rfl) (fun _ _ _ _ => rfl) sh_79 (Nat.le_of_ble_eq_true rfl) ?_
  exact loop (n - a + 1).toNat a I _ (by omega) (by omega) (by omega) (fun j j1 j2 => by omega) TmQ.rf.ls e2 e4 (by rw [upsL, Int.sub_self]; rfl)
set_option maxHeartbeats 4000000 in
theorem c_X10_takeWhole {E : ET} {I : MI} {L : ML} {R : MR} {Q : Option AV → MI → ML → MR → Prop} {bt : F1} {n a : Int} (hT : Topo R) (et : I 2 = bt) (en : I 79 1 = n) (hn : 0 ≤ n ∧ n ≤ 900) (hb : ∀ k, 0 ≤ bt k ∧ bt k ≤ 255) (ha : 0 ≤ a ∧ a < n) (e2 : I 79 2 = a) (e4 : I 79 4 = a) (hs : ¬ smB (bt a)) (hg : dgB (bt a)) (h : ∀ I', TmQ I L I' L → TkC I' L bt n a → Q none I' L R) : CT E M_X10_takeWhole 161 yX10_takeWhole [(vr (79))] I L R Q := by
  refine CT_of rfl rfl (fun h => by cases h) (Nat.le_of_ble_eq_true rfl) (fun X => ?_)
  show V X _ z0 0 [some (vr (79))] [] I L R _
  have hen : enE bt n a = rnE (fun j => j < n ∧ dgB (bt j)) a := by unfold enE; rw [pick_t ha.2, pick_f hs, pick_t hg]
  have htk : tkE bt n a = pick (enE bt n a - a > 3) 1 3 := by unfold tkE; rw [pick_t ha.2, pick_f hs, pick_t hg]
  have loop : ∀ (f : Nat) (k : Int) (I1 : MI), n - k < (f : Int) → a ≤ k → k ≤ n → (∀ j, a ≤ j → j < k → j < n ∧ dgB (bt j)) → TmQ I L I1 L → I1 79 2 = k → I1 79 4 = a → (k - a ≤ 3 → I1 79 6 = dvF bt a (k - a).toNat) → V X M_X10_takeWhole z0 5 [some (vr (79))] [] (I1) L R (RT X M_X10_takeWhole Q) := by
    intro f
    induction f with
    | zero => intro k I1 h1 h2 h3; omega
    | succ f ih =>
      intro k I1 h1 h2 h3 h4 h5 h6 h7 h8
      have et1 : I1 2 = bt := (h5.1 2 (by decide)).trans et
      have en1 : I1 79 1 = n := h5.2.1.trans en
      have hbk := hb k
      have fin : ¬ (k < n ∧ dgB (bt k)) → V X M_X10_takeWhole z0 72 [some (vr (79))] [] (I1) L R (RT X M_X10_takeWhole Q) := by
        intro z
        have hk : a < k := by
          rcases Int.lt_trichotomy a k with y | y | y
          · exact y
          · exact absurd (show k < n ∧ dgB (bt k) by rw [← y]; exact ⟨ha.2, hg⟩) z
          · omega
        have hr : IsRun (fun j => j < n ∧ dgB (bt j)) a k := ⟨h2, h4, z⟩
        rw [hr.v] at hen
        rw [hen] at htk
        have fields : ∀ t, t = clS (tkE bt n a) → TkC (up I1 79 3 t) L bt n a := by
          intro t ht
          refine ⟨⟨ha.1, by omega⟩, (upn (by decide)).trans en1, (upn (by decide)).trans h7, (upn (by decide)).trans (h6.trans hen.symm), by rw [ups, ht], fun y => ?_, fun y => ?_⟩
          · rw [htk] at y
            by_cases u : k - a > 3
            · rw [pick_t u] at y; omega
            · rw [pick_f u] at y; omega
          · rw [htk] at y
            have u : ¬ k - a > 3 := fun u => by rw [pick_t u] at y; omega
            rw [upn (by decide), h8 (by omega)]
            unfold nuE
            rw [hen]
        refine s_aload_n 73 dX10_takeWhole_72 rfl rfl ?_
        refine s_aload_n 74 dX10_takeWhole_73 rfl rfl ?_
        refine s_getI 77 dX10_takeWhole_74 rfl fl_X10_17 (fun _ _ _ _ => rfl) sh_79 (Nat.le_of_ble_eq_true rfl) (fun r_74 => ?_)
        rw [h6]
        refine s_aload_n 78 dX10_takeWhole_77 rfl rfl ?_
        refine s_getI 81 dX10_takeWhole_78 rfl fl_X10_29 (fun _ _ _ _ => rfl) sh_79 (Nat.le_of_ble_eq_true rfl) (fun r_78 => ?_)
        rw [h7]
        refine s_isub 82 dX10_takeWhole_81 rfl ?_
        refine s_iconst 83 dX10_takeWhole_82 rfl ?_
        refine s_icmp_gt 90 86 dX10_takeWhole_83 rfl rfl (by first | omega | exact bI_r _ | exact iI_r _) (by first | omega | exact bI_r _ | exact iI_r _) (fun h_83 => ?_) (fun h_83 => ?_)
        · skip
          refine s_iconst 91 dX10_takeWhole_90 rfl ?_
          refine s_putI 94 dX10_takeWhole_91 rfl fl_X10_32 (fun _ => rfl) (fun _ => rfl) (fun _ _ _ _ => rfl) sh_79 (Nat.le_of_ble_eq_true rfl) (by first | omega | exact bI_r _ | exact iI_r _) ?_
          refine s_vret dX10_takeWhole_94 rfl rfl ?_
          refine h _ (h5.fs (by decide)) (fields _ ?_)
          rw [htk]; first | (rw [pick_t (by omega)]; rfl) | (rw [pick_f (by omega)]; rfl)
        refine s_iconst 87 dX10_takeWhole_86 rfl ?_
        refine s_goto 91 dX10_takeWhole_87 rfl ?_
        refine s_putI 94 dX10_takeWhole_91 rfl fl_X10_32 (fun _ => rfl) (fun _ => rfl) (fun _ _ _ _ => rfl) sh_79 (Nat.le_of_ble_eq_true rfl) (by first | omega | exact bI_r _ | exact iI_r _) ?_
        refine s_vret dX10_takeWhole_94 rfl rfl ?_
        refine h _ (h5.fs (by decide)) (fields _ ?_)
        rw [htk]; first | (rw [pick_t (by omega)]; rfl) | (rw [pick_f (by omega)]; rfl)
      by_cases hk : k < n
      · skip
        refine s_aload_n 6 dX10_takeWhole_5 rfl rfl ?_
        refine s_getI 9 dX10_takeWhole_6 rfl fl_X10_17 (fun _ _ _ _ => rfl) sh_79 (Nat.le_of_ble_eq_true rfl) (fun r_6 => ?_)
        rw [h6]
        refine s_aload_n 10 dX10_takeWhole_9 rfl rfl ?_
        refine s_getI 13 dX10_takeWhole_10 rfl fl_X10_13 (fun _ _ _ _ => rfl) sh_79 (Nat.le_of_ble_eq_true rfl) (fun r_10 => ?_)
        rw [en1]
        refine s_icmp_ge 72 16 dX10_takeWhole_13 rfl rfl (by first | omega | exact bI_r _ | exact iI_r _) (by first | omega | exact bI_r _ | exact iI_r _) (fun h_13 => by exfalso; omega) (fun h_13 => ?_)
        refine s_aload_n 17 dX10_takeWhole_16 rfl rfl ?_
        refine s_getR 20 dX10_takeWhole_17 rfl fl_X10_7 (fun _ _ _ _ => rfl) (T_X10_tape hT) sh_79 (Nat.le_of_ble_eq_true rfl) ?_
        refine s_aload_n 21 dX10_takeWhole_20 rfl rfl ?_
        refine s_getI 24 dX10_takeWhole_21 rfl fl_X10_17 (fun _ _ _ _ => rfl) sh_79 (Nat.le_of_ble_eq_true rfl) (fun r_21 => ?_)
        rw [h6]
        refine s_callV0 (M' := M_X9_at) (as := [_]) 27 dX10_takeWhole_24 rfl cw_X10_23 rfl rfl sh_1 rfl (by decide) (Nat.le_of_ble_eq_true rfl) (Nat.le_of_ble_eq_true rfl) (Nat.le_of_ble_eq_true rfl) (Nat.le_of_ble_eq_true rfl) ⟨rfl, rfl, rfl⟩ ?_
        refine c_X9_at hT et1 (by omega) ?_
        refine s_callS0 (M' := M_X10_isDigit) (as := [_]) 30 dX10_takeWhole_27 rfl cw_X10_42 rfl rfl (Nat.le_of_ble_eq_true rfl) (Nat.le_of_ble_eq_true rfl) (Nat.le_of_ble_eq_true rfl) ⟨rfl, rfl, rfl⟩ ?_
        refine c_X10_isDigit (by omega) ?_
        refine s_ifb_eq 72 33 dX10_takeWhole_30 rfl rfl (fun h_30 => ?_) (fun h_30 => ?_)
        · skip
          exact fin (fun z => absurd z.2 (by assumption))
        refine s_aload_n 34 dX10_takeWhole_33 rfl rfl ?_
        refine s_aload_n 35 dX10_takeWhole_34 rfl rfl ?_
        refine s_getI 38 dX10_takeWhole_35 rfl fl_X10_52 (fun _ _ _ _ => rfl) sh_79 (Nat.le_of_ble_eq_true rfl) (fun r_35 => ?_)
        refine s_bipush 40 dX10_takeWhole_38 rfl (by decide) ?_
        refine s_imul 41 dX10_takeWhole_40 rfl ?_
        refine s_aload_n 42 dX10_takeWhole_41 rfl rfl ?_
        refine s_getR 45 dX10_takeWhole_42 rfl fl_X10_7 (fun _ _ _ _ => rfl) (T_X10_tape hT) sh_79 (Nat.le_of_ble_eq_true rfl) ?_
        refine s_aload_n 46 dX10_takeWhole_45 rfl rfl ?_
        refine s_getI 49 dX10_takeWhole_46 rfl fl_X10_17 (fun _ _ _ _ => rfl) sh_79 (Nat.le_of_ble_eq_true rfl) (fun r_46 => ?_)
        rw [h6]
        refine s_callV0 (M' := M_X9_at) (as := [_]) 52 dX10_takeWhole_49 rfl cw_X10_23 rfl rfl sh_1 rfl (by decide) (Nat.le_of_ble_eq_true rfl) (Nat.le_of_ble_eq_true rfl) (Nat.le_of_ble_eq_true rfl) (Nat.le_of_ble_eq_true rfl) ⟨rfl, rfl, rfl⟩ ?_
        refine c_X9_at hT et1 (by omega) ?_
        refine s_iadd 53 dX10_takeWhole_52 rfl ?_
        refine s_bipush 55 dX10_takeWhole_53 rfl (by decide) ?_
        refine s_isub 56 dX10_takeWhole_55 rfl ?_
        refine s_wr ?_
        refine s_putI 59 dX10_takeWhole_56 rfl fl_X10_52 (fun _ => rfl) (fun _ => rfl) (fun _ _ _ _ => rfl) sh_79 (Nat.le_of_ble_eq_true rfl) (iI_r _) ?_
        refine s_aload_n 60 dX10_takeWhole_59 rfl rfl ?_
        refine s_dup 61 dX10_takeWhole_60 rfl rfl ?_
        refine s_getI 64 dX10_takeWhole_61 rfl fl_X10_17 (fun _ _ _ _ => rfl) sh_79 (Nat.le_of_ble_eq_true rfl) (fun r_61 => ?_)
        rw [upn (by decide), h6]
        refine s_iconst 65 dX10_takeWhole_64 rfl ?_
        refine s_iadd 66 dX10_takeWhole_65 rfl ?_
        refine s_putI 69 dX10_takeWhole_66 rfl fl_X10_17 (fun _ => rfl) (fun _ => rfl) (fun _ _ _ _ => rfl) sh_79 (Nat.le_of_ble_eq_true rfl) (by first | omega | exact bI_r _ | exact iI_r _) ?_
        refine s_goto 5 dX10_takeWhole_69 rfl ?_
        have hsk : dgB (bt k) := by assumption
        refine ih (k + 1) _ (by omega) (by omega) (by omega) (fun j j1 j2 => if ej : j = k then (by rw [ej]; exact ⟨hk, hsk⟩) else h4 j j1 (by omega)) ((h5.fs (by decide)).fs (by decide)) ups ((upn (by decide)).trans ((upn (by decide)).trans h7)) (fun y => ?_)
        have hd := dvF_b (bt := bt) (a := a) (m := (k - a).toNat) (fun j j1 j2 => (h4 (a + j) (by omega) (by omega)).2) (by omega)
        have h10 : (10 : Int) ^ (k - a).toNat ≤ 100 := (by have hc : (k - a).toNat = 0 ∨ (k - a).toNat = 1 ∨ (k - a).toNat = 2 := (by omega); rcases hc with y | y | y <;> rw [y] <;> decide)
        rw [upn (by decide), ups, h8 (by omega), iI_t (by omega), dvF_s h2]
        omega
      · skip
        refine s_aload_n 6 dX10_takeWhole_5 rfl rfl ?_
        refine s_getI 9 dX10_takeWhole_6 rfl fl_X10_17 (fun _ _ _ _ => rfl) sh_79 (Nat.le_of_ble_eq_true rfl) (fun r_6 => ?_)
        rw [h6]
        refine s_aload_n 10 dX10_takeWhole_9 rfl rfl ?_
        refine s_getI 13 dX10_takeWhole_10 rfl fl_X10_13 (fun _ _ _ _ => rfl) sh_79 (Nat.le_of_ble_eq_true rfl) (fun r_10 => ?_)
        rw [en1]
        refine s_icmp_ge 72 16 dX10_takeWhole_13 rfl rfl (by first | omega | exact bI_r _ | exact iI_r _) (by first | omega | exact bI_r _ | exact iI_r _) (fun h_13 => ?_) (fun h_13 => by exfalso; omega)
        exact fin (fun z => absurd z.1 hk)
  refine s_aload_n 1 dX10_takeWhole_0 rfl rfl ?_
  refine s_iconst 2 dX10_takeWhole_1 rfl ?_
  refine s_putI 5 dX10_takeWhole_2 rfl fl_X10_52 (fun _ => rfl) (fun _ => rfl) (fun _ _ _ _ => rfl) sh_79 (Nat.le_of_ble_eq_true rfl) (by first | omega | exact bI_r _ | exact iI_r _) ?_
  exact loop (n - a + 1).toNat a _ (by omega) (by omega) (by omega) (fun j j1 j2 => by omega) (TmQ.rf.fs (by decide)) ((upn (by decide)).trans e2) ((upn (by decide)).trans e4) (fun _ => by rw [ups, Int.sub_self]; rfl)
set_option maxHeartbeats 4000000 in
theorem c_X10_move {E : ET} {I : MI} {L : ML} {R : MR} {Q : Option AV → MI → ML → MR → Prop} {bt : F1} {n e : Int} (hT : Topo R) (et : I 2 = bt) (en : I 79 1 = n) (hn : 0 ≤ n ∧ n ≤ 900) (hb : ∀ k, 0 ≤ bt k ∧ bt k ≤ 255) (ee : I 79 2 = e) (he : 0 ≤ e ∧ e ≤ n) (h : ∀ I' L', TmQ I L I' L' → TkC I' L' bt n (skE bt n e) → Q none I' L' R) : CT E M_X10_move 161 yX10_move [(vr (79))] I L R Q := by
  refine CT_of rfl rfl (fun h => by cases h) (Nat.le_of_ble_eq_true rfl) (fun X => ?_)
  show V X _ z0 0 [some (vr (79))] [] I L R _
  have tok : ∀ (a : Int) (I1 : MI), 0 ≤ a → a ≤ n → skE bt n e = a → TmQ I L I1 L → I1 79 2 = a → V X M_X10_move z0 40 [some (vr (79))] [] (I1) L R (RT X M_X10_move Q) := by
    intro a I1 a1 a2 a3 h5 h6
    rw [a3] at h
    have hba := hb a
    have q1 : TmQ I L (up I1 79 4 a) L := h5.fs (by decide)
    have et1 : up I1 79 4 a 2 = bt := (q1.1 2 (by decide)).trans et
    have en1 : up I1 79 4 a 79 1 = n := q1.2.1.trans en
    have f2 : up I1 79 4 a 79 2 = a := (upn (by decide)).trans h6
    by_cases ha : a < n
    · by_cases hs : smB (bt a)
      · skip
        refine s_aload_n 41 dX10_move_40 rfl rfl ?_
        refine s_aload_n 42 dX10_move_41 rfl rfl ?_
        refine s_getI 45 dX10_move_42 rfl fl_X10_17 (fun _ _ _ _ => rfl) sh_79 (Nat.le_of_ble_eq_true rfl) (fun r_42 => ?_)
        rw [h6]
        refine s_putI 48 dX10_move_45 rfl fl_X10_29 (fun _ => rfl) (fun _ => rfl) (fun _ _ _ _ => rfl) sh_79 (Nat.le_of_ble_eq_true rfl) (by first | omega | exact bI_r _ | exact iI_r _) ?_
        refine s_aload_n 49 dX10_move_48 rfl rfl ?_
        refine s_getI 52 dX10_move_49 rfl fl_X10_17 (fun _ _ _ _ => rfl) sh_79 (Nat.le_of_ble_eq_true rfl) (fun r_49 => ?_)
        rw [f2]
        refine s_aload_n 53 dX10_move_52 rfl rfl ?_
        refine s_getI 56 dX10_move_53 rfl fl_X10_13 (fun _ _ _ _ => rfl) sh_79 (Nat.le_of_ble_eq_true rfl) (fun r_53 => ?_)
        rw [en1]
        refine s_icmp_lt 67 59 dX10_move_56 rfl rfl (by first | omega | exact bI_r _ | exact iI_r _) (by first | omega | exact bI_r _ | exact iI_r _) (fun h_56 => ?_) (fun h_56 => by exfalso; omega)
        refine s_aload_n 68 dX10_move_67 rfl rfl ?_
        refine s_getR 71 dX10_move_68 rfl fl_X10_7 (fun _ _ _ _ => rfl) (T_X10_tape hT) sh_79 (Nat.le_of_ble_eq_true rfl) ?_
        refine s_aload_n 72 dX10_move_71 rfl rfl ?_
        refine s_getI 75 dX10_move_72 rfl fl_X10_17 (fun _ _ _ _ => rfl) sh_79 (Nat.le_of_ble_eq_true rfl) (fun r_72 => ?_)
        rw [f2]
        refine s_callV0 (M' := M_X9_at) (as := [_]) 78 dX10_move_75 rfl cw_X10_23 rfl rfl sh_1 rfl (by decide) (Nat.le_of_ble_eq_true rfl) (Nat.le_of_ble_eq_true rfl) (Nat.le_of_ble_eq_true rfl) (Nat.le_of_ble_eq_true rfl) ⟨rfl, rfl, rfl⟩ ?_
        refine c_X9_at hT et1 (by omega) ?_
        refine s_callS0 (M' := M_X10_isLetter) (as := [_]) 81 dX10_move_78 rfl cw_X10_35 rfl rfl (Nat.le_of_ble_eq_true rfl) (Nat.le_of_ble_eq_true rfl) (Nat.le_of_ble_eq_true rfl) ⟨rfl, rfl, rfl⟩ ?_
        refine c_X10_isLetter (by omega) ?_
        refine s_ifb_eq 91 84 dX10_move_81 rfl rfl (fun h_81 => by exfalso; exact absurd hs h_81) (fun h_81 => ?_)
        refine s_aload_n 85 dX10_move_84 rfl rfl ?_
        refine s_callV0 (M' := M_X10_takeWord) (as := []) 88 dX10_move_85 rfl cw_X10_39 rfl rfl sh_79 rfl (by decide) (Nat.le_of_ble_eq_true rfl) (Nat.le_of_ble_eq_true rfl) (Nat.le_of_ble_eq_true rfl) (Nat.le_of_ble_eq_true rfl) ⟨rfl, rfl, rfl⟩ ?_
        refine c_X10_takeWord hT et1 en1 hn hb ⟨a1, ha⟩ f2 ups hs (fun I2 L2 g1 g2 => ?_)
        refine s_goto 150 dX10_move_88 rfl ?_
        refine s_vret dX10_move_150 rfl rfl ?_
        exact h I2 L2 (q1.tr g1) g2
      · by_cases hg : dgB (bt a)
        · skip
          refine s_aload_n 41 dX10_move_40 rfl rfl ?_
          refine s_aload_n 42 dX10_move_41 rfl rfl ?_
          refine s_getI 45 dX10_move_42 rfl fl_X10_17 (fun _ _ _ _ => rfl) sh_79 (Nat.le_of_ble_eq_true rfl) (fun r_42 => ?_)
          rw [h6]
          refine s_putI 48 dX10_move_45 rfl fl_X10_29 (fun _ => rfl) (fun _ => rfl) (fun _ _ _ _ => rfl) sh_79 (Nat.le_of_ble_eq_true rfl) (by first | omega | exact bI_r _ | exact iI_r _) ?_
          refine s_aload_n 49 dX10_move_48 rfl rfl ?_
          refine s_getI 52 dX10_move_49 rfl fl_X10_17 (fun _ _ _ _ => rfl) sh_79 (Nat.le_of_ble_eq_true rfl) (fun r_49 => ?_)
          rw [f2]
          refine s_aload_n 53 dX10_move_52 rfl rfl ?_
          refine s_getI 56 dX10_move_53 rfl fl_X10_13 (fun _ _ _ _ => rfl) sh_79 (Nat.le_of_ble_eq_true rfl) (fun r_53 => ?_)
          rw [en1]
          refine s_icmp_lt 67 59 dX10_move_56 rfl rfl (by first | omega | exact bI_r _ | exact iI_r _) (by first | omega | exact bI_r _ | exact iI_r _) (fun h_56 => ?_) (fun h_56 => by exfalso; omega)
          refine s_aload_n 68 dX10_move_67 rfl rfl ?_
          refine s_getR 71 dX10_move_68 rfl fl_X10_7 (fun _ _ _ _ => rfl) (T_X10_tape hT) sh_79 (Nat.le_of_ble_eq_true rfl) ?_
          refine s_aload_n 72 dX10_move_71 rfl rfl ?_
          refine s_getI 75 dX10_move_72 rfl fl_X10_17 (fun _ _ _ _ => rfl) sh_79 (Nat.le_of_ble_eq_true rfl) (fun r_72 => ?_)
          rw [f2]
          refine s_callV0 (M' := M_X9_at) (as := [_]) 78 dX10_move_75 rfl cw_X10_23 rfl rfl sh_1 rfl (by decide) (Nat.le_of_ble_eq_true rfl) (Nat.le_of_ble_eq_true rfl) (Nat.le_of_ble_eq_true rfl) (Nat.le_of_ble_eq_true rfl) ⟨rfl, rfl, rfl⟩ ?_
          refine c_X9_at hT et1 (by omega) ?_
          refine s_callS0 (M' := M_X10_isLetter) (as := [_]) 81 dX10_move_78 rfl cw_X10_35 rfl rfl (Nat.le_of_ble_eq_true rfl) (Nat.le_of_ble_eq_true rfl) (Nat.le_of_ble_eq_true rfl) ⟨rfl, rfl, rfl⟩ ?_
          refine c_X10_isLetter (by omega) ?_
          refine s_ifb_eq 91 84 dX10_move_81 rfl rfl (fun h_81 => ?_) (fun h_81 => by exfalso; exact absurd h_81 hs)
          refine s_aload_n 92 dX10_move_91 rfl rfl ?_
          refine s_getR 95 dX10_move_92 rfl fl_X10_7 (fun _ _ _ _ => rfl) (T_X10_tape hT) sh_79 (Nat.le_of_ble_eq_true rfl) ?_
          refine s_aload_n 96 dX10_move_95 rfl rfl ?_
          refine s_getI 99 dX10_move_96 rfl fl_X10_17 (fun _ _ _ _ => rfl) sh_79 (Nat.le_of_ble_eq_true rfl) (fun r_96 => ?_)
          rw [f2]
          refine s_callV0 (M' := M_X9_at) (as := [_]) 102 dX10_move_99 rfl cw_X10_23 rfl rfl sh_1 rfl (by decide) (Nat.le_of_ble_eq_true rfl) (Nat.le_of_ble_eq_true rfl) (Nat.le_of_ble_eq_true rfl) (Nat.le_of_ble_eq_true rfl) ⟨rfl, rfl, rfl⟩ ?_
          refine c_X9_at hT et1 (by omega) ?_
          refine s_callS0 (M' := M_X10_isDigit) (as := [_]) 105 dX10_move_102 rfl cw_X10_42 rfl rfl (Nat.le_of_ble_eq_true rfl) (Nat.le_of_ble_eq_true rfl) (Nat.le_of_ble_eq_true rfl) ⟨rfl, rfl, rfl⟩ ?_
          refine c_X10_isDigit (by omega) ?_
          refine s_ifb_eq 115 108 dX10_move_105 rfl rfl (fun h_105 => by exfalso; exact absurd hg h_105) (fun h_105 => ?_)
          refine s_aload_n 109 dX10_move_108 rfl rfl ?_
          refine s_callV0 (M' := M_X10_takeWhole) (as := []) 112 dX10_move_109 rfl cw_X10_45 rfl rfl sh_79 rfl (by decide) (Nat.le_of_ble_eq_true rfl) (Nat.le_of_ble_eq_true rfl) (Nat.le_of_ble_eq_true rfl) (Nat.le_of_ble_eq_true rfl) ⟨rfl, rfl, rfl⟩ ?_
          refine c_X10_takeWhole hT et1 en1 hn hb ⟨a1, ha⟩ f2 ups hs hg (fun I2 g1 g2 => ?_)
          refine s_goto 150 dX10_move_112 rfl ?_
          refine s_vret dX10_move_150 rfl rfl ?_
          exact h I2 L (q1.tr g1) g2
        · have hen : enE bt n a = a + 1 := by unfold enE; rw [pick_t ha, pick_f hs, pick_f hg]
          have htk : tkE bt n a = pick (bt a = 59 ∨ bt a = 44) (bt a) 1 := by unfold tkE; rw [pick_t ha, pick_f hs, pick_f hg]
          have t23 : tkE bt n a ≠ 2 ∧ tkE bt n a ≠ 3 := by
            rw [htk]
            by_cases y : bt a = 59 ∨ bt a = 44
            · rw [pick_t y]; omega
            · rw [pick_f y]; omega
          have o4 : bt a ≠ 59 → 4 = clS (pick (bt a = 59 ∨ bt a = 44) (bt a) 1) := fun z => by
            by_cases y : bt a = 44
            · rw [pick_t (Or.inr y), y]; rfl
            · rw [pick_f (by omega)]; rfl
          refine s_aload_n 41 dX10_move_40 rfl rfl ?_
          refine s_aload_n 42 dX10_move_41 rfl rfl ?_
          refine s_getI 45 dX10_move_42 rfl fl_X10_17 (fun _ _ _ _ => rfl) sh_79 (Nat.le_of_ble_eq_true rfl) (fun r_42 => ?_)
          rw [h6]
          refine s_putI 48 dX10_move_45 rfl fl_X10_29 (fun _ => rfl) (fun _ => rfl) (fun _ _ _ _ => rfl) sh_79 (Nat.le_of_ble_eq_true rfl) (by first | omega | exact bI_r _ | exact iI_r _) ?_
          refine s_aload_n 49 dX10_move_48 rfl rfl ?_
          refine s_getI 52 dX10_move_49 rfl fl_X10_17 (fun _ _ _ _ => rfl) sh_79 (Nat.le_of_ble_eq_true rfl) (fun r_49 => ?_)
          rw [f2]
          refine s_aload_n 53 dX10_move_52 rfl rfl ?_
          refine s_getI 56 dX10_move_53 rfl fl_X10_13 (fun _ _ _ _ => rfl) sh_79 (Nat.le_of_ble_eq_true rfl) (fun r_53 => ?_)
          rw [en1]
          refine s_icmp_lt 67 59 dX10_move_56 rfl rfl (by first | omega | exact bI_r _ | exact iI_r _) (by first | omega | exact bI_r _ | exact iI_r _) (fun h_56 => ?_) (fun h_56 => by exfalso; omega)
          refine s_aload_n 68 dX10_move_67 rfl rfl ?_
          refine s_getR 71 dX10_move_68 rfl fl_X10_7 (fun _ _ _ _ => rfl) (T_X10_tape hT) sh_79 (Nat.le_of_ble_eq_true rfl) ?_
          refine s_aload_n 72 dX10_move_71 rfl rfl ?_
          refine s_getI 75 dX10_move_72 rfl fl_X10_17 (fun _ _ _ _ => rfl) sh_79 (Nat.le_of_ble_eq_true rfl) (fun r_72 => ?_)
          rw [f2]
          refine s_callV0 (M' := M_X9_at) (as := [_]) 78 dX10_move_75 rfl cw_X10_23 rfl rfl sh_1 rfl (by decide) (Nat.le_of_ble_eq_true rfl) (Nat.le_of_ble_eq_true rfl) (Nat.le_of_ble_eq_true rfl) (Nat.le_of_ble_eq_true rfl) ⟨rfl, rfl, rfl⟩ ?_
          refine c_X9_at hT et1 (by omega) ?_
          refine s_callS0 (M' := M_X10_isLetter) (as := [_]) 81 dX10_move_78 rfl cw_X10_35 rfl rfl (Nat.le_of_ble_eq_true rfl) (Nat.le_of_ble_eq_true rfl) (Nat.le_of_ble_eq_true rfl) ⟨rfl, rfl, rfl⟩ ?_
          refine c_X10_isLetter (by omega) ?_
          refine s_ifb_eq 91 84 dX10_move_81 rfl rfl (fun h_81 => ?_) (fun h_81 => by exfalso; exact absurd h_81 hs)
          refine s_aload_n 92 dX10_move_91 rfl rfl ?_
          refine s_getR 95 dX10_move_92 rfl fl_X10_7 (fun _ _ _ _ => rfl) (T_X10_tape hT) sh_79 (Nat.le_of_ble_eq_true rfl) ?_
          refine s_aload_n 96 dX10_move_95 rfl rfl ?_
          refine s_getI 99 dX10_move_96 rfl fl_X10_17 (fun _ _ _ _ => rfl) sh_79 (Nat.le_of_ble_eq_true rfl) (fun r_96 => ?_)
          rw [f2]
          refine s_callV0 (M' := M_X9_at) (as := [_]) 102 dX10_move_99 rfl cw_X10_23 rfl rfl sh_1 rfl (by decide) (Nat.le_of_ble_eq_true rfl) (Nat.le_of_ble_eq_true rfl) (Nat.le_of_ble_eq_true rfl) (Nat.le_of_ble_eq_true rfl) ⟨rfl, rfl, rfl⟩ ?_
          refine c_X9_at hT et1 (by omega) ?_
          refine s_callS0 (M' := M_X10_isDigit) (as := [_]) 105 dX10_move_102 rfl cw_X10_42 rfl rfl (Nat.le_of_ble_eq_true rfl) (Nat.le_of_ble_eq_true rfl) (Nat.le_of_ble_eq_true rfl) ⟨rfl, rfl, rfl⟩ ?_
          refine c_X10_isDigit (by omega) ?_
          refine s_ifb_eq 115 108 dX10_move_105 rfl rfl (fun h_105 => ?_) (fun h_105 => by exfalso; exact absurd h_105 hg)
          refine s_aload_n 116 dX10_move_115 rfl rfl ?_
          refine s_aload_n 117 dX10_move_116 rfl rfl ?_
          refine s_getR 120 dX10_move_117 rfl fl_X10_7 (fun _ _ _ _ => rfl) (T_X10_tape hT) sh_79 (Nat.le_of_ble_eq_true rfl) ?_
          refine s_aload_n 121 dX10_move_120 rfl rfl ?_
          refine s_getI 124 dX10_move_121 rfl fl_X10_17 (fun _ _ _ _ => rfl) sh_79 (Nat.le_of_ble_eq_true rfl) (fun r_121 => ?_)
          rw [f2]
          refine s_callV0 (M' := M_X9_at) (as := [_]) 127 dX10_move_124 rfl cw_X10_23 rfl rfl sh_1 rfl (by decide) (Nat.le_of_ble_eq_true rfl) (Nat.le_of_ble_eq_true rfl) (Nat.le_of_ble_eq_true rfl) (Nat.le_of_ble_eq_true rfl) ⟨rfl, rfl, rfl⟩ ?_
          refine c_X9_at hT et1 (by omega) ?_
          refine s_bipush 129 dX10_move_127 rfl (by decide) ?_
          refine s_icmp_ne 136 132 dX10_move_129 rfl rfl (by first | omega | exact bI_r _ | exact iI_r _) (by first | omega | exact bI_r _ | exact iI_r _) (fun h_129 => ?_) (fun h_129 => ?_)
          · skip
            refine s_iconst 137 dX10_move_136 rfl ?_
            refine s_putI 140 dX10_move_137 rfl fl_X10_32 (fun _ => rfl) (fun _ => rfl) (fun _ _ _ _ => rfl) sh_79 (Nat.le_of_ble_eq_true rfl) (by first | omega | exact bI_r _ | exact iI_r _) ?_
            refine s_aload_n 141 dX10_move_140 rfl rfl ?_
            refine s_dup 142 dX10_move_141 rfl rfl ?_
            refine s_getI 145 dX10_move_142 rfl fl_X10_17 (fun _ _ _ _ => rfl) sh_79 (Nat.le_of_ble_eq_true rfl) (fun r_142 => ?_)
            rw [upn (by decide), f2]
            refine s_iconst 146 dX10_move_145 rfl ?_
            refine s_iadd 147 dX10_move_146 rfl ?_
            refine s_putI 150 dX10_move_147 rfl fl_X10_17 (fun _ => rfl) (fun _ => rfl) (fun _ _ _ _ => rfl) sh_79 (Nat.le_of_ble_eq_true rfl) (by first | omega | exact bI_r _ | exact iI_r _) ?_
            refine s_vret dX10_move_150 rfl rfl ?_
            refine h _ _ ((q1.fs (by decide)).fs (by decide)) ⟨⟨a1, by omega⟩, ?_, ?_, ?_, ?_, fun y => absurd y t23.1, fun y => absurd y t23.2⟩
            · rw [upn (by decide), upn (by decide)]; exact en1
            · rw [upn (by decide), upn (by decide), ups]
            · rw [ups, hen]
            · rw [upn (by decide), ups, htk]; first | (rw [pick_t (by omega), show bt a = 59 by omega]; rfl) | exact o4 h_129
          refine s_iconst 133 dX10_move_132 rfl ?_
          refine s_goto 137 dX10_move_133 rfl ?_
          refine s_putI 140 dX10_move_137 rfl fl_X10_32 (fun _ => rfl) (fun _ => rfl) (fun _ _ _ _ => rfl) sh_79 (Nat.le_of_ble_eq_true rfl) (by first | omega | exact bI_r _ | exact iI_r _) ?_
          refine s_aload_n 141 dX10_move_140 rfl rfl ?_
          refine s_dup 142 dX10_move_141 rfl rfl ?_
          refine s_getI 145 dX10_move_142 rfl fl_X10_17 (fun _ _ _ _ => rfl) sh_79 (Nat.le_of_ble_eq_true rfl) (fun r_142 => ?_)
          rw [upn (by decide), f2]
          refine s_iconst 146 dX10_move_145 rfl ?_
          refine s_iadd 147 dX10_move_146 rfl ?_
          refine s_putI 150 dX10_move_147 rfl fl_X10_17 (fun _ => rfl) (fun _ => rfl) (fun _ _ _ _ => rfl) sh_79 (Nat.le_of_ble_eq_true rfl) (by first | omega | exact bI_r _ | exact iI_r _) ?_
          refine s_vret dX10_move_150 rfl rfl ?_
          refine h _ _ ((q1.fs (by decide)).fs (by decide)) ⟨⟨a1, by omega⟩, ?_, ?_, ?_, ?_, fun y => absurd y t23.1, fun y => absurd y t23.2⟩
          · rw [upn (by decide), upn (by decide)]; exact en1
          · rw [upn (by decide), upn (by decide), ups]
          · rw [ups, hen]
          · rw [upn (by decide), ups, htk]; first | (rw [pick_t (by omega), show bt a = 59 by omega]; rfl) | exact o4 h_129
    · have hen : enE bt n a = a := by unfold enE; rw [pick_f ha]
      have htk : tkE bt n a = 0 := by unfold tkE; rw [pick_f ha]
      refine s_aload_n 41 dX10_move_40 rfl rfl ?_
      refine s_aload_n 42 dX10_move_41 rfl rfl ?_
      refine s_getI 45 dX10_move_42 rfl fl_X10_17 (fun _ _ _ _ => rfl) sh_79 (Nat.le_of_ble_eq_true rfl) (fun r_42 => ?_)
      rw [h6]
      refine s_putI 48 dX10_move_45 rfl fl_X10_29 (fun _ => rfl) (fun _ => rfl) (fun _ _ _ _ => rfl) sh_79 (Nat.le_of_ble_eq_true rfl) (by first | omega | exact bI_r _ | exact iI_r _) ?_
      refine s_aload_n 49 dX10_move_48 rfl rfl ?_
      refine s_getI 52 dX10_move_49 rfl fl_X10_17 (fun _ _ _ _ => rfl) sh_79 (Nat.le_of_ble_eq_true rfl) (fun r_49 => ?_)
      rw [f2]
      refine s_aload_n 53 dX10_move_52 rfl rfl ?_
      refine s_getI 56 dX10_move_53 rfl fl_X10_13 (fun _ _ _ _ => rfl) sh_79 (Nat.le_of_ble_eq_true rfl) (fun r_53 => ?_)
      rw [en1]
      refine s_icmp_lt 67 59 dX10_move_56 rfl rfl (by first | omega | exact bI_r _ | exact iI_r _) (by first | omega | exact bI_r _ | exact iI_r _) (fun h_56 => by exfalso; omega) (fun h_56 => ?_)
      refine s_aload_n 60 dX10_move_59 rfl rfl ?_
      refine s_iconst 61 dX10_move_60 rfl ?_
      refine s_putI 64 dX10_move_61 rfl fl_X10_32 (fun _ => rfl) (fun _ => rfl) (fun _ _ _ _ => rfl) sh_79 (Nat.le_of_ble_eq_true rfl) (by first | omega | exact bI_r _ | exact iI_r _) ?_
      refine s_goto 150 dX10_move_64 rfl ?_
      refine s_vret dX10_move_150 rfl rfl ?_
      refine h _ _ (q1.fs (by decide)) ⟨⟨a1, by omega⟩, (upn (by decide)).trans en1, ?_, ?_, ?_, fun y => by omega, fun y => by omega⟩
      · rw [upn (by decide), ups]
      · rw [upn (by decide), f2, hen]
      · rw [ups, htk]; rfl
  have skip : ∀ (f : Nat) (k : Int) (I1 : MI), n - k < (f : Int) → e ≤ k → k ≤ n → (∀ j, e ≤ j → j < k → j < n ∧ bt j = 32) → TmQ I L I1 L → I1 79 2 = k → V X M_X10_move z0 0 [some (vr (79))] [] (I1) L R (RT X M_X10_move Q) := by
    intro f
    induction f with
    | zero => intro k I1 h1 h2 h3; omega
    | succ f ih =>
      intro k I1 h1 h2 h3 h4 h5 h6
      have et1 : I1 2 = bt := (h5.1 2 (by decide)).trans et
      have en1 : I1 79 1 = n := h5.2.1.trans en
      have hbk := hb k
      refine s_aload_n 1 dX10_move_0 rfl rfl ?_
      refine s_getI 4 dX10_move_1 rfl fl_X10_17 (fun _ _ _ _ => rfl) sh_79 (Nat.le_of_ble_eq_true rfl) (fun r_1 => ?_)
      rw [h6]
      refine s_aload_n 5 dX10_move_4 rfl rfl ?_
      refine s_getI 8 dX10_move_5 rfl fl_X10_13 (fun _ _ _ _ => rfl) sh_79 (Nat.le_of_ble_eq_true rfl) (fun r_5 => ?_)
      rw [en1]
      refine s_icmp_ge 40 11 dX10_move_8 rfl rfl (by first | omega | exact bI_r _ | exact iI_r _) (by first | omega | exact bI_r _ | exact iI_r _) (fun h_8 => ?_) (fun h_8 => ?_)
      · skip
        exact tok k I1 (by omega) (by omega) (IsRun.v ⟨h2, h4, fun z => by omega⟩) h5 h6
      refine s_aload_n 12 dX10_move_11 rfl rfl ?_
      refine s_getR 15 dX10_move_12 rfl fl_X10_7 (fun _ _ _ _ => rfl) (T_X10_tape hT) sh_79 (Nat.le_of_ble_eq_true rfl) ?_
      refine s_aload_n 16 dX10_move_15 rfl rfl ?_
      refine s_getI 19 dX10_move_16 rfl fl_X10_17 (fun _ _ _ _ => rfl) sh_79 (Nat.le_of_ble_eq_true rfl) (fun r_16 => ?_)
      rw [h6]
      refine s_callV0 (M' := M_X9_at) (as := [_]) 22 dX10_move_19 rfl cw_X10_23 rfl rfl sh_1 rfl (by decide) (Nat.le_of_ble_eq_true rfl) (Nat.le_of_ble_eq_true rfl) (Nat.le_of_ble_eq_true rfl) (Nat.le_of_ble_eq_true rfl) ⟨rfl, rfl, rfl⟩ ?_
      refine c_X9_at hT et1 (by omega) ?_
      refine s_bipush 24 dX10_move_22 rfl (by decide) ?_
      refine s_icmp_ne 40 27 dX10_move_24 rfl rfl (by first | omega | exact bI_r _ | exact iI_r _) (by first | omega | exact bI_r _ | exact iI_r _) (fun h_24 => ?_) (fun h_24 => ?_)
      · skip
        exact tok k I1 (by omega) (by omega) (IsRun.v ⟨h2, h4, fun z => by omega⟩) h5 h6
      refine s_aload_n 28 dX10_move_27 rfl rfl ?_
      refine s_dup 29 dX10_move_28 rfl rfl ?_
      refine s_getI 32 dX10_move_29 rfl fl_X10_17 (fun _ _ _ _ => rfl) sh_79 (Nat.le_of_ble_eq_true rfl) (fun r_29 => ?_)
      rw [h6]
      refine s_iconst 33 dX10_move_32 rfl ?_
      refine s_iadd 34 dX10_move_33 rfl ?_
      refine s_putI 37 dX10_move_34 rfl fl_X10_17 (fun _ => rfl) (fun _ => rfl) (fun _ _ _ _ => rfl) sh_79 (Nat.le_of_ble_eq_true rfl) (by first | omega | exact bI_r _ | exact iI_r _) ?_
      refine s_goto 0 dX10_move_37 rfl ?_
      refine ih (k + 1) _ (by omega) (by omega) (by omega) (fun j j1 j2 => if ej : j = k then (by rw [ej]; omega) else h4 j j1 (by omega)) (h5.fs (by decide)) ups
  exact skip (n - e + 1).toNat e I (by omega) (by omega) (by omega) (fun j j1 j2 => by omega) TmQ.rf ee
theorem c_X10_move2 {E : ET} {I : MI} {L : ML} {R : MR} {Q : QT} {bt : F1} {n a : Int} (hT : Topo R) (et : I 2 = bt) (hn : 0 ≤ n ∧ n ≤ 900) (hb : ∀ k, 0 ≤ bt k ∧ bt k ≤ 255) (hS : TkC I L bt n a)
    (h : ∀ I' L', TmQ I L I' L' → TkC I' L' bt n (nxE bt n a) → Q none I' L' R) : CT E M_X10_move 161 yX10_move [vr 79] I L R Q := by
  obtain ⟨h1, h2, h3, h4, h5⟩ := hS
  have := enE_v (bt := bt) h1.2
  exact c_X10_move hT et h2 hn hb h4 (by omega) h
set_option maxHeartbeats 4000000 in
theorem c_X10_start {E : ET} {I : MI} {L : ML} {R : MR} {Q : Option AV → MI → ML → MR → Prop} {bt : F1} {n : Int} (hT : Topo R) (et : I 2 = bt) (hn : 0 ≤ n ∧ n ≤ 900) (hb : ∀ k, 0 ≤ bt k ∧ bt k ≤ 255) (h : ∀ I' L', Eqo [79] I I' → (∀ c, c ≠ 79 → L' c = L c) → TkC I' L' bt n (skE bt n 0) → Q none I' L' R) : CT E M_X10_start 161 yX10_start [(vr (79)), (vi (n))] I L R Q := by
  refine CT_of rfl rfl (fun h => by cases h) (Nat.le_of_ble_eq_true rfl) (fun X => ?_)
  show V X _ z0 0 [some (vr (79)), some (vi (n))] [] I L R _
  refine s_aload_n 1 dX10_start_0 rfl rfl ?_
  refine s_iload_n 2 dX10_start_1 rfl rfl ?_
  refine s_putI 5 dX10_start_2 rfl fl_X10_13 (fun _ => rfl) (fun _ => rfl) (fun _ _ _ _ => rfl) sh_79 (Nat.le_of_ble_eq_true rfl) (by first | omega | exact bI_r _ | exact iI_r _) ?_
  refine s_aload_n 6 dX10_start_5 rfl rfl ?_
  refine s_iconst 7 dX10_start_6 rfl ?_
  refine s_putI 10 dX10_start_7 rfl fl_X10_17 (fun _ => rfl) (fun _ => rfl) (fun _ _ _ _ => rfl) sh_79 (Nat.le_of_ble_eq_true rfl) (by first | omega | exact bI_r _ | exact iI_r _) ?_
  refine s_aload_n 11 dX10_start_10 rfl rfl ?_
  refine s_callV0 (M' := M_X10_move) (as := []) 14 dX10_start_11 rfl cw_X10_20 rfl rfl sh_79 rfl (by decide) (Nat.le_of_ble_eq_true rfl) (Nat.le_of_ble_eq_true rfl) (Nat.le_of_ble_eq_true rfl) (Nat.le_of_ble_eq_true rfl) ⟨rfl, rfl, rfl⟩ ?_
  refine c_X10_move hT ((up_ne (by decide)).trans ((up_ne (by decide)).trans et)) ((upn (by decide)).trans ups) hn hb ups (by omega) (fun I2 L2 g1 g2 => ?_)
  refine s_vret dX10_start_14 rfl rfl ?_
  exact h I2 L2 (((Eqo.rf.st (by decide)).st (by decide)).tr g1.1) g1.2.2 g2
set_option maxHeartbeats 4000000 in
theorem c_X10_isWord {E : ET} {I : MI} {L : ML} {R : MR} {Q : Option AV → MI → ML → MR → Prop} {bt : F1} {n a : Int} {k : Nat} {q9 : ST0} (hT : Topo R) (hk : STRS[k]? = some q9) (hS : TkC I L bt n a) (h : Q (some (vi (bI (isW bt n (wS k) (.inr a))))) I L R) : CT E M_X10_isWord 161 yX10_isWord [(vr (79)), (vq 0 (k))] I L R Q := by
  refine CT_of rfl rfl (fun h => by cases h) (Nat.le_of_ble_eq_true rfl) (fun X => ?_)
  show V X _ z0 0 [some (vr (79)), some (vq 0 (k)), none, none, none] [] I L R _
  have hb := ST_at hk
  have hl := wS_len hk
  obtain ⟨s1, s2, s3, s4, s5, s6, s7⟩ := hS
  have wc : ∀ j : Int, 0 ≤ j → j < ((wS k).length : Int) → 97 ≤ vL (wS k) j ∧ vL (wS k) j ≤ 122 := fun j j1 j2 => by
    have g := hb.2.2.2 j.toNat (by omega)
    rw [wS_at hk (by omega)] at g
    exact g
  have loop : ∀ (f : Nat) (j : Int), ((wS k).length : Int) - j < (f : Int) → 0 ≤ j → j ≤ (wS k).length → V X M_X10_isWord z0 5 [some (vr (79)), some (vq 0 (k)), some (vl (pk (vL (wS k)) j.toNat)), none, some (vi (j))] [] (I) L R (RT X M_X10_isWord Q) := by
    intro f
    induction f with
    | zero => intro j z1 z2 z3; omega
    | succ f ih =>
      intro j z1 z2 z3
      have g := wc j z2
      refine s_iload 7 dX10_isWord_5 rfl rfl ?_
      refine s_aloadq_n 8 dX10_isWord_7 rfl rfl ?_
      refine s_callQ0 (M' := M_J0_length_8abf5) (as := []) 11 dX10_isWord_8 rfl cw_X10_55 rfl rfl (by assumption) (Nat.le_of_ble_eq_true rfl) (Nat.le_of_ble_eq_true rfl) (Nat.le_of_ble_eq_true rfl) ⟨rfl, rfl, rfl⟩ ?_
      refine c_J0_length_8abf5 hk ?_
      refine s_icmp_ge 33 14 dX10_isWord_11 rfl rfl (by first | omega | exact bI_r _ | exact iI_r _) (by first | omega | exact bI_r _ | exact iI_r _) (fun h_11 => ?_) (fun h_11 => ?_)
      · skip
        refine s_aload_n 34 dX10_isWord_33 rfl rfl ?_
        refine s_getI 37 dX10_isWord_34 rfl fl_X10_32 (fun _ _ _ _ => rfl) sh_79 (Nat.le_of_ble_eq_true rfl) (fun r_34 => ?_)
        rw [s5]
        refine s_iconst 38 dX10_isWord_37 rfl ?_
        refine s_icmp_ne 54 41 dX10_isWord_38 rfl rfl (by first | omega | (unfold clS; omega)) (by first | omega | (unfold clS; omega)) (fun h_38 => ?_) (fun h_38 => ?_)
        · skip
          refine s_iconst 55 dX10_isWord_54 rfl ?_
          refine s_zret dX10_isWord_55 rfl (by first | omega | exact bI_b _) rfl ?_
          first | exact ret_f (fun z => absurd z.1 (fun y => by rw [y] at h_38; exact h_38 rfl)) h | (have ht : tkE bt n a = 2 := (clS_i (u := 2) (by omega)).mp (by rw [h_38]; rfl); have hw := wdE_w ht; have e3 : L 79 5 = pk (vL (wS k)) (wS k).length ↔ wdE bt n a = wS k := (by rw [s6 ht]; exact pkW_inj ⟨hw.2.1, hw.2.2⟩ ⟨by omega, wc⟩); first | exact ret_t ⟨ht, e3.mp (cmp_0.mp h_47)⟩ h | exact ret_f (fun z => h_47 (cmp_0.mpr (e3.mpr z.2))) h)
        refine s_aload_n 42 dX10_isWord_41 rfl rfl ?_
        refine s_getL 45 dX10_isWord_42 rfl fl_X10_48 (fun _ _ _ _ => rfl) sh_79 (Nat.le_of_ble_eq_true rfl) ?_
        refine s_lload_n 46 dX10_isWord_45 rfl rfl ?_
        rw [show j = ((wS k).length : Int) by omega, Int.toNat_natCast]
        refine s_lcmp 47 dX10_isWord_46 rfl ?_
        refine s_if_ne 54 50 dX10_isWord_47 rfl rfl (iI_r _) (fun h_47 => ?_) (fun h_47 => ?_)
        · skip
          refine s_iconst 55 dX10_isWord_54 rfl ?_
          refine s_zret dX10_isWord_55 rfl (by first | omega | exact bI_b _) rfl ?_
          first | exact ret_f (fun z => absurd z.1 (fun y => by rw [y] at h_38; exact h_38 rfl)) h | (have ht : tkE bt n a = 2 := (clS_i (u := 2) (by omega)).mp (by rw [h_38]; rfl); have hw := wdE_w ht; have e3 : L 79 5 = pk (vL (wS k)) (wS k).length ↔ wdE bt n a = wS k := (by rw [s6 ht]; exact pkW_inj ⟨hw.2.1, hw.2.2⟩ ⟨by omega, wc⟩); first | exact ret_t ⟨ht, e3.mp (cmp_0.mp h_47)⟩ h | exact ret_f (fun z => h_47 (cmp_0.mpr (e3.mpr z.2))) h)
        refine s_iconst 51 dX10_isWord_50 rfl ?_
        refine s_goto 55 dX10_isWord_51 rfl ?_
        refine s_zret dX10_isWord_55 rfl (by first | omega | exact bI_b _) rfl ?_
        first | exact ret_f (fun z => absurd z.1 (fun y => by rw [y] at h_38; exact h_38 rfl)) h | (have ht : tkE bt n a = 2 := (clS_i (u := 2) (by omega)).mp (by rw [h_38]; rfl); have hw := wdE_w ht; have e3 : L 79 5 = pk (vL (wS k)) (wS k).length ↔ wdE bt n a = wS k := (by rw [s6 ht]; exact pkW_inj ⟨hw.2.1, hw.2.2⟩ ⟨by omega, wc⟩); first | exact ret_t ⟨ht, e3.mp (cmp_0.mp h_47)⟩ h | exact ret_f (fun z => h_47 (cmp_0.mpr (e3.mpr z.2))) h)
      refine s_lload_n 15 dX10_isWord_14 rfl rfl ?_
      refine s_bipush 17 dX10_isWord_15 rfl (by decide) ?_
      refine s_lshl 18 dX10_isWord_17 rfl ?_
      refine s_aloadq_n 19 dX10_isWord_18 rfl rfl ?_
      refine s_iload 21 dX10_isWord_19 rfl rfl ?_
      refine s_callQ0 (M' := M_J0_charAt_5068e) (as := [_]) 24 dX10_isWord_21 rfl cw_X10_60 rfl rfl (by assumption) (Nat.le_of_ble_eq_true rfl) (Nat.le_of_ble_eq_true rfl) (Nat.le_of_ble_eq_true rfl) ⟨rfl, rfl, rfl⟩ ?_
      refine c_J0_charAt_5068e hk (by omega) ?_
      refine s_i2l 25 dX10_isWord_24 rfl ?_
      refine s_lor 26 dX10_isWord_25 rfl ?_
      refine s_lstore_n (ls' := [_, _, _, _, _]) 27 dX10_isWord_26 rfl (Nat.le_of_ble_eq_true rfl) rfl rfl ?_
      refine s_iinc (ls' := [_, _, _, _, _]) 30 dX10_isWord_27 rfl rfl (Nat.le_of_ble_eq_true rfl) rfl rfl ?_
      refine s_goto 5 dX10_isWord_30 rfl ?_
      have ih9 := ih (j + 1) (by omega) (by omega) (by omega)
      rw [show (j + 1).toNat = j.toNat + 1 by omega] at ih9
      have e9 : pk (vL (wS k)) (j.toNat + 1) = (pk (vL (wS k)) j.toNat <<< ((iI 8).toInt64 &&& 63)) ||| (iI ((wS k).getD j.toNat 0)).toInt64 := (by show (pk (vL (wS k)) j.toNat <<< ((iI 8).toInt64 &&& 63)) ||| (iI (vL (wS k) (j.toNat : Nat))).toInt64 = _; rw [show ((j.toNat : Nat) : Int) = j by omega]; rfl)
      rw [e9] at ih9; exact ih9
  refine s_lconst 1 dX10_isWord_0 rfl ?_
  refine s_lstore_n (ls' := [_, _, _, _, _]) 2 dX10_isWord_1 rfl (Nat.le_of_ble_eq_true rfl) rfl rfl ?_
  refine s_iconst 3 dX10_isWord_2 rfl ?_
  refine s_istore (ls' := [_, _, _, _, _]) 5 dX10_isWord_3 rfl (Nat.le_of_ble_eq_true rfl) rfl rfl ?_
  exact loop ((wS k).length + 1) 0 (by omega) (by omega) (by omega)
theorem wS_eq : wS 5 = wS 28 ∧ wS 6 = wS 32 ∧ wS 7 = wS 33 ∧ wS 8 = wS 34 ∧ wS 9 = wS 35 ∧ wS 10 = wS 36 ∧ wS 11 = wS 37 := by decide +kernel
set_option maxHeartbeats 4000000 in
theorem c_X10_isName {E : ET} {I : MI} {L : ML} {R : MR} {Q : Option AV → MI → ML → MR → Prop} {bt : F1} {n a : Int} (hT : Topo R) (hS : TkC I L bt n a) (h : Q (some (vi (bI (nmP bt n a)))) I L R) : CT E M_X10_isName 161 yX10_isName [(vr (79))] I L R Q := by
  refine CT_of rfl rfl (fun h => by cases h) (Nat.le_of_ble_eq_true rfl) (fun X => ?_)
  show V X _ z0 0 [some (vr (79))] [] I L R _
  have s5 := hS.2.2.2.2.1
  obtain ⟨w5, w6, w7, w8, w9, w10, w11⟩ := wS_eq
  refine s_aload_n 1 dX10_isName_0 rfl rfl ?_
  refine s_getI 4 dX10_isName_1 rfl fl_X10_32 (fun _ _ _ _ => rfl) sh_79 (Nat.le_of_ble_eq_true rfl) (fun r_1 => ?_)
  rw [s5]
  refine s_iconst 5 dX10_isName_4 rfl ?_
  refine s_icmp_ne 75 8 dX10_isName_5 rfl rfl (by first | omega | (unfold clS; omega)) (by first | omega | (unfold clS; omega)) (fun h_5 => ?_) (fun h_5 => ?_)
  · skip
    refine s_iconst 76 dX10_isName_75 rfl ?_
    refine s_zret dX10_isName_76 rfl (by first | omega | exact bI_b _) rfl ?_
    first | exact ret_t ⟨(clS_i (u := 2) (by omega)).mp (by rw [h_5]; rfl), by rw [← w5]; assumption, by rw [← w6]; assumption, by rw [← w7]; assumption, by rw [← w8]; assumption, by rw [← w9]; assumption, by rw [← w10]; assumption, by rw [← w11]; assumption⟩ h | exact ret_f (fun z => by obtain ⟨z0, z1, z2, z3, z4, z5, z6, z7⟩ := z; rw [← w5] at z1; rw [← w6] at z2; rw [← w7] at z3; rw [← w8] at z4; rw [← w9] at z5; rw [← w10] at z6; rw [← w11] at z7; first | contradiction | (rw [z0] at h_5; exact h_5 rfl)) h
  refine s_aload_n 9 dX10_isName_8 rfl rfl ?_
  refine s_ldcS 11 dX10_isName_9 rfl (ks_X10_64) ?_
  refine s_callV0 (M' := M_X10_isWord) (as := [_]) 14 dX10_isName_11 rfl cw_X10_66 rfl rfl sh_79 rfl (by decide) (Nat.le_of_ble_eq_true rfl) (Nat.le_of_ble_eq_true rfl) (Nat.le_of_ble_eq_true rfl) (Nat.le_of_ble_eq_true rfl) ⟨rfl, rfl, rfl⟩ ?_
  refine c_X10_isWord hT rfl hS ?_
  refine s_ifb_ne 75 17 dX10_isName_14 rfl rfl (fun h_14 => ?_) (fun h_14 => ?_)
  · skip
    refine s_iconst 76 dX10_isName_75 rfl ?_
    refine s_zret dX10_isName_76 rfl (by first | omega | exact bI_b _) rfl ?_
    first | exact ret_t ⟨(clS_i (u := 2) (by omega)).mp (by rw [h_5]; rfl), by rw [← w5]; assumption, by rw [← w6]; assumption, by rw [← w7]; assumption, by rw [← w8]; assumption, by rw [← w9]; assumption, by rw [← w10]; assumption, by rw [← w11]; assumption⟩ h | exact ret_f (fun z => by obtain ⟨z0, z1, z2, z3, z4, z5, z6, z7⟩ := z; rw [← w5] at z1; rw [← w6] at z2; rw [← w7] at z3; rw [← w8] at z4; rw [← w9] at z5; rw [← w10] at z6; rw [← w11] at z7; first | contradiction | (rw [z0] at h_5; exact h_5 rfl)) h
  refine s_aload_n 18 dX10_isName_17 rfl rfl ?_
  refine s_ldcS 20 dX10_isName_18 rfl (ks_X10_70) ?_
  refine s_callV0 (M' := M_X10_isWord) (as := [_]) 23 dX10_isName_20 rfl cw_X10_66 rfl rfl sh_79 rfl (by decide) (Nat.le_of_ble_eq_true rfl) (Nat.le_of_ble_eq_true rfl) (Nat.le_of_ble_eq_true rfl) (Nat.le_of_ble_eq_true rfl) ⟨rfl, rfl, rfl⟩ ?_
  refine c_X10_isWord hT rfl hS ?_
  refine s_ifb_ne 75 26 dX10_isName_23 rfl rfl (fun h_23 => ?_) (fun h_23 => ?_)
  · skip
    refine s_iconst 76 dX10_isName_75 rfl ?_
    refine s_zret dX10_isName_76 rfl (by first | omega | exact bI_b _) rfl ?_
    first | exact ret_t ⟨(clS_i (u := 2) (by omega)).mp (by rw [h_5]; rfl), by rw [← w5]; assumption, by rw [← w6]; assumption, by rw [← w7]; assumption, by rw [← w8]; assumption, by rw [← w9]; assumption, by rw [← w10]; assumption, by rw [← w11]; assumption⟩ h | exact ret_f (fun z => by obtain ⟨z0, z1, z2, z3, z4, z5, z6, z7⟩ := z; rw [← w5] at z1; rw [← w6] at z2; rw [← w7] at z3; rw [← w8] at z4; rw [← w9] at z5; rw [← w10] at z6; rw [← w11] at z7; first | contradiction | (rw [z0] at h_5; exact h_5 rfl)) h
  refine s_aload_n 27 dX10_isName_26 rfl rfl ?_
  refine s_ldcS 29 dX10_isName_27 rfl (ks_X10_72) ?_
  refine s_callV0 (M' := M_X10_isWord) (as := [_]) 32 dX10_isName_29 rfl cw_X10_66 rfl rfl sh_79 rfl (by decide) (Nat.le_of_ble_eq_true rfl) (Nat.le_of_ble_eq_true rfl) (Nat.le_of_ble_eq_true rfl) (Nat.le_of_ble_eq_true rfl) ⟨rfl, rfl, rfl⟩ ?_
  refine c_X10_isWord hT rfl hS ?_
  refine s_ifb_ne 75 35 dX10_isName_32 rfl rfl (fun h_32 => ?_) (fun h_32 => ?_)
  · skip
    refine s_iconst 76 dX10_isName_75 rfl ?_
    refine s_zret dX10_isName_76 rfl (by first | omega | exact bI_b _) rfl ?_
    first | exact ret_t ⟨(clS_i (u := 2) (by omega)).mp (by rw [h_5]; rfl), by rw [← w5]; assumption, by rw [← w6]; assumption, by rw [← w7]; assumption, by rw [← w8]; assumption, by rw [← w9]; assumption, by rw [← w10]; assumption, by rw [← w11]; assumption⟩ h | exact ret_f (fun z => by obtain ⟨z0, z1, z2, z3, z4, z5, z6, z7⟩ := z; rw [← w5] at z1; rw [← w6] at z2; rw [← w7] at z3; rw [← w8] at z4; rw [← w9] at z5; rw [← w10] at z6; rw [← w11] at z7; first | contradiction | (rw [z0] at h_5; exact h_5 rfl)) h
  refine s_aload_n 36 dX10_isName_35 rfl rfl ?_
  refine s_ldcS 38 dX10_isName_36 rfl (ks_X10_74) ?_
  refine s_callV0 (M' := M_X10_isWord) (as := [_]) 41 dX10_isName_38 rfl cw_X10_66 rfl rfl sh_79 rfl (by decide) (Nat.le_of_ble_eq_true rfl) (Nat.le_of_ble_eq_true rfl) (Nat.le_of_ble_eq_true rfl) (Nat.le_of_ble_eq_true rfl) ⟨rfl, rfl, rfl⟩ ?_
  refine c_X10_isWord hT rfl hS ?_
  refine s_ifb_ne 75 44 dX10_isName_41 rfl rfl (fun h_41 => ?_) (fun h_41 => ?_)
  · skip
    refine s_iconst 76 dX10_isName_75 rfl ?_
    refine s_zret dX10_isName_76 rfl (by first | omega | exact bI_b _) rfl ?_
    first | exact ret_t ⟨(clS_i (u := 2) (by omega)).mp (by rw [h_5]; rfl), by rw [← w5]; assumption, by rw [← w6]; assumption, by rw [← w7]; assumption, by rw [← w8]; assumption, by rw [← w9]; assumption, by rw [← w10]; assumption, by rw [← w11]; assumption⟩ h | exact ret_f (fun z => by obtain ⟨z0, z1, z2, z3, z4, z5, z6, z7⟩ := z; rw [← w5] at z1; rw [← w6] at z2; rw [← w7] at z3; rw [← w8] at z4; rw [← w9] at z5; rw [← w10] at z6; rw [← w11] at z7; first | contradiction | (rw [z0] at h_5; exact h_5 rfl)) h
  refine s_aload_n 45 dX10_isName_44 rfl rfl ?_
  refine s_ldcS 47 dX10_isName_45 rfl (ks_X10_76) ?_
  refine s_callV0 (M' := M_X10_isWord) (as := [_]) 50 dX10_isName_47 rfl cw_X10_66 rfl rfl sh_79 rfl (by decide) (Nat.le_of_ble_eq_true rfl) (Nat.le_of_ble_eq_true rfl) (Nat.le_of_ble_eq_true rfl) (Nat.le_of_ble_eq_true rfl) ⟨rfl, rfl, rfl⟩ ?_
  refine c_X10_isWord hT rfl hS ?_
  refine s_ifb_ne 75 53 dX10_isName_50 rfl rfl (fun h_50 => ?_) (fun h_50 => ?_)
  · skip
    refine s_iconst 76 dX10_isName_75 rfl ?_
    refine s_zret dX10_isName_76 rfl (by first | omega | exact bI_b _) rfl ?_
    first | exact ret_t ⟨(clS_i (u := 2) (by omega)).mp (by rw [h_5]; rfl), by rw [← w5]; assumption, by rw [← w6]; assumption, by rw [← w7]; assumption, by rw [← w8]; assumption, by rw [← w9]; assumption, by rw [← w10]; assumption, by rw [← w11]; assumption⟩ h | exact ret_f (fun z => by obtain ⟨z0, z1, z2, z3, z4, z5, z6, z7⟩ := z; rw [← w5] at z1; rw [← w6] at z2; rw [← w7] at z3; rw [← w8] at z4; rw [← w9] at z5; rw [← w10] at z6; rw [← w11] at z7; first | contradiction | (rw [z0] at h_5; exact h_5 rfl)) h
  refine s_aload_n 54 dX10_isName_53 rfl rfl ?_
  refine s_ldcS 56 dX10_isName_54 rfl (ks_X10_78) ?_
  refine s_callV0 (M' := M_X10_isWord) (as := [_]) 59 dX10_isName_56 rfl cw_X10_66 rfl rfl sh_79 rfl (by decide) (Nat.le_of_ble_eq_true rfl) (Nat.le_of_ble_eq_true rfl) (Nat.le_of_ble_eq_true rfl) (Nat.le_of_ble_eq_true rfl) ⟨rfl, rfl, rfl⟩ ?_
  refine c_X10_isWord hT rfl hS ?_
  refine s_ifb_ne 75 62 dX10_isName_59 rfl rfl (fun h_59 => ?_) (fun h_59 => ?_)
  · skip
    refine s_iconst 76 dX10_isName_75 rfl ?_
    refine s_zret dX10_isName_76 rfl (by first | omega | exact bI_b _) rfl ?_
    first | exact ret_t ⟨(clS_i (u := 2) (by omega)).mp (by rw [h_5]; rfl), by rw [← w5]; assumption, by rw [← w6]; assumption, by rw [← w7]; assumption, by rw [← w8]; assumption, by rw [← w9]; assumption, by rw [← w10]; assumption, by rw [← w11]; assumption⟩ h | exact ret_f (fun z => by obtain ⟨z0, z1, z2, z3, z4, z5, z6, z7⟩ := z; rw [← w5] at z1; rw [← w6] at z2; rw [← w7] at z3; rw [← w8] at z4; rw [← w9] at z5; rw [← w10] at z6; rw [← w11] at z7; first | contradiction | (rw [z0] at h_5; exact h_5 rfl)) h
  refine s_aload_n 63 dX10_isName_62 rfl rfl ?_
  refine s_ldcS 65 dX10_isName_63 rfl (ks_X10_80) ?_
  refine s_callV0 (M' := M_X10_isWord) (as := [_]) 68 dX10_isName_65 rfl cw_X10_66 rfl rfl sh_79 rfl (by decide) (Nat.le_of_ble_eq_true rfl) (Nat.le_of_ble_eq_true rfl) (Nat.le_of_ble_eq_true rfl) (Nat.le_of_ble_eq_true rfl) ⟨rfl, rfl, rfl⟩ ?_
  refine c_X10_isWord hT rfl hS ?_
  refine s_ifb_ne 75 71 dX10_isName_68 rfl rfl (fun h_68 => ?_) (fun h_68 => ?_)
  · skip
    refine s_iconst 76 dX10_isName_75 rfl ?_
    refine s_zret dX10_isName_76 rfl (by first | omega | exact bI_b _) rfl ?_
    first | exact ret_t ⟨(clS_i (u := 2) (by omega)).mp (by rw [h_5]; rfl), by rw [← w5]; assumption, by rw [← w6]; assumption, by rw [← w7]; assumption, by rw [← w8]; assumption, by rw [← w9]; assumption, by rw [← w10]; assumption, by rw [← w11]; assumption⟩ h | exact ret_f (fun z => by obtain ⟨z0, z1, z2, z3, z4, z5, z6, z7⟩ := z; rw [← w5] at z1; rw [← w6] at z2; rw [← w7] at z3; rw [← w8] at z4; rw [← w9] at z5; rw [← w10] at z6; rw [← w11] at z7; first | contradiction | (rw [z0] at h_5; exact h_5 rfl)) h
  refine s_iconst 72 dX10_isName_71 rfl ?_
  refine s_goto 76 dX10_isName_72 rfl ?_
  refine s_zret dX10_isName_76 rfl (by first | omega | exact bI_b _) rfl ?_
  first | exact ret_t ⟨(clS_i (u := 2) (by omega)).mp (by rw [h_5]; rfl), by rw [← w5]; assumption, by rw [← w6]; assumption, by rw [← w7]; assumption, by rw [← w8]; assumption, by rw [← w9]; assumption, by rw [← w10]; assumption, by rw [← w11]; assumption⟩ h | exact ret_f (fun z => by obtain ⟨z0, z1, z2, z3, z4, z5, z6, z7⟩ := z; rw [← w5] at z1; rw [← w6] at z2; rw [← w7] at z3; rw [← w8] at z4; rw [← w9] at z5; rw [← w10] at z6; rw [← w11] at z7; first | contradiction | (rw [z0] at h_5; exact h_5 rfl)) h
